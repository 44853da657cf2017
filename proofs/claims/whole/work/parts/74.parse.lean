/-! ===== the reader, pure ===== -/
theorem lxA_le {f : Nat → Int} {z : Int} {x : Nat} (h : (x : Int) ≤ z) : (lxA f z x : Int) ≤ z ∧ x ≤ lxA f z x := skp_le (P := blk) (by decide) 160 x h
theorem lxN_le {f : Nat → Int} {z : Int} {x : Nat} (h : (x : Int) ≤ z) : (lxN f z x : Int) ≤ z ∧ lxA f z x ≤ lxN f z x ∧ (lxT f z x ≠ 0 → lxA f z x < lxN f z x) := by
  have ha := lxA_le (f := f) h
  unfold lxN lxT
  by_cases c1 : ltA f z (lxA f z x) = -1
  · rw [if_pos c1, if_pos c1]
    omega
  · rw [if_neg c1, if_neg c1]
    by_cases c2 : ltr (ltA f z (lxA f z x)) = true
    · rw [if_pos c2, if_pos c2]
      have hl := ltA_lt (P := ltr) (by decide) c2
      have e : skp ltr f z 160 (lxA f z x) = skp ltr f z 159 (lxA f z x + 1) := if_pos c2
      have := skp_le (P := ltr) (by decide) (f := f) 159 (lxA f z x + 1) (z := z) (by omega)
      rw [e]
      omega
    · rw [if_neg c2, if_neg c2]
      by_cases c3 : dgt (ltA f z (lxA f z x)) = true
      · rw [if_pos c3, if_pos c3]
        have hl := ltA_lt (P := dgt) (by decide) c3
        have e : nmr f z 160 (lxA f z x) 0 = nmr f z 159 (lxA f z x + 1) (wrap (wrap (wrap (0 * 10) + ltA f z (lxA f z x : Int)) - 48)) := if_pos c3
        have := nmr_le (f := f) 159 (lxA f z x + 1) (wrap (wrap (wrap (0 * 10) + ltA f z (lxA f z x : Int)) - 48)) (z := z) (by omega)
        rw [e]
        omega
      · rw [if_neg c3, if_neg c3]
        have hl : 0 ≤ ((lxA f z x : Nat) : Int) ∧ ((lxA f z x : Nat) : Int) < z := by
          by_cases q : 0 ≤ ((lxA f z x : Nat) : Int) ∧ ((lxA f z x : Nat) : Int) < z
          · exact q
          · exact absurd (if_neg q) c1
        omega
theorem lxT_end {f : Nat → Int} {z : Int} {x : Nat} (h : z ≤ (x : Int)) : lxT f z x = 0 := by
  have hb : ltA f z (x : Int) = -1 := if_neg (by omega)
  have ha : lxA f z x = x := by
    unfold lxA
    show (if blk (ltA f z (x : Int)) = true then _ else x) = x
    rw [hb, if_neg (by decide)]
  unfold lxT
  rw [ha, if_pos hb]
theorem dgt_r {c : Int} (h : dgt c = true) : 48 ≤ c ∧ c ≤ 57 := of_decide_eq_true h
theorem nmr_v {f : Nat → Int} {z : Int} : ∀ (m x : Nat) (v : Int) (t : Nat), 0 ≤ v → v < 10 ^ t → (x : Int) ≤ z → (nmr f z m x v).1 - x + t ≤ 4 → 0 ≤ (nmr f z m x v).2 ∧ (nmr f z m x v).2 < 10000
  | 0, x, v, t, h0, h1, hx, h2 => by
    have ht : t ≤ 4 := by omega
    have : (10 : Int) ^ t ≤ 10 ^ 4 := by
      match t, ht with
      | 0, _ => decide
      | 1, _ => decide
      | 2, _ => decide
      | 3, _ => decide
      | 4, _ => decide
    show 0 ≤ v ∧ v < 10000
    omega
  | m + 1, x, v, t, h0, h1, hx, h2 => by
    by_cases c : dgt (ltA f z (x : Int)) = true
    · have e : nmr f z (m + 1) x v = nmr f z m (x + 1) (wrap (wrap (wrap (v * 10) + ltA f z (x : Int)) - 48)) := if_pos c
      have hl := ltA_lt (P := dgt) (by decide) c
      have hr := dgt_r c
      have hle := nmr_le (f := f) m (x + 1) (wrap (wrap (wrap (v * 10) + ltA f z (x : Int)) - 48)) (z := z) (by omega)
      rw [e] at h2 ⊢
      have ht : t ≤ 3 := by omega
      have hv : v < 1000 := by
        have : (10 : Int) ^ t ≤ 10 ^ 3 := by
          match t, ht with
          | 0, _ => decide
          | 1, _ => decide
          | 2, _ => decide
          | 3, _ => decide
        omega
      have ew : wrap (wrap (wrap (v * 10) + ltA f z (x : Int)) - 48) = v * 10 + ltA f z (x : Int) - 48 := by
        rw [wrap_id (x := v * 10) (by omega), wrap_id (x := v * 10 + ltA f z (x : Int)) (by omega), wrap_id (by omega)]
      rw [ew] at h2 ⊢
      refine nmr_v m (x + 1) _ (t + 1) (by omega) ?_ (by omega) (by omega)
      rw [Int.pow_succ]
      omega
    · have e : nmr f z (m + 1) x v = (x, v) := if_neg c
      rw [e] at h2 ⊢
      have ht : t ≤ 4 := by omega
      have : (10 : Int) ^ t ≤ 10 ^ 4 := by
        match t, ht with
        | 0, _ => decide
        | 1, _ => decide
        | 2, _ => decide
        | 3, _ => decide
        | 4, _ => decide
      show 0 ≤ v ∧ v < 10000
      omega
theorem lxT_2 {f : Nat → Int} {z : Int} {x : Nat} (h : lxT f z x = 2) : ltA f z (lxA f z x) ≠ -1 ∧ ¬ ltr (ltA f z (lxA f z x)) = true ∧ dgt (ltA f z (lxA f z x)) = true ∧ (nmr f z 160 (lxA f z x) 0).1 - lxA f z x ≤ 4 := by
  unfold lxT at h
  by_cases c1 : ltA f z (lxA f z x) = -1
  · rw [if_pos c1] at h
    cases h
  · rw [if_neg c1] at h
    by_cases c2 : ltr (ltA f z (lxA f z x)) = true
    · rw [if_pos c2] at h
      have := wdT2 f (lxA f z x) (skp ltr f z 160 (lxA f z x)) 12
      omega
    · rw [if_neg c2] at h
      by_cases c3 : dgt (ltA f z (lxA f z x)) = true
      · rw [if_pos c3] at h
        split at h
        · cases h
        · exact ⟨c1, c2, c3, by omega⟩
      · rw [if_neg c3] at h
        split at h
        · rename_i c4
          exact absurd ⟨c4, h⟩ (sgnC2 _)
        · cases h
theorem lxV_r {f : Nat → Int} {z : Int} {x : Nat} (hx : (x : Int) ≤ z) (h : lxT f z x = 2) : 0 ≤ lxV f z x ∧ lxV f z x < 10000 :=
  nmr_v 160 (lxA f z x) 0 0 (by omega) (by decide) (lxA_le hx).1 (by have := (lxT_2 h).2.2.2; omega)
/-- what is worked out of the names -/
abbrev Vl := (Int → Int) → Int
/-- a fault's place, or how far it was read, the code and its worth -/
abbrev PR := Sum Nat (Nat × List Int × Vl)
def pbd (r : PR) (k : Nat → List Int → Vl → PR) : PR := match r with
  | .inl p => .inl p
  | .inr q => k q.1 q.2.1 q.2.2
def gL (f : Nat → Int) (z : Int) (op : Int → Int) (sub : Nat → PR) : Nat → Nat → List Int → Vl → PR
  | 0, x, c, v => .inr (x, c, v)
  | m + 1, x, c, v => if op (lxT f z x) = 0 then .inr (x, c, v) else pbd (sub (lxN f z x)) (fun y c' v' => gL f z op sub m y (c ++ c' ++ [op (lxT f z x)]) (fun e => jn (op (lxT f z x)) (v e) (v' e)))
def gBn (f : Nat → Int) (z : Int) (op : Int → Int) (m : Nat) (sub : Nat → PR) (x : Nat) : PR := pbd (sub x) (fun y c v => gL f z op sub m y c v)
def opT (t : Int) : Int := if t = 42 then -14 else 0
def opS (t : Int) : Int := if t = 43 then -12 else if t = 45 then -13 else 0
def opC (t : Int) : Int := if t = 60 then -10 else if t = 61 then -11 else 0
def opA (t : Int) : Int := if t = 260 then -8 else 0
def opO (t : Int) : Int := if t = 259 then -7 else 0
abbrev P3 := (Nat → PR) × (Nat → PR) × (Nat → PR)
def oneP (f : Nat → Int) (z : Int) (o : Option P3) (x : Nat) : PR :=
  if lxT f z x = 2 then .inr (lxN f z x, [lxV f z x], fun _ => lxV f z x)
  else if 262 ≤ lxT f z x ∧ lxT f z x < 268 then .inr (lxN f z x, [-1 - (lxT f z x - 262)], fun e => e (-1 - (lxT f z x - 262)))
  else if lxT f z x = 45 then (match o with
    | none => .inl (lxA f z x)
    | some q => pbd (q.1 (lxN f z x)) (fun y c v => .inr (y, c ++ [-15], fun e => wrap (-(v e)))))
  else if lxT f z x = 40 then (match o with
    | none => .inl (lxA f z x)
    | some q => pbd (q.2.2 (lxN f z x)) (fun y c v => if lxT f z y = 41 then .inr (lxN f z y, c, v) else .inl (lxA f z y)))
  else .inl (lxA f z x)
def cmpP (f : Nat → Int) (z : Int) (one : Nat → PR) : Nat → PR := gBn f z opC 1 (gBn f z opS 160 (gBn f z opT 160 one))
def notP (f : Nat → Int) (z : Int) (o : Option P3) (cmp : Nat → PR) (x : Nat) : PR :=
  if lxT f z x = 261 then (match o with
    | none => .inl (lxA f z x)
    | some q => pbd (q.2.1 (lxN f z x)) (fun y c v => .inr (y, c ++ [-9], fun e => if v e = 0 then 1 else 0)))
  else cmp x
def bld (f : Nat → Int) (z : Int) (o : Option P3) : P3 := (oneP f z o, notP f z o (cmpP f z (oneP f z o)), gBn f z opO 160 (gBn f z opA 160 (notP f z o (cmpP f z (oneP f z o)))))
def lv (f : Nat → Int) (z : Int) : Nat → P3
  | 0 => bld f z none
  | k + 1 => bld f z (some (lv f z k))
def prtP (f : Nat → Int) (z : Int) (key : Int) (x : Nat) : PR :=
  if lxT f z x = key then pbd ((lv f z 5).2.2 (lxN f z x)) (fun y c v => if lxT f z y = 59 then .inr (lxN f z y, c, v) else .inl (lxA f z y)) else .inl (lxA f z x)
/-- a whole text: the place of its fault, or its three parts -/
abbrev TX := Sum Nat ((List Int × Vl) × (List Int × Vl) × (List Int × Vl))
def txtP (f : Nat → Int) (z : Int) : TX := match prtP f z 256 0 with
  | .inl p => .inl p
  | .inr q0 => match prtP f z 257 q0.1 with
    | .inl p => .inl p
    | .inr q1 => match prtP f z 258 q1.1 with
      | .inl p => .inl p
      | .inr q2 => if lxT f z q2.1 = 0 then .inr (q0.2, q1.2, q2.2) else .inl (lxA f z q2.1)
/-- run of a code list -/
def rnL (e : Int → Int) (c : List Int) (s : List Int) : List Int := c.foldl (fun s k => stp e k s) s
theorem rnL_app (e : Int → Int) (a b s : List Int) : rnL e (a ++ b) s = rnL e b (rnL e a s) := List.foldl_append
def PQ (z : Int) (x : Nat) (r : PR) : Prop := match r with
  | .inl _ => True
  | .inr q => x + q.2.1.length ≤ q.1 ∧ (q.1 : Int) ≤ z ∧ ∀ e s, rnL e q.2.1 s = q.2.2 e :: s
theorem PQ.bd {z : Int} {x : Nat} {r : PR} {k : Nat → List Int → Vl → PR} {x0 : Nat} (h : PQ z x r) (hk : ∀ (y : Nat) (c : List Int) (v : Vl), x + c.length ≤ y → (y : Int) ≤ z → (∀ e s, rnL e c s = v e :: s) → PQ z x0 (k y c v)) : PQ z x0 (pbd r k) := by
  cases r with
  | inl p => trivial
  | inr q => exact hk _ _ _ h.1 h.2.1 h.2.2
/-- a sign of two -/
def op2 (op : Int → Int) : Prop := ∀ t, op t = 0 ∨ (t ≠ 0 ∧ op t ≤ -7 ∧ op t ≠ -9 ∧ op t ≠ -15)
theorem op2T : op2 opT := by intro t; unfold opT; split <;> omega
theorem op2S : op2 opS := by intro t; unfold opS; (repeat' split) <;> omega
theorem op2C : op2 opC := by intro t; unfold opC; (repeat' split) <;> omega
theorem op2A : op2 opA := by intro t; unfold opA; split <;> omega
theorem op2O : op2 opO := by intro t; unfold opO; split <;> omega
theorem stp_op {e : Int → Int} {c a b : Int} {s : List Int} (h : c ≤ -7 ∧ c ≠ -9 ∧ c ≠ -15) : stp e c (b :: a :: s) = jn c a b :: s := by
  unfold stp
  rw [if_neg (by omega), if_neg (by omega)]
  unfold sgn
  rw [if_neg (by omega), if_neg (by omega)]
  rfl
theorem PQ_gL {f : Nat → Int} {z : Int} {op : Int → Int} (ho : op2 op) {sub : Nat → PR} (hs : ∀ x : Nat, (x : Int) ≤ z → PQ z x (sub x)) {x0 : Nat} : ∀ (m x : Nat) (c : List Int) (v : Vl), x0 + c.length ≤ x → (x : Int) ≤ z → (∀ e s, rnL e c s = v e :: s) → PQ z x0 (gL f z op sub m x c v)
  | 0, x, c, v, h1, h2, h3 => ⟨h1, h2, h3⟩
  | m + 1, x, c, v, h1, h2, h3 => by
    unfold gL
    split
    · exact ⟨h1, h2, h3⟩
    · rename_i hne
      have h := ho (lxT f z x)
      have hx := lxN_le (f := f) h2
      have ha := lxA_le (f := f) h2
      have hg := hx.2.2 (by omega)
      refine (hs (lxN f z x) hx.1).bd (fun y c' v' a1 a2 a3 => PQ_gL ho hs m y _ _ ?_ a2 ?_)
      · simp only [List.length_append, List.length_cons, List.length_nil]
        omega
      · intro e s
        rw [rnL_app, rnL_app, h3, a3]
        show stp e (op (lxT f z x)) (v' e :: v e :: s) = _
        exact stp_op (by omega)
theorem PQ_gB {f : Nat → Int} {z : Int} {op : Int → Int} (ho : op2 op) {m : Nat} {sub : Nat → PR} (hs : ∀ x : Nat, (x : Int) ≤ z → PQ z x (sub x)) (x : Nat) (hx : (x : Int) ≤ z) : PQ z x (gBn f z op m sub x) :=
  (hs x hx).bd (fun y c v a1 a2 a3 => PQ_gL ho hs m y c v a1 a2 a3)
def OK3 (z : Int) (q : P3) : Prop := (∀ x : Nat, (x : Int) ≤ z → PQ z x (q.1 x)) ∧ (∀ x : Nat, (x : Int) ≤ z → PQ z x (q.2.1 x)) ∧ ∀ x : Nat, (x : Int) ≤ z → PQ z x (q.2.2 x)
theorem PQ_one {f : Nat → Int} {z : Int} {o : Option P3} (ho : ∀ q, o = some q → OK3 z q) (x : Nat) (hx : (x : Int) ≤ z) : PQ z x (oneP f z o x) := by
  have hn := lxN_le (f := f) hx
  have ha := lxA_le (f := f) hx
  unfold oneP
  split
  · rename_i h
    have hv := lxV_r hx h
    have := hn.2.2 (by omega)
    refine ⟨?_, hn.1, fun e s => ?_⟩
    · show x + 1 ≤ lxN f z x
      omega
    · show stp e (lxV f z x) s = _
      unfold stp
      rw [if_pos hv.1]
  · split
    · rename_i h
      have := hn.2.2 (by omega)
      refine ⟨?_, hn.1, fun e s => ?_⟩
      · show x + 1 ≤ lxN f z x
        omega
      · show stp e (-1 - (lxT f z x - 262)) s = _
        unfold stp
        rw [if_neg (by omega), if_pos (by omega)]
    · split
      · rename_i h
        have := hn.2.2 (by omega)
        cases o with
        | none => trivial
        | some q =>
          refine ((ho q rfl).1 (lxN f z x) hn.1).bd (fun y c v a1 a2 a3 => ⟨?_, a2, fun e s => ?_⟩)
          · show x + (c ++ [-15]).length ≤ y
            simp only [List.length_append, List.length_cons, List.length_nil]
            omega
          · show rnL e (c ++ [-15]) s = _
            rw [rnL_app, a3]
            rfl
      · split
        · rename_i h
          have := hn.2.2 (by omega)
          cases o with
          | none => trivial
          | some q =>
            refine ((ho q rfl).2.2 (lxN f z x) hn.1).bd (fun y c v a1 a2 a3 => ?_)
            have hy := lxN_le (f := f) a2
            have hya := lxA_le (f := f) a2
            show PQ z x (if lxT f z y = 41 then _ else _)
            split
            · refine ⟨?_, hy.1, a3⟩
              show x + c.length ≤ lxN f z y
              omega
            · trivial
        · trivial
theorem PQ_not {f : Nat → Int} {z : Int} {o : Option P3} {cmp : Nat → PR} (ho : ∀ q, o = some q → OK3 z q) (hc : ∀ x : Nat, (x : Int) ≤ z → PQ z x (cmp x)) (x : Nat) (hx : (x : Int) ≤ z) : PQ z x (notP f z o cmp x) := by
  have hn := lxN_le (f := f) hx
  have ha := lxA_le (f := f) hx
  unfold notP
  split
  · rename_i h
    have := hn.2.2 (by omega)
    cases o with
    | none => trivial
    | some q =>
      refine ((ho q rfl).2.1 (lxN f z x) hn.1).bd (fun y c v a1 a2 a3 => ⟨?_, a2, fun e s => ?_⟩)
      · show x + (c ++ [-9]).length ≤ y
        simp only [List.length_append, List.length_cons, List.length_nil]
        omega
      · show rnL e (c ++ [-9]) s = _
        rw [rnL_app, a3]
        rfl
  · exact hc x hx
theorem PQ_cmp {f : Nat → Int} {z : Int} {one : Nat → PR} (h : ∀ x : Nat, (x : Int) ≤ z → PQ z x (one x)) : ∀ x : Nat, (x : Int) ≤ z → PQ z x (cmpP f z one x) :=
  fun x hx => PQ_gB op2C (PQ_gB op2S (PQ_gB op2T h)) x hx
theorem OK3_bld {f : Nat → Int} {z : Int} {o : Option P3} (ho : ∀ q, o = some q → OK3 z q) : OK3 z (bld f z o) :=
  ⟨PQ_one ho, PQ_not ho (PQ_cmp (PQ_one ho)), fun x hx => PQ_gB op2O (PQ_gB op2A (PQ_not ho (PQ_cmp (PQ_one ho)))) x hx⟩
theorem OK3_lv {f : Nat → Int} {z : Int} : ∀ k, OK3 z (lv f z k)
  | 0 => OK3_bld (fun q h => by cases h)
  | k + 1 => OK3_bld (fun q h => by cases h; exact OK3_lv k)
theorem PQ_prt {f : Nat → Int} {z : Int} {key : Int} (hk : key ≠ 0) (x : Nat) (hx : (x : Int) ≤ z) : PQ z x (prtP f z key x) := by
  have hn := lxN_le (f := f) hx
  have ha := lxA_le (f := f) hx
  unfold prtP
  split
  · rename_i h
    refine ((OK3_lv (f := f) (z := z) 5).2.2 (lxN f z x) hn.1).bd (fun y c v a1 a2 a3 => ?_)
    have hy := lxN_le (f := f) a2
    have hya := lxA_le (f := f) a2
    show PQ z x (if lxT f z y = 59 then _ else _)
    split
    · refine ⟨?_, hy.1, a3⟩
      show x + c.length ≤ lxN f z y
      omega
    · trivial
  · trivial
