/-! ===== orders, apart from where they are kept ===== -/
abbrev Od : Type := List Int
/-- the orders found, each with its passings, nearest first; whom someone passed -/
abbrev St : Type := List (Od × Int) × Int
def encN (b o : Int) (f : Nat → Int) : Nat → Int
  | 0 => 0
  | p + 1 => encN b o f p * b + f p + o
abbrev at0 (x : Od) (p : Nat) : Int := x.getD p 0
def swp (x : Od) (p : Nat) : Od := (x.set (p - 1) (at0 x p)).set p (at0 x (p - 1))
def keepA (l : List (Od × Int)) (y : Od) (w : Int) : List (Od × Int) := if y ∈ l.map Prod.fst then l else l ++ [(y, w)]
def spA (cn : Od → Nat → Bool) (x : Od) (w : Int) : Nat → Nat → St → St
  | 0, _, S => S
  | m + 1, p, S => spA cn x w m (p + 1) (if cn x p = true then (keepA S.1 (swp x p) (w + 1), bor S.2 (shl 1 (at0 x (p - 1)))) else S)
def bfA (cn : Od → Nat → Bool) (N : Nat) : Nat → Nat → St → St
  | 0, _, S => S
  | m + 1, i, S => if i < S.1.length then bfA cn N m (i + 1) (spA cn (S.1.getD i ([], 0)).1 (S.1.getD i ([], 0)).2 (N - 1) 1 S) else S
def findA (cn : Od → Nat → Bool) (x : Od) : St := bfA cn x.length 121 0 ([(x, 0)], 0)
/-! encodings -/
theorem encN_r {b o : Int} (hb : 1 ≤ b) (ho : 0 ≤ o) {f : Nat → Int} : ∀ n : Nat, (∀ p, p < n → 0 ≤ f p ∧ f p + o < b) → 0 ≤ encN b o f n ∧ encN b o f n < b ^ n
  | 0, _ => ⟨by unfold encN; omega, by unfold encN; rw [Int.pow_zero]; omega⟩
  | n + 1, h => by
    obtain ⟨h1, h2⟩ := encN_r hb ho (f := f) n (fun p hp => h p (by omega))
    have h3 := h n (by omega)
    unfold encN
    rw [Int.pow_succ]
    refine ⟨?_, ?_⟩
    · have := Int.mul_nonneg h1 (show 0 ≤ b by omega); omega
    · have h4 : (encN b o f n + 1) * b ≤ b ^ n * b := Int.mul_le_mul_of_nonneg_right (by omega) (by omega)
      rw [Int.add_mul, Int.one_mul] at h4
      omega
theorem encN_mod {b o : Int} (hb : 1 ≤ b) (ho : 0 ≤ o) {f : Nat → Int} {n : Nat} (h : ∀ p, p < n + 1 → 0 ≤ f p ∧ f p + o < b) : Int.tmod (encN b o f (n + 1)) b = f n + o ∧ Int.tdiv (encN b o f (n + 1)) b = encN b o f n := by
  have h1 := (encN_r hb ho (f := f) n (fun p hp => h p (by omega))).1
  have h2 := (encN_r hb ho (f := f) (n + 1) h).1
  have h3 := h n (by omega)
  have e : encN b o f (n + 1) = (f n + o) + b * encN b o f n := by show encN b o f n * b + f n + o = _; rw [Int.mul_comm]; omega
  rw [Int.tmod_eq_emod_of_nonneg h2, Int.tdiv_eq_ediv_of_nonneg h2, e]
  refine ⟨?_, ?_⟩
  · rw [Int.add_mul_emod_self_left, Int.emod_eq_of_lt (by omega) (by omega)]
  · rw [Int.add_mul_ediv_left _ _ (by omega), Int.ediv_eq_zero_of_lt (by omega) (by omega), Int.zero_add]
theorem encN_cong {b o : Int} {f h : Nat → Int} : ∀ n : Nat, (∀ p, p < n → f p = h p) → encN b o f n = encN b o h n
  | 0, _ => rfl
  | n + 1, e => by unfold encN; rw [encN_cong n (fun p hp => e p (by omega)), e n (by omega)]
theorem encN_inj {b o : Int} (hb : 1 ≤ b) (ho : 0 ≤ o) {f h : Nat → Int} : ∀ n : Nat, (∀ p, p < n → 0 ≤ f p ∧ f p + o < b) → (∀ p, p < n → 0 ≤ h p ∧ h p + o < b) → encN b o f n = encN b o h n → ∀ p, p < n → f p = h p
  | 0, _, _, _, p, hp => by omega
  | n + 1, h1, h2, e, p, hp => by
    have m1 := encN_mod hb ho (f := f) (n := n) h1
    have m2 := encN_mod hb ho (f := h) (n := n) h2
    rw [e] at m1
    by_cases c : p = n
    · subst c; have := m1.1.symm.trans m2.1; omega
    · exact encN_inj hb ho n (fun q hq => h1 q (by omega)) (fun q hq => h2 q (by omega)) (m1.2.symm.trans m2.2) p (by omega)
/-! a line of N, each of 0 .. 4 -/
def okO (N : Nat) (x : Od) : Prop := x.length = N ∧ ∀ a ∈ x, 0 ≤ a ∧ a ≤ 4
theorem okO.at {N : Nat} {x : Od} (h : okO N x) {p : Nat} (hp : p < N) : 0 ≤ at0 x p ∧ at0 x p ≤ 4 := by
  have hl := h.1
  have e : at0 x p = x[p]'(by omega) := by simp [at0, List.getD_eq_getElem?_getD, List.getElem?_eq_getElem (show p < x.length by omega)]
  rw [e]
  exact h.2 _ (List.getElem_mem _)
theorem od_ext {N : Nat} {x y : Od} (hx : x.length = N) (hy : y.length = N) (h : ∀ p, p < N → at0 x p = at0 y p) : x = y := by
  apply List.ext_getElem (by omega)
  intro i h1 h2
  have := h i (by omega)
  simpa [at0, List.getD_eq_getElem?_getD, List.getElem?_eq_getElem h1, List.getElem?_eq_getElem h2] using this
theorem swp_len (x : Od) (p : Nat) : (swp x p).length = x.length := by simp [swp]
theorem swp_at {x : Od} {p : Nat} (h1 : 1 ≤ p) (hp : p < x.length) (q : Nat) : at0 (swp x p) q = if q = p then at0 x (p - 1) else if q = p - 1 then at0 x p else at0 x q := by
  have e0 : at0 (swp x p) q = ((x.set (p - 1) (at0 x p)).set p (at0 x (p - 1)))[q]?.getD 0 := by simp [at0, swp, List.getD_eq_getElem?_getD]
  rw [e0, List.getElem?_set, List.getElem?_set]
  by_cases c1 : q = p
  · subst c1; simp [hp]
  · rw [if_neg (fun e => c1 e.symm), if_neg c1]
    by_cases c2 : q = p - 1
    · subst c2; simp [show p - 1 < x.length by omega]
    · rw [if_neg (fun e => c2 e.symm), if_neg c2]
      simp [at0, List.getD_eq_getElem?_getD]
theorem swp_perm {x : Od} {p : Nat} (h1 : 1 ≤ p) (hp : p < x.length) : (swp x p).Perm x := by
  obtain ⟨q, rfl⟩ : ∃ q, p = q + 1 := ⟨p - 1, by omega⟩
  have e : x = x.take q ++ x[q]'(by omega) :: x[q + 1]'(by omega) :: x.drop (q + 2) := by
    rw [List.getElem_cons_drop, List.getElem_cons_drop, List.take_append_drop]
  have e2 : swp x (q + 1) = x.take q ++ x[q + 1]'(by omega) :: x[q]'(by omega) :: x.drop (q + 2) := by
    apply od_ext (N := x.length) (swp_len _ _) (by simp; omega)
    intro r hr
    rw [swp_at (by omega) (by omega)]
    simp only [Nat.add_sub_cancel]
    have tl : (x.take q).length = q := by simp; omega
    rcases Nat.lt_trichotomy r q with c | c | c
    · rw [if_neg (by omega), if_neg (by omega)]
      simp [at0, List.getD_eq_getElem?_getD, List.getElem?_append_left (show r < (x.take q).length by omega), List.getElem?_take, c]
    · subst c
      rw [if_neg (by omega), if_pos rfl]
      simp [at0, List.getD_eq_getElem?_getD, List.getElem?_append_right (show (x.take r).length ≤ r by omega), tl, List.getElem?_eq_getElem (show r + 1 < x.length by omega)]
    · by_cases c2 : r = q + 1
      · subst c2
        rw [if_pos rfl]
        simp [at0, List.getD_eq_getElem?_getD, List.getElem?_append_right (show (x.take q).length ≤ q + 1 by omega), tl, List.getElem?_eq_getElem (show q < x.length by omega)]
      · obtain ⟨s, rfl⟩ : ∃ s, r = q + 2 + s := ⟨r - q - 2, by omega⟩
        rw [if_neg (by omega), if_neg (by omega)]
        simp [at0, List.getD_eq_getElem?_getD, List.getElem?_append_right (show (x.take q).length ≤ q + 2 + s by omega), tl, show q + 2 + s - q = s + 1 + 1 by omega]
  rw [e2]
  conv => rhs; rw [e]
  exact List.Perm.append_left _ (List.Perm.swap _ _ _)
/-! no more than 120 of them -/
def insA (a : Int) : Od → List Od
  | [] => [[a]]
  | b :: l => (a :: b :: l) :: (insA a l).map (fun z => b :: z)
def perms : Od → List Od
  | [] => [[]]
  | a :: l => (perms l).flatMap (insA a)
theorem ins_len (a : Int) : ∀ l : Od, (insA a l).length = l.length + 1
  | [] => rfl
  | b :: l => by simp [insA, ins_len a l]
theorem ins_mem (a : Int) : ∀ (u v : Od), u ++ a :: v ∈ insA a (u ++ v)
  | [], [] => by simp [insA]
  | [], b :: v => by simp [insA]
  | c :: u, v => by
    show c :: (u ++ a :: v) ∈ (a :: c :: (u ++ v)) :: (insA a (u ++ v)).map (fun z => c :: z)
    exact List.mem_cons_of_mem _ (List.mem_map.mpr ⟨_, ins_mem a u v, rfl⟩)
theorem perms_mem : ∀ (x y : Od), y.Perm x → y ∈ perms x
  | [], y, h => by rw [List.Perm.eq_nil h]; simp [perms]
  | a :: l, y, h => by
    have hm : a ∈ y := h.symm.subset (List.mem_cons_self)
    obtain ⟨u, v, rfl⟩ := List.append_of_mem hm
    have h2 : (u ++ v).Perm l := List.Perm.cons_inv ((List.perm_middle (l₁ := u) (l₂ := v) (a := a)).symm.trans h)
    exact List.mem_flatMap.mpr ⟨u ++ v, perms_mem l _ h2, ins_mem a u v⟩
def fac : Nat → Nat
  | 0 => 1
  | n + 1 => (n + 1) * fac n
theorem perms_lenEach : ∀ (x : Od), ∀ y ∈ perms x, y.length = x.length
  | [], y, h => by simp [perms] at h; rw [h]
  | a :: l, y, h => by
    obtain ⟨z, hz, hy⟩ := List.mem_flatMap.mp h
    have e := perms_lenEach l z hz
    have : ∀ (w : Od), ∀ y ∈ insA a w, y.length = w.length + 1 := by
      intro w
      induction w with
      | nil => intro y hy; simp [insA] at hy; rw [hy]; rfl
      | cons b w ih =>
        intro y hy
        simp only [insA, List.mem_cons, List.mem_map] at hy
        rcases hy with rfl | ⟨z, hz, rfl⟩
        · rfl
        · simp [ih z hz]
    rw [this z y hy, e]
    rfl
theorem flat_len {α β : Type} (f : α → List β) (k : Nat) : ∀ l : List α, (∀ a ∈ l, (f a).length = k) → (l.flatMap f).length = l.length * k
  | [], _ => by simp
  | a :: l, h => by
    rw [List.flatMap_cons, List.length_append, h a (List.mem_cons_self), flat_len f k l (fun b hb => h b (List.mem_cons_of_mem _ hb)), List.length_cons, Nat.succ_mul]
    omega
theorem perms_len : ∀ x : Od, (perms x).length = fac x.length
  | [] => rfl
  | a :: l => by
    show ((perms l).flatMap (insA a)).length = (l.length + 1) * fac l.length
    rw [flat_len (insA a) (l.length + 1) (perms l) (fun z hz => by rw [ins_len, perms_lenEach l z hz]), perms_len l, Nat.mul_comm]
theorem nodup_le {α : Type} [DecidableEq α] : ∀ (l k : List α), l.Nodup → (∀ a ∈ l, a ∈ k) → l.length ≤ k.length
  | [], _, _, _ => by simp
  | a :: l, k, h, hs => by
    have h1 := List.nodup_cons.mp h
    have := nodup_le l (k.erase a) h1.2 (fun b hb => (List.mem_erase_of_ne (show b ≠ a from fun e => h1.1 (e ▸ hb))).mpr (hs b (List.mem_cons_of_mem _ hb)))
    have h3 := List.length_erase_of_mem (hs a (List.mem_cons_self))
    have h4 : 0 < k.length := List.length_pos_of_mem (hs a (List.mem_cons_self))
    rw [List.length_cons]
    omega
theorem fac_le {n : Nat} (h : n ≤ 5) : fac n ≤ 120 := by
  rcases (show n = 0 ∨ n = 1 ∨ n = 2 ∨ n = 3 ∨ n = 4 ∨ n = 5 by omega) with rfl | rfl | rfl | rfl | rfl | rfl <;> decide
/-- what holds of the orders found from x0 -/
def PB (x0 : Od) (l : List (Od × Int)) : Prop := (l.map Prod.fst).Nodup ∧ ∀ y ∈ l.map Prod.fst, y.Perm x0
theorem PB.le {x0 : Od} {l : List (Od × Int)} (h : PB x0 l) (h5 : x0.length ≤ 5) : l.length ≤ 120 := by
  have := nodup_le (l.map Prod.fst) (perms x0) h.1 (fun y hy => perms_mem x0 y (h.2 y hy))
  rw [perms_len, List.length_map] at this
  have := fac_le h5
  omega
theorem PB.keep {x0 : Od} {l : List (Od × Int)} (h : PB x0 l) {y : Od} (hy : y.Perm x0) (w : Int) : PB x0 (keepA l y w) := by
  unfold keepA
  split
  · exact h
  · rename_i hn
    refine ⟨?_, fun z hz => ?_⟩
    · rw [List.map_append, List.nodup_append]
      exact ⟨h.1, by simp, fun a ha b hb => by simp at hb; subst hb; exact fun e => hn (e ▸ ha)⟩
    · rw [List.map_append, List.mem_append] at hz
      rcases hz with hz | hz
      · exact h.2 z hz
      · simp at hz; subst hz; exact hy
theorem PB.lt {x0 : Od} {l : List (Od × Int)} (h : PB x0 l) {y : Od} (hy : y.Perm x0) (h5 : x0.length ≤ 5) (hn : ¬ y ∈ l.map Prod.fst) : l.length < 120 := by
  have h2 := (h.keep hy 0).le h5
  unfold keepA at h2
  rw [if_neg hn, List.length_append] at h2
  have : ([(y, (0 : Int))] : List (Od × Int)).length = 1 := rfl
  omega
theorem perm_ok {N : Nat} {x y : Od} (h : okO N x) (hy : y.Perm x) : okO N y := ⟨hy.length_eq.trans h.1, fun a ha => h.2 a (hy.subset ha)⟩
