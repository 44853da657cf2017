/-! ===== Manners ===== -/
def nmA (A : Ls) (w : Bool) (x y c : Int) : Int := if c = -1 then (if w = true then bnd (shr (A.2 2 x.toNat) y) 1 else lkr (A.2 2) x (A.1 2).toNat) else if c = -2 then A.2 1 x.toNat else if c = -3 then (if w = true then A.2 1 y.toNat else 0) else if c = -4 then A.1 0 else if c = -5 then (if w = true then A.2 3 y.toNat else A.2 3 x.toNat) else A.2 4 x.toNat
theorem nm_eq {M : Mm} {L : Nat} {A : Ls} (h : Rc M L A) {w : Bool} {x y c : Int} (hx : 0 ≤ x ∧ x < A.1 2) (hy : w = true → 0 ≤ y ∧ y < A.1 2) : nmv M L w x y c = nmA A w x y c := by
  obtain ⟨h0, h1, h2, h3, hr, -⟩ := h
  have ex : ∀ r, r < 5 → M (L + 1 + r) x.toNat = A.2 r x.toNat := fun r hr5 => hr r x.toNat hr5 (by omega)
  have l1 : lkr (M (L + 3)) x (M L 2).toNat = lkr (A.2 2) x (A.1 2).toNat := by
    rw [h2]
    exact lkr_cong _ (fun q hq => hr 2 q (by omega) (by omega))
  unfold nmv nmA
  rw [l1, show M (L + 3) x.toNat = A.2 2 x.toNat from ex 2 (by omega), show M (L + 2) x.toNat = A.2 1 x.toNat from ex 1 (by omega), show M (L + 4) x.toNat = A.2 3 x.toNat from ex 3 (by omega), show M (L + 5) x.toNat = A.2 4 x.toNat from ex 4 (by omega), h0]
  cases w with
  | false => rfl
  | true =>
    have hy := hy rfl
    rw [show M (L + 2) y.toNat = A.2 1 y.toNat from hr 1 y.toNat (by omega) (by omega), show M (L + 4) y.toNat = A.2 3 y.toNat from hr 3 y.toNat (by omega) (by omega)]
def wthn (lo hi v : Int) : Int := if v < lo then lo else if hi < v then hi else v
theorem wthn_r {lo hi v : Int} (h : lo ≤ hi) : lo ≤ wthn lo hi v ∧ wthn lo hi v ≤ hi := by
  unfold wthn
  split
  · omega
  · split <;> omega
abbrev Ev : Type := Nat → Nat → (Int → Int) → Int
/-- what a Text is worth, as it is kept -/
def evC (M : Mm) : Ev := fun t part env => if 6 ≤ t then 0 else (run (M (27 + 4 * t + 1)) env ((M (27 + 4 * t + 2) part).toNat - (if part = 0 then 0 else (M (27 + 4 * t + 2) (part - 1)).toNat)) (if part = 0 then 0 else (M (27 + 4 * t + 2) (part - 1)).toNat) []).headD 0
def lastsK (k v nu : Int) : Int := if k = 1 ∨ k = 3 then v + 2 else if k = 2 then v.tdiv 2 else if k = 4 then wrap (v.tdiv 2 + nu) else if k = 5 then 1 else v
def irksK (k v nu : Int) : Int := if k = 2 ∨ k = 4 then 2 * v else if k = 3 then wrap (v + nu) else if k = 5 then 0 else v
def lastsA (E : Ev) (A : Ls) (x : Int) : Int := wthn 1 40 (lastsK (A.2 0 x.toNat) (wthn 0 40 (E (A.1 1).toNat 1 (nmA A false x (-1)))) (A.2 1 x.toNat))
def irksA (E : Ev) (A : Ls) (x : Int) : Int := wthn 0 99 (irksK (A.2 0 x.toNat) (wthn 0 99 (E (A.1 1).toNat 2 (nmA A false x (-1)))) (A.2 1 x.toNat))
def mndF (k v lk gf ny nx : Int) : Bool := if k = 1 then decide (v ≠ 0 ∧ lk = 0) else if k = 2 then decide (v ≠ 0 ∨ gf = 0) else if k = 3 then false else if k = 4 then decide (v ≠ 0 ∨ gf = 0 ∨ ny < nx) else if k = 5 then true else decide (v ≠ 0)
def mindsA (E : Ev) (A : Ls) (x y : Int) : Bool := if ¬ (0 ≤ x ∧ x < A.1 2) ∨ ¬ (0 ≤ y ∧ y < A.1 2) ∨ x = y then true else mndF (A.2 0 x.toNat) (E (A.1 1).toNat 0 (nmA A true x y)) (bnd (shr (A.2 2 x.toNat) y) 1) (A.2 3 y.toNat) (A.2 1 y.toNat) (A.2 1 x.toNat)
/-- cells of the Texts' stacks -/
def VX (i j : Nat) : Prop := 27 ≤ i ∧ i ≤ 50 ∧ ((i - 27) % 4 = 3 ∨ ((i - 27) % 4 = 0 ∧ j = 4))
theorem VT.vx {T i j : Nat} (hT : isT T) (h : VT T i j) : VX i j := by
  unfold VT at h
  unfold VX
  unfold isT at hT
  omega
theorem VX.sr {M M' : Mm} (h : Fr VX M M') (hR : SR M) : SR M' := by
  refine hR.of (fun q hq => h _ _ ?_)
  have hall : ∀ q ∈ srL, ¬ (27 ≤ q.1 ∧ q.1 ≤ 50 ∧ ((q.1 - 27) % 4 = 3 ∨ ((q.1 - 27) % 4 = 0 ∧ q.2.1 = 4))) := by decide +kernel
  exact hall q hq
theorem Rc.fr {M M' : Mm} {L : Nat} {A : Ls} (hL : L ≤ 16) (h : Rc M L A) (f : Fr VX M M') : Rc M' L A := by
  have e : ∀ i j, i ≤ 26 → M' i j = M i j := fun i j hi => f i j (by unfold VX; omega)
  obtain ⟨h0, h1, h2, h3, hr, hl⟩ := h
  exact ⟨(e L 0 (by omega)).trans h0, (e L 1 (by omega)).trans h1, (e L 2 (by omega)).trans h2, (e L 3 (by omega)).trans h3, fun r i a b => (e _ i (by omega)).trans (hr r i a b), fun q hq => (e _ q (by omega)).trans (hl q hq)⟩
theorem evC_fr {M M' : Mm} (f : Fr VX M M') : evC M' = evC M := by
  have e1 : ∀ t, M' (27 + 4 * t + 1) = M (27 + 4 * t + 1) := fun t => funext fun j => f _ _ (by unfold VX; omega)
  have e2 : ∀ t, M' (27 + 4 * t + 2) = M (27 + 4 * t + 2) := fun t => funext fun j => f _ _ (by unfold VX; omega)
  funext t part env
  unfold evC
  rw [e1 t, e2 t]
/-- the Texts, as they are kept -/
def txOK (M : Mm) : Prop := 1 ≤ M 25 1 ∧ M 25 1 ≤ 6 ∧ ∀ t : Nat, (t : Int) < M 25 1 → 0 ≤ M (27 + 4 * t + 2) 0 ∧ M (27 + 4 * t + 2) 0 ≤ M (27 + 4 * t + 2) 1 ∧ M (27 + 4 * t + 2) 1 ≤ M (27 + 4 * t + 2) 2 ∧ M (27 + 4 * t + 2) 2 ≤ 160
theorem txOK.fr {M M' : Mm} (h : txOK M) (f : Fr VX M M') : txOK M' := by
  have e : ∀ i j, ¬ VX i j → M' i j = M i j := f
  unfold txOK
  rw [e 25 1 (by unfold VX; omega)]
  refine ⟨h.1, h.2.1, fun t ht => ?_⟩
  rw [e _ 0 (by unfold VX; omega), e _ 1 (by unfold VX; omega), e _ 2 (by unfold VX; omega)]
  exact h.2.2 t ht
theorem txt_at {M : Mm} (hR : SR M) {t : Nat} (h : t < 6) : ∃ T, isT T ∧ T = 27 + 4 * t ∧ M 26 t = (T : Int) := by
  refine ⟨27 + 4 * t, ?_, rfl, ?_⟩
  · unfold isT; omega
  · match t, h with
    | 0, _ => exact sr_26_0 hR
    | 1, _ => exact sr_26_1 hR
    | 2, _ => exact sr_26_2 hR
    | 3, _ => exact sr_26_3 hR
    | 4, _ => exact sr_26_4 hR
    | 5, _ => exact sr_26_5 hR
    | t + 6, h => omega
set_option maxRecDepth 20000 in
set_option maxHeartbeats 4000000 in
theorem sp_ruleOf_2 {l : Launch} {g : Gw} {d n : Nat} {M : Mm} {Q : Option Wd → Mm → Prop} (hn : 60 ≤ n) (hd : 1 ≤ d) (hR : SR M) (h0 : 0 ≤ M 2 1) (h1 : M 2 1 < M 25 1) (h6 : M 25 1 ≤ 6) (k : ∀ T, isT T → T = 27 + 4 * (M 2 1).toNat → Q (some (2, (T : Int))) M) : Wp l g d 0 0 n m_X6_ruleOf 0 [] [(2, 25), (2, 2)] M Q := by
  obtain ⟨T, hT, eT, e26⟩ := txt_at hR (t := (M 2 1).toNat) (by omega)
  refine wp_aload_n dX6_ruleOf_0 rfl rfl ?_
  refine wp_get 25 rfl fl_RX6_11 rfl ⟨by omega, by omega⟩ dX6_ruleOf_1 rfl (v := 26) (sr_25_0 (M := M) hR) ?_
  refine wp_aload_n dX6_ruleOf_4 rfl rfl ?_
  refine wp_aload_n dX6_ruleOf_5 rfl rfl ?_
  refine wp_get 2 rfl fl_RX6_24 rfl ⟨by omega, by omega⟩ dX6_ruleOf_6 rfl (v := (M 2 1)) (rfl) ?_
  refine wp_callV0 (d' := d - 1) cv_RX6_29 25 rfl [(0, (M 2 1))] [(2, 26)] rfl rfl (Or.inl ⟨_, _, rfl, by decide, rfl, by omega, by omega⟩) (by omega) (Nat.le_of_ble_eq_true rfl) dX6_ruleOf_9 rfl (Nat.le_of_ble_eq_true rfl) (by omega) (loc1 := [(2, 25), (0, (M 2 1))]) rfl ?_
  refine wp_iload_n dX6_has_0 rfl rfl ?_
  refine wp_if_lt (tgt := 22) dX6_has_1 (by decide) (fun h => absurd h (by omega)) (fun _ => ?_)
  refine wp_iload_n dX6_has_4 rfl rfl ?_
  refine wp_aload_n dX6_has_5 rfl rfl ?_
  refine wp_get 25 rfl fl_RX6_16 rfl ⟨by omega, by omega⟩ dX6_has_6 rfl (v := (M 25 1)) (rfl) ?_
  refine wp_icmp_ge (tgt := 22) dX6_has_9 (by decide) (fun h => absurd h (by omega)) (fun _ => ?_)
  refine wp_iload_n dX6_has_12 rfl rfl ?_
  refine wp_bipush dX6_has_13 (by decide) (by decide) ?_
  refine wp_icmp_ge (tgt := 22) dX6_has_15 (by decide) (fun h => absurd h (by omega)) (fun _ => ?_)
  refine wp_iconst dX6_has_18 (by decide) ?_
  refine wp_goto (tgt := 23) dX6_has_19 (by decide) ?_
  refine wp_zret rfl (by omega) dX6_has_23 ?_
  refine wp_if_eq (tgt := 22) dX6_ruleOf_12 (by decide) (fun h => absurd h (by decide)) (fun _ => ?_)
  refine wp_aload_n dX6_ruleOf_15 rfl rfl ?_
  refine wp_get 2 rfl fl_RX6_24 rfl ⟨by omega, by omega⟩ dX6_ruleOf_16 rfl (v := (M 2 1)) (rfl) ?_
  refine wp_goto (tgt := 23) dX6_ruleOf_19 (by decide) ?_
  refine wp_aald 26 rfl (t := 2) rfl (by decide) ⟨by omega, by omega⟩ ⟨by omega, by omega⟩ dX6_ruleOf_23 (v := (T : Int)) (e26) ?_
  refine wp_aret rfl (Or.inl ⟨_, rfl⟩) dX6_ruleOf_24 ?_
  exact k T hT eT
set_option maxRecDepth 20000 in
set_option maxHeartbeats 4000000 in
theorem sp_ruleOf_16 {l : Launch} {g : Gw} {d n : Nat} {M : Mm} {Q : Option Wd → Mm → Prop} (hn : 60 ≤ n) (hd : 1 ≤ d) (hR : SR M) (h0 : 0 ≤ M 16 1) (h1 : M 16 1 < M 25 1) (h6 : M 25 1 ≤ 6) (k : ∀ T, isT T → T = 27 + 4 * (M 16 1).toNat → Q (some (2, (T : Int))) M) : Wp l g d 0 0 n m_X6_ruleOf 0 [] [(2, 25), (2, 16)] M Q := by
  obtain ⟨T, hT, eT, e26⟩ := txt_at hR (t := (M 16 1).toNat) (by omega)
  refine wp_aload_n dX6_ruleOf_0 rfl rfl ?_
  refine wp_get 25 rfl fl_RX6_11 rfl ⟨by omega, by omega⟩ dX6_ruleOf_1 rfl (v := 26) (sr_25_0 (M := M) hR) ?_
  refine wp_aload_n dX6_ruleOf_4 rfl rfl ?_
  refine wp_aload_n dX6_ruleOf_5 rfl rfl ?_
  refine wp_get 16 rfl fl_RX6_24 rfl ⟨by omega, by omega⟩ dX6_ruleOf_6 rfl (v := (M 16 1)) (rfl) ?_
  refine wp_callV0 (d' := d - 1) cv_RX6_29 25 rfl [(0, (M 16 1))] [(2, 26)] rfl rfl (Or.inl ⟨_, _, rfl, by decide, rfl, by omega, by omega⟩) (by omega) (Nat.le_of_ble_eq_true rfl) dX6_ruleOf_9 rfl (Nat.le_of_ble_eq_true rfl) (by omega) (loc1 := [(2, 25), (0, (M 16 1))]) rfl ?_
  refine wp_iload_n dX6_has_0 rfl rfl ?_
  refine wp_if_lt (tgt := 22) dX6_has_1 (by decide) (fun h => absurd h (by omega)) (fun _ => ?_)
  refine wp_iload_n dX6_has_4 rfl rfl ?_
  refine wp_aload_n dX6_has_5 rfl rfl ?_
  refine wp_get 25 rfl fl_RX6_16 rfl ⟨by omega, by omega⟩ dX6_has_6 rfl (v := (M 25 1)) (rfl) ?_
  refine wp_icmp_ge (tgt := 22) dX6_has_9 (by decide) (fun h => absurd h (by omega)) (fun _ => ?_)
  refine wp_iload_n dX6_has_12 rfl rfl ?_
  refine wp_bipush dX6_has_13 (by decide) (by decide) ?_
  refine wp_icmp_ge (tgt := 22) dX6_has_15 (by decide) (fun h => absurd h (by omega)) (fun _ => ?_)
  refine wp_iconst dX6_has_18 (by decide) ?_
  refine wp_goto (tgt := 23) dX6_has_19 (by decide) ?_
  refine wp_zret rfl (by omega) dX6_has_23 ?_
  refine wp_if_eq (tgt := 22) dX6_ruleOf_12 (by decide) (fun h => absurd h (by decide)) (fun _ => ?_)
  refine wp_aload_n dX6_ruleOf_15 rfl rfl ?_
  refine wp_get 16 rfl fl_RX6_24 rfl ⟨by omega, by omega⟩ dX6_ruleOf_16 rfl (v := (M 16 1)) (rfl) ?_
  refine wp_goto (tgt := 23) dX6_ruleOf_19 (by decide) ?_
  refine wp_aald 26 rfl (t := 2) rfl (by decide) ⟨by omega, by omega⟩ ⟨by omega, by omega⟩ dX6_ruleOf_23 (v := (T : Int)) (e26) ?_
  refine wp_aret rfl (Or.inl ⟨_, rfl⟩) dX6_ruleOf_24 ?_
  exact k T hT eT
set_option maxRecDepth 20000 in
set_option maxHeartbeats 4000000 in
theorem sp_within {l : Launch} {g : Gw} {d n : Nat} {M : Mm} {Q : Option Wd → Mm → Prop} (lo hi v : Int) (k : Q (some (0, wthn lo hi v)) M) : Wp l g d 0 0 n m_X1_within 0 [] [(0, lo), (0, hi), (0, v)] M Q := by
  refine wp_iload_n dX1_within_0 rfl rfl ?_
  refine wp_iload_n dX1_within_1 rfl rfl ?_
  refine wp_icmp_ge (tgt := 9) dX1_within_2 (by decide) (fun h2 => ?_) (fun h2 => ?_)
  · refine wp_iload_n dX1_within_9 rfl rfl ?_
    refine wp_iload_n dX1_within_10 rfl rfl ?_
    refine wp_icmp_le (tgt := 18) dX1_within_11 (by decide) (fun h11 => ?_) (fun h11 => ?_)
    · refine wp_iload_n dX1_within_18 rfl rfl ?_
      refine wp_iret rfl dX1_within_19 ?_
      have e : wthn lo hi v = v := by
        unfold wthn
        (repeat' split) <;> omega
      rw [e] at k
      exact k
    · refine wp_iload_n dX1_within_14 rfl rfl ?_
      refine wp_goto (tgt := 19) dX1_within_15 (by decide) ?_
      refine wp_iret rfl dX1_within_19 ?_
      have e : wthn lo hi v = hi := by
        unfold wthn
        (repeat' split) <;> omega
      rw [e] at k
      exact k
  · refine wp_iload_n dX1_within_5 rfl rfl ?_
    refine wp_goto (tgt := 19) dX1_within_6 (by decide) ?_
    refine wp_iret rfl dX1_within_19 ?_
    have e : wthn lo hi v = lo := by
      unfold wthn
      (repeat' split) <;> omega
    rw [e] at k
    exact k
set_option maxRecDepth 20000 in
set_option maxHeartbeats 4000000 in
theorem sp_lastsOfKind {l : Launch} {g : Gw} {d n : Nat} {M : Mm} {Q : Option Wd → Mm → Prop} (c v u : Int) (hv : 0 ≤ v ∧ v ≤ 40) (k : Q (some (0, lastsK c v u)) M) : Wp l g d 0 0 n m_X1_lastsOfKind 0 [] [(0, c), (0, v), (0, u)] M Q := by
  refine wp_iload_n dX1_lastsOfKind_0 rfl rfl ?_
  by_cases h1_0 : c = 1
  · refine wp_tabIn dX1_lastsOfKind_1 0 (by omega) (by decide) rfl (tgt := 36) (by decide) ?_
    refine wp_iload_n dX1_lastsOfKind_36 rfl rfl ?_
    refine wp_iconst dX1_lastsOfKind_37 (by decide) ?_
    refine wp_iadd dX1_lastsOfKind_38 (by omega) ?_
    refine wp_iret rfl dX1_lastsOfKind_39 ?_
    have e : lastsK c v u = (v + 2) := by
      unfold lastsK
      (repeat' split) <;> first | rfl | omega
    rw [e] at k
    exact k
  by_cases h1_1 : c = 2
  · refine wp_tabIn dX1_lastsOfKind_1 1 (by omega) (by decide) rfl (tgt := 40) (by decide) ?_
    refine wp_iload_n dX1_lastsOfKind_40 rfl rfl ?_
    refine wp_iconst dX1_lastsOfKind_41 (by decide) ?_
    refine wp_idiv dX1_lastsOfKind_42 (by omega) ?_
    refine wp_iret rfl dX1_lastsOfKind_43 ?_
    have e : lastsK c v u = (Int.tdiv v 2) := by
      unfold lastsK
      (repeat' split) <;> first | rfl | omega
    rw [e] at k
    exact k
  by_cases h1_2 : c = 3
  · refine wp_tabIn dX1_lastsOfKind_1 2 (by omega) (by decide) rfl (tgt := 36) (by decide) ?_
    refine wp_iload_n dX1_lastsOfKind_36 rfl rfl ?_
    refine wp_iconst dX1_lastsOfKind_37 (by decide) ?_
    refine wp_iadd dX1_lastsOfKind_38 (by omega) ?_
    refine wp_iret rfl dX1_lastsOfKind_39 ?_
    have e : lastsK c v u = (v + 2) := by
      unfold lastsK
      (repeat' split) <;> first | rfl | omega
    rw [e] at k
    exact k
  by_cases h1_3 : c = 4
  · refine wp_tabIn dX1_lastsOfKind_1 3 (by omega) (by decide) rfl (tgt := 44) (by decide) ?_
    refine wp_iload_n dX1_lastsOfKind_44 rfl rfl ?_
    refine wp_iconst dX1_lastsOfKind_45 (by decide) ?_
    refine wp_idiv dX1_lastsOfKind_46 (by omega) ?_
    refine wp_iload_n dX1_lastsOfKind_47 rfl rfl ?_
    refine wp_iaddw dX1_lastsOfKind_48 ?_
    refine wp_iret rfl dX1_lastsOfKind_49 ?_
    have e : lastsK c v u = (wrap ((Int.tdiv v 2) + u)) := by
      unfold lastsK
      (repeat' split) <;> first | rfl | omega
    rw [e] at k
    exact k
  by_cases h1_4 : c = 5
  · refine wp_tabIn dX1_lastsOfKind_1 4 (by omega) (by decide) rfl (tgt := 50) (by decide) ?_
    refine wp_iconst dX1_lastsOfKind_50 (by decide) ?_
    refine wp_iret rfl dX1_lastsOfKind_51 ?_
    have e : lastsK c v u = 1 := by
      unfold lastsK
      (repeat' split) <;> first | rfl | omega
    rw [e] at k
    exact k
  refine wp_tabOut dX1_lastsOfKind_1 (by omega) (tgt := 52) (by decide) ?_
  refine wp_iload_n dX1_lastsOfKind_52 rfl rfl ?_
  refine wp_iret rfl dX1_lastsOfKind_53 ?_
  have e : lastsK c v u = v := by
    unfold lastsK
    (repeat' split) <;> first | rfl | omega
  rw [e] at k
  exact k
set_option maxRecDepth 20000 in
set_option maxHeartbeats 4000000 in
theorem sp_irksOfKind {l : Launch} {g : Gw} {d n : Nat} {M : Mm} {Q : Option Wd → Mm → Prop} (c v u : Int) (hv : 0 ≤ v ∧ v ≤ 99) (k : Q (some (0, irksK c v u)) M) : Wp l g d 0 0 n m_X1_irksOfKind 0 [] [(0, c), (0, v), (0, u)] M Q := by
  refine wp_iload_n dX1_irksOfKind_0 rfl rfl ?_
  by_cases h1_0 : c = 2
  · refine wp_tabIn dX1_irksOfKind_1 0 (by omega) (by decide) rfl (tgt := 32) (by decide) ?_
    refine wp_iconst dX1_irksOfKind_32 (by decide) ?_
    refine wp_iload_n dX1_irksOfKind_33 rfl rfl ?_
    refine wp_imul dX1_irksOfKind_34 (by omega) ?_
    refine wp_iret rfl dX1_irksOfKind_35 ?_
    have e : irksK c v u = (2 * v) := by
      unfold irksK
      (repeat' split) <;> first | rfl | omega
    rw [e] at k
    exact k
  by_cases h1_1 : c = 3
  · refine wp_tabIn dX1_irksOfKind_1 1 (by omega) (by decide) rfl (tgt := 36) (by decide) ?_
    refine wp_iload_n dX1_irksOfKind_36 rfl rfl ?_
    refine wp_iload_n dX1_irksOfKind_37 rfl rfl ?_
    refine wp_iaddw dX1_irksOfKind_38 ?_
    refine wp_iret rfl dX1_irksOfKind_39 ?_
    have e : irksK c v u = (wrap (v + u)) := by
      unfold irksK
      (repeat' split) <;> first | rfl | omega
    rw [e] at k
    exact k
  by_cases h1_2 : c = 4
  · refine wp_tabIn dX1_irksOfKind_1 2 (by omega) (by decide) rfl (tgt := 32) (by decide) ?_
    refine wp_iconst dX1_irksOfKind_32 (by decide) ?_
    refine wp_iload_n dX1_irksOfKind_33 rfl rfl ?_
    refine wp_imul dX1_irksOfKind_34 (by omega) ?_
    refine wp_iret rfl dX1_irksOfKind_35 ?_
    have e : irksK c v u = (2 * v) := by
      unfold irksK
      (repeat' split) <;> first | rfl | omega
    rw [e] at k
    exact k
  by_cases h1_3 : c = 5
  · refine wp_tabIn dX1_irksOfKind_1 3 (by omega) (by decide) rfl (tgt := 40) (by decide) ?_
    refine wp_iconst dX1_irksOfKind_40 (by decide) ?_
    refine wp_iret rfl dX1_irksOfKind_41 ?_
    have e : irksK c v u = 0 := by
      unfold irksK
      (repeat' split) <;> first | rfl | omega
    rw [e] at k
    exact k
  refine wp_tabOut dX1_irksOfKind_1 (by omega) (tgt := 42) (by decide) ?_
  refine wp_iload_n dX1_irksOfKind_42 rfl rfl ?_
  refine wp_iret rfl dX1_irksOfKind_43 ?_
  have e : irksK c v u = v := by
    unfold irksK
    (repeat' split) <;> first | rfl | omega
  rw [e] at k
  exact k
set_option maxRecDepth 20000 in
set_option maxHeartbeats 4000000 in
theorem sp_lasts_2 {l : Launch} {g : Gw} {d n : Nat} {M : Mm} {Q : Option Wd → Mm → Prop} (hn : 60 ≤ n) (hd : 4 ≤ d) (hR : SR M) (hX : txOK M) {A : Ls} (hA : Rc M 2 A) (hW : Wf A) (hr : 0 ≤ A.1 1 ∧ A.1 1 < M 25 1) (x : Int) (hx : 0 ≤ x ∧ x < A.1 2) (k : ∀ M', Fr VX M M' → SR M' → Q (some (0, lastsA (evC M) A x)) M') : Wp l g d 0 0 n m_X1_lasts 0 [] [(2, 51), (2, 2), (0, x), (9, 0)] M Q := by
  obtain ⟨a0, a1, a2, a3, ar, al⟩ := id hA
  obtain ⟨w0, w1, w2, w3, w4, w5, w6⟩ := id hW
  have hX1 := hX.1
  have hX2 := hX.2.1
  refine wp_iconst dX1_lasts_0 (by decide) ?_
  refine wp_bipush dX1_lasts_1 (by decide) (by decide) ?_
  refine wp_aload_n dX1_lasts_3 rfl rfl ?_
  refine wp_get 51 rfl fl_RX1_9 rfl ⟨by omega, by omega⟩ dX1_lasts_4 rfl (v := 25) (sr_51_0 (M := M) hR) ?_
  refine wp_aload_n dX1_lasts_7 rfl rfl ?_
  refine wp_callV0 (d' := d - 1) cv_RX1_25 25 rfl [(2, 2)] [(0, 40), (0, 0)] rfl rfl (Or.inl ⟨_, _, rfl, by decide, rfl, by omega, by omega⟩) (by omega) (Nat.le_of_ble_eq_true rfl) dX1_lasts_8 rfl (Nat.le_of_ble_eq_true rfl) (by omega) (loc1 := [(2, 25), (2, 2)]) rfl ?_
  refine sp_ruleOf_2 hn (by omega) hR (by omega) (by omega) (by omega) (fun T hT eT => ?_)
  have hb := hT.b
  refine wp_iconst dX1_lasts_11 (by decide) ?_
  refine wp_aload_n dX1_lasts_12 rfl rfl ?_
  refine wp_iload_n dX1_lasts_13 rfl rfl ?_
  refine wp_iconst dX1_lasts_14 (by decide) ?_
  refine wp_callV0 (d' := d - 1) cv_RX1_33 T rfl [(0, 1), (2, 2), (0, x), (0, (-1))] [(0, 40), (0, 0)] rfl rfl (Or.inl ⟨_, _, hT.k0, by decide, rfl, by omega, by omega⟩) (by omega) (Nat.le_of_ble_eq_true rfl) dX1_lasts_15 rfl (Nat.le_of_ble_eq_true rfl) (by omega) (loc1 := [(2, (T : Int)), (0, 1), (2, 2), (0, x), (0, (-1)), (9, 0), (9, 0), (9, 0)]) rfl ?_
  obtain ⟨t0, t1, t2, t3⟩ := hX.2.2 (M 2 1).toNat (by omega)
  rw [← eT] at t0 t1 t2 t3
  refine sp_worth_2_1 hT hn hR (by omega) x (-1) (by omega) (by omega) (M (T + 2) 1).toNat (by omega) (by omega) (M (T + 2) 0).toNat (by omega) (by omega) (fun M1 hF1 hR1 => ?_)
  rw [show (run (M (T + 1)) (nmv M 2 false x (-1)) ((M (T + 2) 1).toNat - (M (T + 2) 0).toNat) (M (T + 2) 0).toNat []).headD 0 = (evC M (M 2 1).toNat 1 (nmv M 2 false x (-1))) by rw [eT]; exact (if_neg (show ¬ 6 ≤ (M 2 1).toNat by omega)).symm]
  have hG := hF1.mono (fun i j h => VT.vx hT h)
  refine wp_callS0 (d' := d - 1) cs_RX1_54 [(0, 0), (0, 40), (0, (evC M (M 2 1).toNat 1 (nmv M 2 false x (-1))))] [] rfl rfl (Nat.le_of_ble_eq_true rfl) dX1_lasts_18 rfl (Nat.le_of_ble_eq_true rfl) (by omega) (loc1 := [(0, 0), (0, 40), (0, (evC M (M 2 1).toNat 1 (nmv M 2 false x (-1))))]) rfl ?_
  refine sp_within _ _ _ ?_
  refine wp_istore_n (loc' := [(2, 51), (2, 2), (0, x), (0, (wthn 0 40 (evC M (M 2 1).toNat 1 (nmv M 2 false x (-1)))))]) dX1_lasts_21 rfl (Nat.le_of_ble_eq_true rfl) rfl ?_
  refine wp_iconst dX1_lasts_22 (by decide) ?_
  refine wp_bipush dX1_lasts_23 (by decide) (by decide) ?_
  refine wp_aload_n dX1_lasts_25 rfl rfl ?_
  refine wp_aload_n dX1_lasts_26 rfl rfl ?_
  refine wp_get 2 rfl fl_RX1_44 rfl ⟨by omega, by omega⟩ dX1_lasts_27 rfl (v := 3) (sr_2_4 (M := M1) hR1) ?_
  refine wp_iload_n dX1_lasts_30 rfl rfl ?_
  refine wp_callV0 (d' := d - 1) cv_RX1_40 2 rfl [(2, 3), (0, x)] [(0, 40), (0, 1)] rfl rfl (Or.inl ⟨_, _, rfl, by decide, rfl, by omega, by omega⟩) (by omega) (Nat.le_of_ble_eq_true rfl) dX1_lasts_31 rfl (Nat.le_of_ble_eq_true rfl) (by omega) (loc1 := [(2, 2), (2, 3), (0, x)]) rfl ?_
  refine sp_of_kind_2 hn hR1 x (by rw [hG 2 2 (by unfold VX; omega)]; omega) ?_
  rw [hG 3 x.toNat (by unfold VX; omega)]
  refine wp_iload_n dX1_lasts_34 rfl rfl ?_
  refine wp_aload_n dX1_lasts_35 rfl rfl ?_
  refine wp_aload_n dX1_lasts_36 rfl rfl ?_
  refine wp_get 2 rfl fl_RX1_51 rfl ⟨by omega, by omega⟩ dX1_lasts_37 rfl (v := 4) (sr_2_5 (M := M1) hR1) ?_
  refine wp_iload_n dX1_lasts_40 rfl rfl ?_
  refine wp_callV0 (d' := d - 1) cv_RX1_40 2 rfl [(2, 4), (0, x)] [(0, (wthn 0 40 (evC M (M 2 1).toNat 1 (nmv M 2 false x (-1))))), (0, (M 3 x.toNat)), (0, 40), (0, 1)] rfl rfl (Or.inl ⟨_, _, rfl, by decide, rfl, by omega, by omega⟩) (by omega) (Nat.le_of_ble_eq_true rfl) dX1_lasts_41 rfl (Nat.le_of_ble_eq_true rfl) (by omega) (loc1 := [(2, 2), (2, 4), (0, x)]) rfl ?_
  refine sp_of_number_2 hn hR1 x (by rw [hG 2 2 (by unfold VX; omega)]; omega) ?_
  rw [hG 4 x.toNat (by unfold VX; omega)]
  refine wp_callS0 (d' := d - 1) cs_RX1_58 [(0, (M 3 x.toNat)), (0, (wthn 0 40 (evC M (M 2 1).toNat 1 (nmv M 2 false x (-1))))), (0, (M 4 x.toNat))] [(0, 40), (0, 1)] rfl rfl (Nat.le_of_ble_eq_true rfl) dX1_lasts_44 rfl (Nat.le_of_ble_eq_true rfl) (by omega) (loc1 := [(0, (M 3 x.toNat)), (0, (wthn 0 40 (evC M (M 2 1).toNat 1 (nmv M 2 false x (-1))))), (0, (M 4 x.toNat))]) rfl ?_
  refine sp_lastsOfKind _ _ _ (wthn_r (by omega)) ?_
  refine wp_callS0 (d' := d - 1) cs_RX1_54 [(0, 1), (0, 40), (0, (lastsK (M 3 x.toNat) (wthn 0 40 (evC M (M 2 1).toNat 1 (nmv M 2 false x (-1)))) (M 4 x.toNat)))] [] rfl rfl (Nat.le_of_ble_eq_true rfl) dX1_lasts_47 rfl (Nat.le_of_ble_eq_true rfl) (by omega) (loc1 := [(0, 1), (0, 40), (0, (lastsK (M 3 x.toNat) (wthn 0 40 (evC M (M 2 1).toNat 1 (nmv M 2 false x (-1)))) (M 4 x.toNat)))]) rfl ?_
  refine sp_within _ _ _ ?_
  refine wp_iret rfl dX1_lasts_50 ?_
  have e : lastsA (evC M) A x = (wthn 1 40 (lastsK (M 3 x.toNat) (wthn 0 40 (evC M (M 2 1).toNat 1 (nmv M 2 false x (-1)))) (M 4 x.toNat))) := by
    unfold lastsA
    rw [ar 0 x.toNat (by omega) (by omega), ar 1 x.toNat (by omega) (by omega), a1, show nmv M 2 false x (-1) = nmA A false x (-1) from funext fun c => nm_eq hA (by omega) (fun h => by cases h)]
  rw [← e]
  exact k M1 hG hR1
set_option maxRecDepth 20000 in
set_option maxHeartbeats 4000000 in
theorem sp_irks_2 {l : Launch} {g : Gw} {d n : Nat} {M : Mm} {Q : Option Wd → Mm → Prop} (hn : 60 ≤ n) (hd : 4 ≤ d) (hR : SR M) (hX : txOK M) {A : Ls} (hA : Rc M 2 A) (hW : Wf A) (hr : 0 ≤ A.1 1 ∧ A.1 1 < M 25 1) (x : Int) (hx : 0 ≤ x ∧ x < A.1 2) (k : ∀ M', Fr VX M M' → SR M' → Q (some (0, irksA (evC M) A x)) M') : Wp l g d 0 0 n m_X1_irks 0 [] [(2, 51), (2, 2), (0, x), (9, 0)] M Q := by
  obtain ⟨a0, a1, a2, a3, ar, al⟩ := id hA
  obtain ⟨w0, w1, w2, w3, w4, w5, w6⟩ := id hW
  have hX1 := hX.1
  have hX2 := hX.2.1
  refine wp_iconst dX1_irks_0 (by decide) ?_
  refine wp_bipush dX1_irks_1 (by decide) (by decide) ?_
  refine wp_aload_n dX1_irks_3 rfl rfl ?_
  refine wp_get 51 rfl fl_RX1_9 rfl ⟨by omega, by omega⟩ dX1_irks_4 rfl (v := 25) (sr_51_0 (M := M) hR) ?_
  refine wp_aload_n dX1_irks_7 rfl rfl ?_
  refine wp_callV0 (d' := d - 1) cv_RX1_25 25 rfl [(2, 2)] [(0, 99), (0, 0)] rfl rfl (Or.inl ⟨_, _, rfl, by decide, rfl, by omega, by omega⟩) (by omega) (Nat.le_of_ble_eq_true rfl) dX1_irks_8 rfl (Nat.le_of_ble_eq_true rfl) (by omega) (loc1 := [(2, 25), (2, 2)]) rfl ?_
  refine sp_ruleOf_2 hn (by omega) hR (by omega) (by omega) (by omega) (fun T hT eT => ?_)
  have hb := hT.b
  refine wp_iconst dX1_irks_11 (by decide) ?_
  refine wp_aload_n dX1_irks_12 rfl rfl ?_
  refine wp_iload_n dX1_irks_13 rfl rfl ?_
  refine wp_iconst dX1_irks_14 (by decide) ?_
  refine wp_callV0 (d' := d - 1) cv_RX1_33 T rfl [(0, 2), (2, 2), (0, x), (0, (-1))] [(0, 99), (0, 0)] rfl rfl (Or.inl ⟨_, _, hT.k0, by decide, rfl, by omega, by omega⟩) (by omega) (Nat.le_of_ble_eq_true rfl) dX1_irks_15 rfl (Nat.le_of_ble_eq_true rfl) (by omega) (loc1 := [(2, (T : Int)), (0, 2), (2, 2), (0, x), (0, (-1)), (9, 0), (9, 0), (9, 0)]) rfl ?_
  obtain ⟨t0, t1, t2, t3⟩ := hX.2.2 (M 2 1).toNat (by omega)
  rw [← eT] at t0 t1 t2 t3
  refine sp_worth_2_2 hT hn hR (by omega) x (-1) (by omega) (by omega) (M (T + 2) 2).toNat (by omega) (by omega) (M (T + 2) 1).toNat (by omega) (by omega) (fun M1 hF1 hR1 => ?_)
  rw [show (run (M (T + 1)) (nmv M 2 false x (-1)) ((M (T + 2) 2).toNat - (M (T + 2) 1).toNat) (M (T + 2) 1).toNat []).headD 0 = (evC M (M 2 1).toNat 2 (nmv M 2 false x (-1))) by rw [eT]; exact (if_neg (show ¬ 6 ≤ (M 2 1).toNat by omega)).symm]
  have hG := hF1.mono (fun i j h => VT.vx hT h)
  refine wp_callS0 (d' := d - 1) cs_RX1_54 [(0, 0), (0, 99), (0, (evC M (M 2 1).toNat 2 (nmv M 2 false x (-1))))] [] rfl rfl (Nat.le_of_ble_eq_true rfl) dX1_irks_18 rfl (Nat.le_of_ble_eq_true rfl) (by omega) (loc1 := [(0, 0), (0, 99), (0, (evC M (M 2 1).toNat 2 (nmv M 2 false x (-1))))]) rfl ?_
  refine sp_within _ _ _ ?_
  refine wp_istore_n (loc' := [(2, 51), (2, 2), (0, x), (0, (wthn 0 99 (evC M (M 2 1).toNat 2 (nmv M 2 false x (-1)))))]) dX1_irks_21 rfl (Nat.le_of_ble_eq_true rfl) rfl ?_
  refine wp_iconst dX1_irks_22 (by decide) ?_
  refine wp_bipush dX1_irks_23 (by decide) (by decide) ?_
  refine wp_aload_n dX1_irks_25 rfl rfl ?_
  refine wp_aload_n dX1_irks_26 rfl rfl ?_
  refine wp_get 2 rfl fl_RX1_44 rfl ⟨by omega, by omega⟩ dX1_irks_27 rfl (v := 3) (sr_2_4 (M := M1) hR1) ?_
  refine wp_iload_n dX1_irks_30 rfl rfl ?_
  refine wp_callV0 (d' := d - 1) cv_RX1_40 2 rfl [(2, 3), (0, x)] [(0, 99), (0, 0)] rfl rfl (Or.inl ⟨_, _, rfl, by decide, rfl, by omega, by omega⟩) (by omega) (Nat.le_of_ble_eq_true rfl) dX1_irks_31 rfl (Nat.le_of_ble_eq_true rfl) (by omega) (loc1 := [(2, 2), (2, 3), (0, x)]) rfl ?_
  refine sp_of_kind_2 hn hR1 x (by rw [hG 2 2 (by unfold VX; omega)]; omega) ?_
  rw [hG 3 x.toNat (by unfold VX; omega)]
  refine wp_iload_n dX1_irks_34 rfl rfl ?_
  refine wp_aload_n dX1_irks_35 rfl rfl ?_
  refine wp_aload_n dX1_irks_36 rfl rfl ?_
  refine wp_get 2 rfl fl_RX1_51 rfl ⟨by omega, by omega⟩ dX1_irks_37 rfl (v := 4) (sr_2_5 (M := M1) hR1) ?_
  refine wp_iload_n dX1_irks_40 rfl rfl ?_
  refine wp_callV0 (d' := d - 1) cv_RX1_40 2 rfl [(2, 4), (0, x)] [(0, (wthn 0 99 (evC M (M 2 1).toNat 2 (nmv M 2 false x (-1))))), (0, (M 3 x.toNat)), (0, 99), (0, 0)] rfl rfl (Or.inl ⟨_, _, rfl, by decide, rfl, by omega, by omega⟩) (by omega) (Nat.le_of_ble_eq_true rfl) dX1_irks_41 rfl (Nat.le_of_ble_eq_true rfl) (by omega) (loc1 := [(2, 2), (2, 4), (0, x)]) rfl ?_
  refine sp_of_number_2 hn hR1 x (by rw [hG 2 2 (by unfold VX; omega)]; omega) ?_
  rw [hG 4 x.toNat (by unfold VX; omega)]
  refine wp_callS0 (d' := d - 1) cs_RX1_61 [(0, (M 3 x.toNat)), (0, (wthn 0 99 (evC M (M 2 1).toNat 2 (nmv M 2 false x (-1))))), (0, (M 4 x.toNat))] [(0, 99), (0, 0)] rfl rfl (Nat.le_of_ble_eq_true rfl) dX1_irks_44 rfl (Nat.le_of_ble_eq_true rfl) (by omega) (loc1 := [(0, (M 3 x.toNat)), (0, (wthn 0 99 (evC M (M 2 1).toNat 2 (nmv M 2 false x (-1))))), (0, (M 4 x.toNat))]) rfl ?_
  refine sp_irksOfKind _ _ _ (wthn_r (by omega)) ?_
  refine wp_callS0 (d' := d - 1) cs_RX1_54 [(0, 0), (0, 99), (0, (irksK (M 3 x.toNat) (wthn 0 99 (evC M (M 2 1).toNat 2 (nmv M 2 false x (-1)))) (M 4 x.toNat)))] [] rfl rfl (Nat.le_of_ble_eq_true rfl) dX1_irks_47 rfl (Nat.le_of_ble_eq_true rfl) (by omega) (loc1 := [(0, 0), (0, 99), (0, (irksK (M 3 x.toNat) (wthn 0 99 (evC M (M 2 1).toNat 2 (nmv M 2 false x (-1)))) (M 4 x.toNat)))]) rfl ?_
  refine sp_within _ _ _ ?_
  refine wp_iret rfl dX1_irks_50 ?_
  have e : irksA (evC M) A x = (wthn 0 99 (irksK (M 3 x.toNat) (wthn 0 99 (evC M (M 2 1).toNat 2 (nmv M 2 false x (-1)))) (M 4 x.toNat))) := by
    unfold irksA
    rw [ar 0 x.toNat (by omega) (by omega), ar 1 x.toNat (by omega) (by omega), a1, show nmv M 2 false x (-1) = nmA A false x (-1) from funext fun c => nm_eq hA (by omega) (fun h => by cases h)]
  rw [← e]
  exact k M1 hG hR1
set_option maxRecDepth 20000 in
set_option maxHeartbeats 4000000 in
theorem sp_lasts_16 {l : Launch} {g : Gw} {d n : Nat} {M : Mm} {Q : Option Wd → Mm → Prop} (hn : 60 ≤ n) (hd : 4 ≤ d) (hR : SR M) (hX : txOK M) {A : Ls} (hA : Rc M 16 A) (hW : Wf A) (hr : 0 ≤ A.1 1 ∧ A.1 1 < M 25 1) (x : Int) (hx : 0 ≤ x ∧ x < A.1 2) (k : ∀ M', Fr VX M M' → SR M' → Q (some (0, lastsA (evC M) A x)) M') : Wp l g d 0 0 n m_X1_lasts 0 [] [(2, 51), (2, 16), (0, x), (9, 0)] M Q := by
  obtain ⟨a0, a1, a2, a3, ar, al⟩ := id hA
  obtain ⟨w0, w1, w2, w3, w4, w5, w6⟩ := id hW
  have hX1 := hX.1
  have hX2 := hX.2.1
  refine wp_iconst dX1_lasts_0 (by decide) ?_
  refine wp_bipush dX1_lasts_1 (by decide) (by decide) ?_
  refine wp_aload_n dX1_lasts_3 rfl rfl ?_
  refine wp_get 51 rfl fl_RX1_9 rfl ⟨by omega, by omega⟩ dX1_lasts_4 rfl (v := 25) (sr_51_0 (M := M) hR) ?_
  refine wp_aload_n dX1_lasts_7 rfl rfl ?_
  refine wp_callV0 (d' := d - 1) cv_RX1_25 25 rfl [(2, 16)] [(0, 40), (0, 0)] rfl rfl (Or.inl ⟨_, _, rfl, by decide, rfl, by omega, by omega⟩) (by omega) (Nat.le_of_ble_eq_true rfl) dX1_lasts_8 rfl (Nat.le_of_ble_eq_true rfl) (by omega) (loc1 := [(2, 25), (2, 16)]) rfl ?_
  refine sp_ruleOf_16 hn (by omega) hR (by omega) (by omega) (by omega) (fun T hT eT => ?_)
  have hb := hT.b
  refine wp_iconst dX1_lasts_11 (by decide) ?_
  refine wp_aload_n dX1_lasts_12 rfl rfl ?_
  refine wp_iload_n dX1_lasts_13 rfl rfl ?_
  refine wp_iconst dX1_lasts_14 (by decide) ?_
  refine wp_callV0 (d' := d - 1) cv_RX1_33 T rfl [(0, 1), (2, 16), (0, x), (0, (-1))] [(0, 40), (0, 0)] rfl rfl (Or.inl ⟨_, _, hT.k0, by decide, rfl, by omega, by omega⟩) (by omega) (Nat.le_of_ble_eq_true rfl) dX1_lasts_15 rfl (Nat.le_of_ble_eq_true rfl) (by omega) (loc1 := [(2, (T : Int)), (0, 1), (2, 16), (0, x), (0, (-1)), (9, 0), (9, 0), (9, 0)]) rfl ?_
  obtain ⟨t0, t1, t2, t3⟩ := hX.2.2 (M 16 1).toNat (by omega)
  rw [← eT] at t0 t1 t2 t3
  refine sp_worth_16_1 hT hn hR (by omega) x (-1) (by omega) (by omega) (M (T + 2) 1).toNat (by omega) (by omega) (M (T + 2) 0).toNat (by omega) (by omega) (fun M1 hF1 hR1 => ?_)
  rw [show (run (M (T + 1)) (nmv M 16 false x (-1)) ((M (T + 2) 1).toNat - (M (T + 2) 0).toNat) (M (T + 2) 0).toNat []).headD 0 = (evC M (M 16 1).toNat 1 (nmv M 16 false x (-1))) by rw [eT]; exact (if_neg (show ¬ 6 ≤ (M 16 1).toNat by omega)).symm]
  have hG := hF1.mono (fun i j h => VT.vx hT h)
  refine wp_callS0 (d' := d - 1) cs_RX1_54 [(0, 0), (0, 40), (0, (evC M (M 16 1).toNat 1 (nmv M 16 false x (-1))))] [] rfl rfl (Nat.le_of_ble_eq_true rfl) dX1_lasts_18 rfl (Nat.le_of_ble_eq_true rfl) (by omega) (loc1 := [(0, 0), (0, 40), (0, (evC M (M 16 1).toNat 1 (nmv M 16 false x (-1))))]) rfl ?_
  refine sp_within _ _ _ ?_
  refine wp_istore_n (loc' := [(2, 51), (2, 16), (0, x), (0, (wthn 0 40 (evC M (M 16 1).toNat 1 (nmv M 16 false x (-1)))))]) dX1_lasts_21 rfl (Nat.le_of_ble_eq_true rfl) rfl ?_
  refine wp_iconst dX1_lasts_22 (by decide) ?_
  refine wp_bipush dX1_lasts_23 (by decide) (by decide) ?_
  refine wp_aload_n dX1_lasts_25 rfl rfl ?_
  refine wp_aload_n dX1_lasts_26 rfl rfl ?_
  refine wp_get 16 rfl fl_RX1_44 rfl ⟨by omega, by omega⟩ dX1_lasts_27 rfl (v := 17) (sr_16_4 (M := M1) hR1) ?_
  refine wp_iload_n dX1_lasts_30 rfl rfl ?_
  refine wp_callV0 (d' := d - 1) cv_RX1_40 16 rfl [(2, 17), (0, x)] [(0, 40), (0, 1)] rfl rfl (Or.inl ⟨_, _, rfl, by decide, rfl, by omega, by omega⟩) (by omega) (Nat.le_of_ble_eq_true rfl) dX1_lasts_31 rfl (Nat.le_of_ble_eq_true rfl) (by omega) (loc1 := [(2, 16), (2, 17), (0, x)]) rfl ?_
  refine sp_of_kind_16 hn hR1 x (by rw [hG 16 2 (by unfold VX; omega)]; omega) ?_
  rw [hG 17 x.toNat (by unfold VX; omega)]
  refine wp_iload_n dX1_lasts_34 rfl rfl ?_
  refine wp_aload_n dX1_lasts_35 rfl rfl ?_
  refine wp_aload_n dX1_lasts_36 rfl rfl ?_
  refine wp_get 16 rfl fl_RX1_51 rfl ⟨by omega, by omega⟩ dX1_lasts_37 rfl (v := 18) (sr_16_5 (M := M1) hR1) ?_
  refine wp_iload_n dX1_lasts_40 rfl rfl ?_
  refine wp_callV0 (d' := d - 1) cv_RX1_40 16 rfl [(2, 18), (0, x)] [(0, (wthn 0 40 (evC M (M 16 1).toNat 1 (nmv M 16 false x (-1))))), (0, (M 17 x.toNat)), (0, 40), (0, 1)] rfl rfl (Or.inl ⟨_, _, rfl, by decide, rfl, by omega, by omega⟩) (by omega) (Nat.le_of_ble_eq_true rfl) dX1_lasts_41 rfl (Nat.le_of_ble_eq_true rfl) (by omega) (loc1 := [(2, 16), (2, 18), (0, x)]) rfl ?_
  refine sp_of_number_16 hn hR1 x (by rw [hG 16 2 (by unfold VX; omega)]; omega) ?_
  rw [hG 18 x.toNat (by unfold VX; omega)]
  refine wp_callS0 (d' := d - 1) cs_RX1_58 [(0, (M 17 x.toNat)), (0, (wthn 0 40 (evC M (M 16 1).toNat 1 (nmv M 16 false x (-1))))), (0, (M 18 x.toNat))] [(0, 40), (0, 1)] rfl rfl (Nat.le_of_ble_eq_true rfl) dX1_lasts_44 rfl (Nat.le_of_ble_eq_true rfl) (by omega) (loc1 := [(0, (M 17 x.toNat)), (0, (wthn 0 40 (evC M (M 16 1).toNat 1 (nmv M 16 false x (-1))))), (0, (M 18 x.toNat))]) rfl ?_
  refine sp_lastsOfKind _ _ _ (wthn_r (by omega)) ?_
  refine wp_callS0 (d' := d - 1) cs_RX1_54 [(0, 1), (0, 40), (0, (lastsK (M 17 x.toNat) (wthn 0 40 (evC M (M 16 1).toNat 1 (nmv M 16 false x (-1)))) (M 18 x.toNat)))] [] rfl rfl (Nat.le_of_ble_eq_true rfl) dX1_lasts_47 rfl (Nat.le_of_ble_eq_true rfl) (by omega) (loc1 := [(0, 1), (0, 40), (0, (lastsK (M 17 x.toNat) (wthn 0 40 (evC M (M 16 1).toNat 1 (nmv M 16 false x (-1)))) (M 18 x.toNat)))]) rfl ?_
  refine sp_within _ _ _ ?_
  refine wp_iret rfl dX1_lasts_50 ?_
  have e : lastsA (evC M) A x = (wthn 1 40 (lastsK (M 17 x.toNat) (wthn 0 40 (evC M (M 16 1).toNat 1 (nmv M 16 false x (-1)))) (M 18 x.toNat))) := by
    unfold lastsA
    rw [ar 0 x.toNat (by omega) (by omega), ar 1 x.toNat (by omega) (by omega), a1, show nmv M 16 false x (-1) = nmA A false x (-1) from funext fun c => nm_eq hA (by omega) (fun h => by cases h)]
  rw [← e]
  exact k M1 hG hR1
set_option maxRecDepth 20000 in
set_option maxHeartbeats 4000000 in
theorem sp_irks_16 {l : Launch} {g : Gw} {d n : Nat} {M : Mm} {Q : Option Wd → Mm → Prop} (hn : 60 ≤ n) (hd : 4 ≤ d) (hR : SR M) (hX : txOK M) {A : Ls} (hA : Rc M 16 A) (hW : Wf A) (hr : 0 ≤ A.1 1 ∧ A.1 1 < M 25 1) (x : Int) (hx : 0 ≤ x ∧ x < A.1 2) (k : ∀ M', Fr VX M M' → SR M' → Q (some (0, irksA (evC M) A x)) M') : Wp l g d 0 0 n m_X1_irks 0 [] [(2, 51), (2, 16), (0, x), (9, 0)] M Q := by
  obtain ⟨a0, a1, a2, a3, ar, al⟩ := id hA
  obtain ⟨w0, w1, w2, w3, w4, w5, w6⟩ := id hW
  have hX1 := hX.1
  have hX2 := hX.2.1
  refine wp_iconst dX1_irks_0 (by decide) ?_
  refine wp_bipush dX1_irks_1 (by decide) (by decide) ?_
  refine wp_aload_n dX1_irks_3 rfl rfl ?_
  refine wp_get 51 rfl fl_RX1_9 rfl ⟨by omega, by omega⟩ dX1_irks_4 rfl (v := 25) (sr_51_0 (M := M) hR) ?_
  refine wp_aload_n dX1_irks_7 rfl rfl ?_
  refine wp_callV0 (d' := d - 1) cv_RX1_25 25 rfl [(2, 16)] [(0, 99), (0, 0)] rfl rfl (Or.inl ⟨_, _, rfl, by decide, rfl, by omega, by omega⟩) (by omega) (Nat.le_of_ble_eq_true rfl) dX1_irks_8 rfl (Nat.le_of_ble_eq_true rfl) (by omega) (loc1 := [(2, 25), (2, 16)]) rfl ?_
  refine sp_ruleOf_16 hn (by omega) hR (by omega) (by omega) (by omega) (fun T hT eT => ?_)
  have hb := hT.b
  refine wp_iconst dX1_irks_11 (by decide) ?_
  refine wp_aload_n dX1_irks_12 rfl rfl ?_
  refine wp_iload_n dX1_irks_13 rfl rfl ?_
  refine wp_iconst dX1_irks_14 (by decide) ?_
  refine wp_callV0 (d' := d - 1) cv_RX1_33 T rfl [(0, 2), (2, 16), (0, x), (0, (-1))] [(0, 99), (0, 0)] rfl rfl (Or.inl ⟨_, _, hT.k0, by decide, rfl, by omega, by omega⟩) (by omega) (Nat.le_of_ble_eq_true rfl) dX1_irks_15 rfl (Nat.le_of_ble_eq_true rfl) (by omega) (loc1 := [(2, (T : Int)), (0, 2), (2, 16), (0, x), (0, (-1)), (9, 0), (9, 0), (9, 0)]) rfl ?_
  obtain ⟨t0, t1, t2, t3⟩ := hX.2.2 (M 16 1).toNat (by omega)
  rw [← eT] at t0 t1 t2 t3
  refine sp_worth_16_2 hT hn hR (by omega) x (-1) (by omega) (by omega) (M (T + 2) 2).toNat (by omega) (by omega) (M (T + 2) 1).toNat (by omega) (by omega) (fun M1 hF1 hR1 => ?_)
  rw [show (run (M (T + 1)) (nmv M 16 false x (-1)) ((M (T + 2) 2).toNat - (M (T + 2) 1).toNat) (M (T + 2) 1).toNat []).headD 0 = (evC M (M 16 1).toNat 2 (nmv M 16 false x (-1))) by rw [eT]; exact (if_neg (show ¬ 6 ≤ (M 16 1).toNat by omega)).symm]
  have hG := hF1.mono (fun i j h => VT.vx hT h)
  refine wp_callS0 (d' := d - 1) cs_RX1_54 [(0, 0), (0, 99), (0, (evC M (M 16 1).toNat 2 (nmv M 16 false x (-1))))] [] rfl rfl (Nat.le_of_ble_eq_true rfl) dX1_irks_18 rfl (Nat.le_of_ble_eq_true rfl) (by omega) (loc1 := [(0, 0), (0, 99), (0, (evC M (M 16 1).toNat 2 (nmv M 16 false x (-1))))]) rfl ?_
  refine sp_within _ _ _ ?_
  refine wp_istore_n (loc' := [(2, 51), (2, 16), (0, x), (0, (wthn 0 99 (evC M (M 16 1).toNat 2 (nmv M 16 false x (-1)))))]) dX1_irks_21 rfl (Nat.le_of_ble_eq_true rfl) rfl ?_
  refine wp_iconst dX1_irks_22 (by decide) ?_
  refine wp_bipush dX1_irks_23 (by decide) (by decide) ?_
  refine wp_aload_n dX1_irks_25 rfl rfl ?_
  refine wp_aload_n dX1_irks_26 rfl rfl ?_
  refine wp_get 16 rfl fl_RX1_44 rfl ⟨by omega, by omega⟩ dX1_irks_27 rfl (v := 17) (sr_16_4 (M := M1) hR1) ?_
  refine wp_iload_n dX1_irks_30 rfl rfl ?_
  refine wp_callV0 (d' := d - 1) cv_RX1_40 16 rfl [(2, 17), (0, x)] [(0, 99), (0, 0)] rfl rfl (Or.inl ⟨_, _, rfl, by decide, rfl, by omega, by omega⟩) (by omega) (Nat.le_of_ble_eq_true rfl) dX1_irks_31 rfl (Nat.le_of_ble_eq_true rfl) (by omega) (loc1 := [(2, 16), (2, 17), (0, x)]) rfl ?_
  refine sp_of_kind_16 hn hR1 x (by rw [hG 16 2 (by unfold VX; omega)]; omega) ?_
  rw [hG 17 x.toNat (by unfold VX; omega)]
  refine wp_iload_n dX1_irks_34 rfl rfl ?_
  refine wp_aload_n dX1_irks_35 rfl rfl ?_
  refine wp_aload_n dX1_irks_36 rfl rfl ?_
  refine wp_get 16 rfl fl_RX1_51 rfl ⟨by omega, by omega⟩ dX1_irks_37 rfl (v := 18) (sr_16_5 (M := M1) hR1) ?_
  refine wp_iload_n dX1_irks_40 rfl rfl ?_
  refine wp_callV0 (d' := d - 1) cv_RX1_40 16 rfl [(2, 18), (0, x)] [(0, (wthn 0 99 (evC M (M 16 1).toNat 2 (nmv M 16 false x (-1))))), (0, (M 17 x.toNat)), (0, 99), (0, 0)] rfl rfl (Or.inl ⟨_, _, rfl, by decide, rfl, by omega, by omega⟩) (by omega) (Nat.le_of_ble_eq_true rfl) dX1_irks_41 rfl (Nat.le_of_ble_eq_true rfl) (by omega) (loc1 := [(2, 16), (2, 18), (0, x)]) rfl ?_
  refine sp_of_number_16 hn hR1 x (by rw [hG 16 2 (by unfold VX; omega)]; omega) ?_
  rw [hG 18 x.toNat (by unfold VX; omega)]
  refine wp_callS0 (d' := d - 1) cs_RX1_61 [(0, (M 17 x.toNat)), (0, (wthn 0 99 (evC M (M 16 1).toNat 2 (nmv M 16 false x (-1))))), (0, (M 18 x.toNat))] [(0, 99), (0, 0)] rfl rfl (Nat.le_of_ble_eq_true rfl) dX1_irks_44 rfl (Nat.le_of_ble_eq_true rfl) (by omega) (loc1 := [(0, (M 17 x.toNat)), (0, (wthn 0 99 (evC M (M 16 1).toNat 2 (nmv M 16 false x (-1))))), (0, (M 18 x.toNat))]) rfl ?_
  refine sp_irksOfKind _ _ _ (wthn_r (by omega)) ?_
  refine wp_callS0 (d' := d - 1) cs_RX1_54 [(0, 0), (0, 99), (0, (irksK (M 17 x.toNat) (wthn 0 99 (evC M (M 16 1).toNat 2 (nmv M 16 false x (-1)))) (M 18 x.toNat)))] [] rfl rfl (Nat.le_of_ble_eq_true rfl) dX1_irks_47 rfl (Nat.le_of_ble_eq_true rfl) (by omega) (loc1 := [(0, 0), (0, 99), (0, (irksK (M 17 x.toNat) (wthn 0 99 (evC M (M 16 1).toNat 2 (nmv M 16 false x (-1)))) (M 18 x.toNat)))]) rfl ?_
  refine sp_within _ _ _ ?_
  refine wp_iret rfl dX1_irks_50 ?_
  have e : irksA (evC M) A x = (wthn 0 99 (irksK (M 17 x.toNat) (wthn 0 99 (evC M (M 16 1).toNat 2 (nmv M 16 false x (-1)))) (M 18 x.toNat))) := by
    unfold irksA
    rw [ar 0 x.toNat (by omega) (by omega), ar 1 x.toNat (by omega) (by omega), a1, show nmv M 16 false x (-1) = nmA A false x (-1) from funext fun c => nm_eq hA (by omega) (fun h => by cases h)]
  rw [← e]
  exact k M1 hG hR1
