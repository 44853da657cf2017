/-! ===== the model: grows ===== -/
/-- cells that a search uses -/
def VMo (i j : Nat) : Prop := VMs i j ∨ (76 ≤ i ∧ i ≤ 81) ∨ (i = 69 ∧ (j = 30 ∨ j = 33 ∨ j = 36 ∨ j = 37))
theorem VMo.sr {M M' : Mm} (h : Fr VMo M M') (hR : SR M) : SR M' := hR.frL h (by unfold VMo VMs; decide +kernel)
theorem VMo.n : ∀ i j, VMo i j → VMn i j := by
  intro i j h
  unfold VMo VMs at h
  unfold VMn
  omega
theorem VMs.o : ∀ i j, VMs i j → VMo i j := fun i j h => Or.inl h
theorem V79.o : ∀ i j, V79 i j → VMo i j := by
  intro i j h
  unfold V79 at h
  unfold VMo
  omega
theorem MJ.fro {M M' : Mm} {A : Ls} {E : Ev} (h : MJ M A E) (g : Fr VMo M M') : MJ M' A E := h.frn (g.mono VMo.n) (VMo.sr g h.1)
/-- who minds whom, as the model has it at hand -/
def TbM (M : Mm) (E : Ev) (A : Ls) : Prop := ∀ a b : Int, 0 ≤ a → a < A.1 2 → 0 ≤ b → b < A.1 2 → M 78 (5 * a.toNat + b.toNat) = mv E A a b
def TbP (M : Mm) (E : Ev) (A : Ls) (p q : Nat) : Prop := ∀ a b : Nat, (a : Int) < A.1 2 → (b : Int) < A.1 2 → (a < p ∨ (a = p ∧ b < q)) → M 78 (5 * a + b) = mv E A (a : Int) (b : Int)
theorem TbP.all {M : Mm} {E : Ev} {A : Ls} {N : Nat} (hN : A.1 2 = (N : Int)) (h : TbP M E A N 0) : TbM M E A := by
  intro a b h1 h2 h3 h4
  obtain ⟨a, rfl⟩ := Int.eq_ofNat_of_zero_le h1
  obtain ⟨b, rfl⟩ := Int.eq_ofNat_of_zero_le h3
  exact h a b h2 h4 (Or.inl (by omega))
theorem TbM.fr {M M' : Mm} {E : Ev} {A : Ls} (h : TbM M E A) (e : ∀ j, M' 78 j = M 78 j) : TbM M' E A := fun a b h1 h2 h3 h4 => (e _).trans (h a b h1 h2 h3 h4)
theorem TbP.fr {M M' : Mm} {E : Ev} {A : Ls} {p q : Nat} (h : TbP M E A p q) (e : ∀ j, M' 78 j = M 78 j) : TbP M' E A p q := fun a b h1 h2 h3 => (e _).trans (h a b h1 h2 h3)
theorem TbP.put {M : Mm} {E : Ev} {A : Ls} {p q : Nat} (h : TbP M E A p q) (h5 : A.1 2 ≤ 5) (hq : (q : Int) < A.1 2) {v : Int} (hv : v = mv E A (p : Int) (q : Int)) : TbP (mu M 78 (5 * p + q) v) E A p (q + 1) := by
  intro a b h1 h2 h3
  by_cases c : a = p ∧ b = q
  · obtain ⟨rfl, rfl⟩ := c
    rw [mu_self, hv]
  · rw [mu_nj _ _ _ (show 5 * a + b ≠ 5 * p + q by omega)]
    exact h a b h1 h2 (by omega)
set_option maxRecDepth 20000 in
set_option maxHeartbeats 4000000 in
theorem lp_gt2  {l : Launch} {g : Gw} {d n : Nat} (hn : 90 ≤ n) (hd : 68 ≤ d) {E : Ev} {A : Ls} {N p : Nat} (hN : A.1 2 = (N : Int)) (hp : p < N) {u3 u4 : Wd} : ∀ (m q : Nat) (M : Mm) (Q : Option Wd → Mm → Prop), q + m = N → MJ M A E → TbP M E A p q → (∀ M' v, MJ M' A E → TbP M' E A p N → Fr VMo M M' → Wp l g d 0 0 n m_X8_grows 55 [] [(2, 69), (0, (p : Int)), v, u3, u4] M' Q) → Wp l g d 0 0 n m_X8_grows 12 [] [(2, 69), (0, (p : Int)), (0, (q : Int)), u3, u4] M Q := by
  intro m
  induction m with
  | zero =>
    intro q M Q hm hI hT k
    obtain ⟨hR, hA, hW, hr, hX⟩ := id hI
    have w2 := hW.1
    have w5 := hW.2.1
    have w3 := hW.2.2.1
    have w32 := hW.2.2.2.1
    refine wp_iload_n dX8_grows_12 rfl rfl ?_
    refine wp_aload_n dX8_grows_13 rfl rfl ?_
    refine wp_get 69 rfl fl_RX8_88 rfl ⟨by omega, by omega⟩ dX8_grows_14 rfl (v := (A.1 2)) (hA.2.2.1) ?_
    refine wp_icmp_ge (tgt := 55) dX8_grows_17 (by decide) (fun _ => ?_) (fun h => absurd h (by omega))
    have e : q = N := by omega
    subst e
    exact k M _ hI hT Fr.rf
  | succ m ih =>
    intro q M Q hm hI hT k
    obtain ⟨hR, hA, hW, hr, hX⟩ := id hI
    have w2 := hW.1
    have w5 := hW.2.1
    have w3 := hW.2.2.1
    have w32 := hW.2.2.2.1
    refine wp_iload_n dX8_grows_12 rfl rfl ?_
    refine wp_aload_n dX8_grows_13 rfl rfl ?_
    refine wp_get 69 rfl fl_RX8_88 rfl ⟨by omega, by omega⟩ dX8_grows_14 rfl (v := (A.1 2)) (hA.2.2.1) ?_
    refine wp_icmp_ge (tgt := 55) dX8_grows_17 (by decide) (fun h => absurd h (by omega)) (fun _ => ?_)
    refine wp_aload_n dX8_grows_20 rfl rfl ?_
    refine wp_get 69 rfl fl_RX8_38 rfl ⟨by omega, by omega⟩ dX8_grows_21 rfl (v := 78) (sr_69_31 (M := M) hR) ?_
    refine wp_iconst dX8_grows_24 (by decide) ?_
    refine wp_iload_n dX8_grows_25 rfl rfl ?_
    refine wp_imul dX8_grows_26 (by omega) ?_
    refine wp_iload_n dX8_grows_27 rfl rfl ?_
    refine wp_iadd dX8_grows_28 (by omega) ?_
    refine wp_iload_n dX8_grows_29 rfl rfl ?_
    refine wp_iload_n dX8_grows_30 rfl rfl ?_
    refine wp_icmp_eq (tgt := 43) dX8_grows_31 (by decide) (fun h31 => ?_) (fun h31 => ?_)
    · refine wp_iconst dX8_grows_43 (by decide) ?_
      refine wp_goto (tgt := 48) dX8_grows_44 (by decide) ?_
      refine wp_zast 78 rfl rfl ⟨by omega, by omega⟩ ⟨by omega, by omega⟩ (by omega) dX8_grows_48 (jn := (5 * p + q)) (by omega) ?_
      refine wp_iinc (loc' := [(2, 69), (0, (p : Int)), (0, ((q : Int) + 1)), u3, u4]) dX8_grows_49 rfl (by omega) rfl ?_
      refine wp_goto (tgt := 12) dX8_grows_52 (by decide) ?_
      have f1 : Fr VMo M (mu M 78 (5 * p + q) 1) := (Fr.rf : Fr VMo M M).put (by unfold VMo VMs; omega)
      have hv : (1 : Int) = mv E A (p : Int) (q : Int) := by unfold mv; rw [if_pos (show mindsA E A (p : Int) (q : Int) = true from if_pos (by omega))]
      exact ih (q + 1) _ Q (by omega) (hI.fro f1) (hT.put w5 (by omega) hv) (fun M2 v2 I2 T2 F2 => k M2 v2 I2 T2 (f1.tr F2))
    · refine wp_aload_n dX8_grows_34 rfl rfl ?_
      refine wp_iload_n dX8_grows_35 rfl rfl ?_
      refine wp_iload_n dX8_grows_36 rfl rfl ?_
      refine wp_callV0 (d' := d - 1) cv_RX8_128 69 rfl [(0, (p : Int)), (0, (q : Int))] [(0, ((5 * (p : Int)) + (q : Int))), (2, 78)] rfl rfl (Or.inl ⟨_, _, rfl, by decide, rfl, by omega, by omega⟩) (by omega) (Nat.le_of_ble_eq_true rfl) dX8_grows_37 rfl (Nat.le_of_ble_eq_true rfl) (by omega) (loc1 := [(2, 69), (0, (p : Int)), (0, (q : Int)), (9, 0), (9, 0), (9, 0)]) rfl ?_
      refine sp_mdm hn hI (by omega) (p : Int) (q : Int) (by omega) (by omega) (by omega) (fun m1 M1 F1 => ?_) (fun m1 M1 F1 => ?_)
      · refine wp_if_eq (tgt := 47) dX8_grows_40 (by decide) (fun h => absurd h (by decide)) (fun _ => ?_)
        refine wp_iconst dX8_grows_43 (by decide) ?_
        refine wp_goto (tgt := 48) dX8_grows_44 (by decide) ?_
        refine wp_zast 78 rfl rfl ⟨by omega, by omega⟩ ⟨by omega, by omega⟩ (by omega) dX8_grows_48 (jn := (5 * p + q)) (by omega) ?_
        refine wp_iinc (loc' := [(2, 69), (0, (p : Int)), (0, ((q : Int) + 1)), u3, u4]) dX8_grows_49 rfl (by omega) rfl ?_
        refine wp_goto (tgt := 12) dX8_grows_52 (by decide) ?_
        have f1 : Fr VMo M (mu M1 78 (5 * p + q) 1) := (F1.mono VMs.o).put (by unfold VMo VMs; omega)
        have hv : (1 : Int) = mv E A (p : Int) (q : Int) := by unfold mv; rw [if_pos m1]
        exact ih (q + 1) _ Q (by omega) (hI.fro f1) ((hT.fr (fun j => F1 78 j (by unfold VMs; omega))).put w5 (by omega) hv) (fun M2 v2 I2 T2 F2 => k M2 v2 I2 T2 (f1.tr F2))
      · refine wp_if_eq (tgt := 47) dX8_grows_40 (by decide) (fun _ => ?_) (fun h => absurd h (by decide))
        refine wp_iconst dX8_grows_47 (by decide) ?_
        refine wp_zast 78 rfl rfl ⟨by omega, by omega⟩ ⟨by omega, by omega⟩ (by omega) dX8_grows_48 (jn := (5 * p + q)) (by omega) ?_
        refine wp_iinc (loc' := [(2, 69), (0, (p : Int)), (0, ((q : Int) + 1)), u3, u4]) dX8_grows_49 rfl (by omega) rfl ?_
        refine wp_goto (tgt := 12) dX8_grows_52 (by decide) ?_
        have f1 : Fr VMo M (mu M1 78 (5 * p + q) 0) := (F1.mono VMs.o).put (by unfold VMo VMs; omega)
        have hv : (0 : Int) = mv E A (p : Int) (q : Int) := by unfold mv; rw [if_neg (by rw [m1]; decide)]
        exact ih (q + 1) _ Q (by omega) (hI.fro f1) ((hT.fr (fun j => F1 78 j (by unfold VMs; omega))).put w5 (by omega) hv) (fun M2 v2 I2 T2 F2 => k M2 v2 I2 T2 (f1.tr F2))
set_option maxRecDepth 20000 in
set_option maxHeartbeats 4000000 in
theorem lp_gt1  {l : Launch} {g : Gw} {d n : Nat} (hn : 90 ≤ n) (hd : 68 ≤ d) {E : Ev} {A : Ls} {N : Nat} (hN : A.1 2 = (N : Int)) {u3 u4 : Wd} : ∀ (m p : Nat) (u2 : Wd) (M : Mm) (Q : Option Wd → Mm → Prop), p + m = N → MJ M A E → TbP M E A p 0 → (∀ M' v1 v2, MJ M' A E → TbM M' E A → Fr VMo M M' → Wp l g d 0 0 n m_X8_grows 61 [] [(2, 69), v1, v2, u3, u4] M' Q) → Wp l g d 0 0 n m_X8_grows 2 [] [(2, 69), (0, (p : Int)), u2, u3, u4] M Q := by
  intro m
  induction m with
  | zero =>
    intro p u2 M Q hm hI hT k
    obtain ⟨hR, hA, hW, hr, hX⟩ := id hI
    have w2 := hW.1
    have w5 := hW.2.1
    have w3 := hW.2.2.1
    have w32 := hW.2.2.2.1
    refine wp_iload_n dX8_grows_2 rfl rfl ?_
    refine wp_aload_n dX8_grows_3 rfl rfl ?_
    refine wp_get 69 rfl fl_RX8_88 rfl ⟨by omega, by omega⟩ dX8_grows_4 rfl (v := (A.1 2)) (hA.2.2.1) ?_
    refine wp_icmp_ge (tgt := 61) dX8_grows_7 (by decide) (fun _ => ?_) (fun h => absurd h (by omega))
    have e : p = N := by omega
    subst e
    exact k M _ _ hI (hT.all hN) Fr.rf
  | succ m ih =>
    intro p u2 M Q hm hI hT k
    obtain ⟨hR, hA, hW, hr, hX⟩ := id hI
    have w2 := hW.1
    have w5 := hW.2.1
    have w3 := hW.2.2.1
    have w32 := hW.2.2.2.1
    refine wp_iload_n dX8_grows_2 rfl rfl ?_
    refine wp_aload_n dX8_grows_3 rfl rfl ?_
    refine wp_get 69 rfl fl_RX8_88 rfl ⟨by omega, by omega⟩ dX8_grows_4 rfl (v := (A.1 2)) (hA.2.2.1) ?_
    refine wp_icmp_ge (tgt := 61) dX8_grows_7 (by decide) (fun h => absurd h (by omega)) (fun _ => ?_)
    refine wp_iconst dX8_grows_10 (by decide) ?_
    refine wp_istore_n (loc' := [(2, 69), (0, (p : Int)), (0, 0), u3, u4]) dX8_grows_11 rfl (Nat.le_of_ble_eq_true rfl) rfl ?_
    refine lp_gt2 hn hd hN (by omega) N 0 M Q (by omega) hI hT (fun M1 v1 I1 T1 F1 => ?_)
    refine wp_iinc (loc' := [(2, 69), (0, ((p : Int) + 1)), v1, u3, u4]) dX8_grows_55 rfl (by omega) rfl ?_
    refine wp_goto (tgt := 2) dX8_grows_58 (by decide) ?_
    have T2 : TbP M1 E A (p + 1) 0 := fun a b h1 h2 h3 => T1 a b h1 h2 (by omega)
    exact ih (p + 1) _ M1 Q (by omega) I1 T2 (fun M2 v2 u I2 T2 F2 => k M2 v2 u I2 T2 (F1.tr F2))
set_option maxRecDepth 20000 in
set_option maxHeartbeats 4000000 in
theorem lp_gl  {l : Launch} {g : Gw} {d n : Nat} (hn : 90 ≤ n) {E : Ev} {A : Ls} {N : Nat} (hN : A.1 3 = (N : Int)) {u2 u3 u4 : Wd} : ∀ (m q : Nat) (M : Mm) (Q : Option Wd → Mm → Prop), q + m = N → MJ M A E → TbM M E A → (∀ j, j < q → M 79 j = A.2 5 j) → (∀ M' v, MJ M' A E → TbM M' E A → (∀ j, j < N → M' 79 j = A.2 5 j) → Fr VMo M M' → Wp l g d 0 0 n m_X8_grows 89 [] [(2, 69), v, u2, u3, u4] M' Q) → Wp l g d 0 0 n m_X8_grows 63 [] [(2, 69), (0, (q : Int)), u2, u3, u4] M Q := by
  intro m
  induction m with
  | zero =>
    intro q M Q hm hI hT hw k
    obtain ⟨hR, hA, hW, hr, hX⟩ := id hI
    have w2 := hW.1
    have w5 := hW.2.1
    have w3 := hW.2.2.1
    have w32 := hW.2.2.2.1
    refine wp_iload_n dX8_grows_63 rfl rfl ?_
    refine wp_aload_n dX8_grows_64 rfl rfl ?_
    refine wp_get 69 rfl fl_RX8_123 rfl ⟨by omega, by omega⟩ dX8_grows_65 rfl (v := (A.1 3)) (hA.2.2.2.1) ?_
    refine wp_icmp_ge (tgt := 89) dX8_grows_68 (by decide) (fun _ => ?_) (fun h => absurd h (by omega))
    exact k M _ hI hT (fun j hj => hw j (by omega)) Fr.rf
  | succ m ih =>
    intro q M Q hm hI hT hw k
    obtain ⟨hR, hA, hW, hr, hX⟩ := id hI
    have w2 := hW.1
    have w5 := hW.2.1
    have w3 := hW.2.2.1
    have w32 := hW.2.2.2.1
    refine wp_iload_n dX8_grows_63 rfl rfl ?_
    refine wp_aload_n dX8_grows_64 rfl rfl ?_
    refine wp_get 69 rfl fl_RX8_123 rfl ⟨by omega, by omega⟩ dX8_grows_65 rfl (v := (A.1 3)) (hA.2.2.2.1) ?_
    refine wp_icmp_ge (tgt := 89) dX8_grows_68 (by decide) (fun h => absurd h (by omega)) (fun _ => ?_)
    refine wp_aload_n dX8_grows_71 rfl rfl ?_
    refine wp_get 69 rfl fl_RX8_42 rfl ⟨by omega, by omega⟩ dX8_grows_72 rfl (v := 79) (sr_69_32 (M := M) hR) ?_
    refine wp_iload_n dX8_grows_75 rfl rfl ?_
    refine wp_aload_n dX8_grows_76 rfl rfl ?_
    refine wp_get 69 rfl fl_RX8_29 rfl ⟨by omega, by omega⟩ dX8_grows_77 rfl (v := 75) (sr_69_11 (M := M) hR) ?_
    refine wp_iload_n dX8_grows_80 rfl rfl ?_
    refine wp_iald 75 rfl rfl ⟨by omega, by omega⟩ ⟨by omega, by omega⟩ dX8_grows_81 (v := (A.2 5 q)) (hA.2.2.2.2.2.2 q (by omega)) ?_
    refine wp_iast 79 rfl rfl ⟨by omega, by omega⟩ ⟨by omega, by omega⟩ dX8_grows_82 (jn := q) rfl ?_
    refine wp_iinc (loc' := [(2, 69), (0, ((q : Int) + 1)), u2, u3, u4]) dX8_grows_83 rfl (by omega) rfl ?_
    refine wp_goto (tgt := 63) dX8_grows_86 (by decide) ?_
    have f1 : Fr VMo M (mu M 79 q (A.2 5 q)) := Fr.rf.put (by unfold VMo VMs; omega)
    refine ih (q + 1) _ Q (by omega) (hI.fro f1) (hT.fr (fun j => rfl)) (fun j hj => ?_) (fun M2 v2 I2 T2 W2 F2 => k M2 v2 I2 T2 W2 (f1.tr F2))
    by_cases c : j = q
    · subst c
      exact mu_self _ _ _ _
    · exact (mu_nj _ _ _ c).trans (hw j (by omega))
theorem mu_off {M : Mm} {i j a b : Nat} {v : Int} (h : ¬ (a = i ∧ b = j)) : mu M i j v a b = M a b := by
  by_cases c : a = i
  · subst c
    exact mu_nj _ _ _ (by omega)
  · exact mu_ne _ _ _ c _
theorem mv_1 {E : Ev} {A : Ls} {a b : Int} (h : mv E A a b ≠ 0) : mindsA E A a b = true := by
  by_cases c : mindsA E A a b = true
  · exact c
  · exact absurd (if_neg c) h
theorem mv_0 {E : Ev} {A : Ls} {a b : Int} (h : mv E A a b = 0) : mindsA E A a b = false := by
  by_cases c : mindsA E A a b = true
  · have : mv E A a b = 1 := if_pos c
    omega
  · exact Bool.eq_false_iff.mpr c
def GS (M : Mm) (x0 : Od) (S : St) : Prop := FMl M x0.length S.1 ∧ M 69 33 = S.2 ∧ PB x0 S.1 ∧ AB S.1
theorem swp_swp {x : Od} {p N : Nat} (h1 : 1 ≤ p) (hp : p < x.length) (j : Nat) : at0 (swp (swp x p) p) j = at0 x j := by
  rw [swp_at h1 (by rw [swp_len]; exact hp), swp_at h1 hp, swp_at h1 hp, swp_at h1 hp]
  by_cases c : j = p
  · subst c
    rw [if_pos rfl, if_neg (by omega), if_pos rfl]
  · rw [if_neg c]
    by_cases c2 : j = p - 1
    · subst c2
      rw [if_pos rfl, if_pos rfl]
    · rw [if_neg c2, if_neg c, if_neg c2]
set_option maxRecDepth 20000 in
set_option maxHeartbeats 4000000 in
theorem lp_gsp  {l : Launch} {g : Gw} {d n : Nat} (hn : 90 ≤ n) (hd : 68 ≤ d) {E : Ev} {A : Ls} {x0 x : Od} {w : Int} {i : Nat} (hx0 : okO x0.length x0) (hN5 : x0.length ≤ 5) (hN3 : A.1 3 = (x0.length : Int)) (hx : x.Perm x0) (hxm : ∀ a ∈ x, 0 ≤ a ∧ a < A.1 2) (hi120 : i ≤ 120) : ∀ (m q : Nat) (u3 u4 : Wd) (S : St) (M : Mm) (Q : Option Wd → Mm → Prop), q + m = x0.length → 1 ≤ q → MJ M A E → GS M x0 S → TbM M E A → (∀ j, j < x0.length → M 79 j = at0 x j) → S.1.getD i pr0 = (x, w) → i < S.1.length → (∀ M' v3 v4 v5, MJ M' A E → GS M' x0 (spA (cnA E A) x w m q S) → TbM M' E A → Fr VMo M M' → Wp l g d 0 0 n m_X8_grows 288 [] [(2, 69), (0, (i : Int)), v3, v4, v5] M' Q) → Wp l g d 0 0 n m_X8_grows 138 [] [(2, 69), (0, (i : Int)), (0, (q : Int)), u3, u4] M Q := by
  have hxl : x.length = x0.length := hx.length_eq
  have hO : okO x0.length x0 := hx0
  have hOx : okO x0.length x := perm_ok hx0 hx
  intro m
  induction m with
  | zero =>
    intro q u3 u4 S M Q hm h1 hI hG hT hw hg hi k
    obtain ⟨hR, hA, hW, hr, hX⟩ := id hI
    have w5 := hW.2.1
    have w32 := hW.2.2.2.1
    have hl120 := hG.2.2.1.le (by omega)
    refine wp_iload_n dX8_grows_138 rfl rfl ?_
    refine wp_aload_n dX8_grows_139 rfl rfl ?_
    refine wp_get 69 rfl fl_RX8_123 rfl ⟨by omega, by omega⟩ dX8_grows_140 rfl (v := (A.1 3)) (hA.2.2.2.1) ?_
    refine wp_icmp_ge (tgt := 288) dX8_grows_143 (by decide) (fun _ => ?_) (fun h => absurd h (by omega))
    exact k M _ _ _ hI hG hT Fr.rf
  | succ m ih =>
    intro q u3 u4 S M Q hm h1 hI hG hT hw hg hi k
    obtain ⟨hR, hA, hW, hr, hX⟩ := id hI
    have w5 := hW.2.1
    have w32 := hW.2.2.2.1
    have hl120 := hG.2.2.1.le (by omega)
    have v0 := hxm _ (at_mem (p := 0) (x := x) (by omega))
    have vp := hxm _ (at_mem (p := q - 1) (x := x) (by omega))
    have vq := hxm _ (at_mem (p := q) (x := x) (by omega))
    have hlt : ∀ y : Od, y.Perm x0 → ¬ y ∈ S.1.map Prod.fst → S.1.length < 120 := fun y hy hn => hG.2.2.1.lt hy (by omega) hn
    refine wp_iload_n dX8_grows_138 rfl rfl ?_
    refine wp_aload_n dX8_grows_139 rfl rfl ?_
    refine wp_get 69 rfl fl_RX8_123 rfl ⟨by omega, by omega⟩ dX8_grows_140 rfl (v := (A.1 3)) (hA.2.2.2.1) ?_
    refine wp_icmp_ge (tgt := 288) dX8_grows_143 (by decide) (fun h => absurd h (by omega)) (fun _ => ?_)
    refine wp_iload_n dX8_grows_146 rfl rfl ?_
    refine wp_iconst dX8_grows_147 (by decide) ?_
    refine wp_icmp_gt (tgt := 164) dX8_grows_148 (by decide) (fun h148 => ?_) (fun h148 => ?_)
    · refine wp_aload_n dX8_grows_164 rfl rfl ?_
      refine wp_get 69 rfl fl_RX8_38 rfl ⟨by omega, by omega⟩ dX8_grows_165 rfl (v := 78) (sr_69_31 (M := M) hR) ?_
      refine wp_iconst dX8_grows_168 (by decide) ?_
      refine wp_aload_n dX8_grows_169 rfl rfl ?_
      refine wp_get 69 rfl fl_RX8_42 rfl ⟨by omega, by omega⟩ dX8_grows_170 rfl (v := 79) (sr_69_32 (M := M) hR) ?_
      refine wp_iload_n dX8_grows_173 rfl rfl ?_
      refine wp_iconst dX8_grows_174 (by decide) ?_
      refine wp_isub dX8_grows_175 (by omega) ?_
      refine wp_iald 79 rfl rfl ⟨by omega, by omega⟩ ⟨by omega, by omega⟩ dX8_grows_176 (v := (at0 x (q - 1))) (by rw [show (((q : Int) - 1)).toNat = (q - 1) by omega]; exact hw (q - 1) (by omega)) ?_
      refine wp_imul dX8_grows_177 (by omega) ?_
      refine wp_aload_n dX8_grows_178 rfl rfl ?_
      refine wp_get 69 rfl fl_RX8_42 rfl ⟨by omega, by omega⟩ dX8_grows_179 rfl (v := 79) (sr_69_32 (M := M) hR) ?_
      refine wp_iload_n dX8_grows_182 rfl rfl ?_
      refine wp_iald 79 rfl rfl ⟨by omega, by omega⟩ ⟨by omega, by omega⟩ dX8_grows_183 (v := (at0 x q)) (hw q (by omega)) ?_
      refine wp_iadd dX8_grows_184 (by omega) ?_
      refine wp_zald 78 rfl rfl ⟨by omega, by omega⟩ ⟨by omega, by omega⟩ dX8_grows_185 (v := (mv E A (at0 x (q - 1)) (at0 x q))) (by rw [show (((5 * (at0 x (q - 1))) + (at0 x q))).toNat = (5 * (at0 x (q - 1)).toNat + (at0 x q).toNat) by omega]; exact hT _ _ vp.1 vp.2 vq.1 vq.2) ?_
      refine wp_if_ne (tgt := 193) dX8_grows_186 (by decide) (fun h186 => ?_) (fun h186 => ?_)
      · refine wp_iconst dX8_grows_193 (by decide) ?_
        refine wp_istore_n (loc' := [(2, 69), (0, (i : Int)), (0, (q : Int)), (0, 0), u4]) dX8_grows_194 rfl (Nat.le_of_ble_eq_true rfl) rfl ?_
        refine wp_iload_n dX8_grows_195 rfl rfl ?_
        refine wp_if_eq (tgt := 282) dX8_grows_196 (by decide) (fun _ => ?_) (fun h => absurd h (by decide))
        refine wp_iinc (loc' := [(2, 69), (0, (i : Int)), (0, ((q : Int) + 1)), (0, 0), u4]) dX8_grows_282 rfl (by omega) rfl ?_
        refine wp_goto (tgt := 138) dX8_grows_285 (by decide) ?_
        have hc : cnA E A x q = false := by
          unfold cnA
          rw [Bool.and_eq_false_iff]
          first | exact Or.inl (decide_eq_false (fun h => h ⟨by omega, s1⟩)) | exact Or.inr (by rw [mv_1 h186]; rfl)
        have e : spA (cnA E A) x w (m + 1) q S = spA (cnA E A) x w m (q + 1) S := by show spA (cnA E A) x w m (q + 1) (if cnA E A x q = true then _ else S) = _; rw [hc, if_neg (by decide)]
        rw [e] at k
        exact ih (q + 1) _ _ S M Q (by omega) (by omega) hI hG hT hw hg hi (fun M2 u2 v2 t2 I2 G2 T2 F2 => k M2 u2 v2 t2 I2 G2 T2 F2)
      · refine wp_iconst dX8_grows_189 (by decide) ?_
        refine wp_goto (tgt := 194) dX8_grows_190 (by decide) ?_
        refine wp_istore_n (loc' := [(2, 69), (0, (i : Int)), (0, (q : Int)), (0, 1), u4]) dX8_grows_194 rfl (Nat.le_of_ble_eq_true rfl) rfl ?_
        refine wp_iload_n dX8_grows_195 rfl rfl ?_
        refine wp_if_eq (tgt := 282) dX8_grows_196 (by decide) (fun h => absurd h (by decide)) (fun _ => ?_)
        refine wp_aload_n dX8_grows_199 rfl rfl ?_
        refine wp_dup dX8_grows_200 (Or.inr rfl) ?_
        refine wp_get 69 rfl fl_RX8_374 rfl ⟨by omega, by omega⟩ dX8_grows_201 rfl (v := S.2) (hG.2.1) ?_
        refine wp_iconst dX8_grows_204 (by decide) ?_
        refine wp_aload_n dX8_grows_205 rfl rfl ?_
        refine wp_get 69 rfl fl_RX8_42 rfl ⟨by omega, by omega⟩ dX8_grows_206 rfl (v := 79) (sr_69_32 (M := M) hR) ?_
        refine wp_iload_n dX8_grows_209 rfl rfl ?_
        refine wp_iconst dX8_grows_210 (by decide) ?_
        refine wp_isub dX8_grows_211 (by omega) ?_
        refine wp_iald 79 rfl rfl ⟨by omega, by omega⟩ ⟨by omega, by omega⟩ dX8_grows_212 (v := (at0 x (q - 1))) (by rw [show (((q : Int) - 1)).toNat = (q - 1) by omega]; exact hw (q - 1) (by omega)) ?_
        refine wp_ishl dX8_grows_213 ?_
        refine wp_ior dX8_grows_214 ?_
        refine wp_puti 69 rfl fl_RX8_374 rfl ⟨by omega, by omega⟩ dX8_grows_215 rfl rfl ?_
        refine wp_aload_n dX8_grows_218 rfl rfl ?_
        refine wp_iload_n dX8_grows_219 rfl rfl ?_
        refine wp_callV0 (d' := d - 1) cv_RX8_384 69 rfl [(0, (q : Int))] [] rfl rfl (Or.inl ⟨_, _, rfl, by decide, rfl, by omega, by omega⟩) (by omega) (Nat.le_of_ble_eq_true rfl) dX8_grows_220 rfl (Nat.le_of_ble_eq_true rfl) (by omega) (loc1 := [(2, 69), (0, (q : Int)), (9, 0)]) rfl ?_
        have f1 : Fr VMo M (mu M 69 33 (bor S.2 (shl 1 (at0 x (q - 1))))) := Fr.rf.put (by unfold VMo VMs; omega)
        refine sp_tum hn (VMo.sr f1 hR) (x := x) (N := x0.length) (q := q) (by omega) (by omega) h1 (by omega) (fun j hj => hw j hj) (fun M2 f2 w2 => ?_)
        have R2 := VMo.sr (f1.tr (f2.mono V79.o)) hR
        refine wp_aload_n dX8_grows_223 rfl rfl ?_
        refine wp_callV0 (d' := d - 1) cv_RX8_377 69 rfl [] [] rfl rfl (Or.inl ⟨_, _, rfl, by decide, rfl, by omega, by omega⟩) (by omega) (Nat.le_of_ble_eq_true rfl) dX8_grows_224 rfl (Nat.le_of_ble_eq_true rfl) (by omega) (loc1 := [(2, 69), (9, 0), (9, 0)]) rfl ?_
        have hOs : okO x0.length (swp x q) := perm_ok hO ((swp_perm h1 (by omega)).trans hx)
        refine sp_dnm hn R2 hOs (by omega) (by rw [f2 69 12 (by unfold V79; omega)]; exact (hA.2.2.2.1.trans hN3)) w2 ?_
        refine wp_istore (loc' := [(2, 69), (0, (i : Int)), (0, (q : Int)), (0, 1), (0, (encN 10 1 (at0 (swp x q)) x0.length))]) dX8_grows_227 (Nat.le_of_ble_eq_true rfl) rfl ?_
        refine wp_aload_n dX8_grows_229 rfl rfl ?_
        refine wp_iload_n dX8_grows_230 rfl rfl ?_
        refine wp_callV0 (d' := d - 1) cv_RX8_384 69 rfl [(0, (q : Int))] [] rfl rfl (Or.inl ⟨_, _, rfl, by decide, rfl, by omega, by omega⟩) (by omega) (Nat.le_of_ble_eq_true rfl) dX8_grows_231 rfl (Nat.le_of_ble_eq_true rfl) (by omega) (loc1 := [(2, 69), (0, (q : Int)), (9, 0)]) rfl ?_
        refine sp_tum hn R2 (x := swp x q) (N := x0.length) (q := q) (by omega) (by rw [swp_len]; omega) h1 (by omega) w2 (fun M3 f3 w3 => ?_)
        have F3 : Fr VMo M M3 := f1.tr ((f2.tr f3).mono V79.o)
        have R3 := VMo.sr F3 hR
        have W3 : ∀ j, j < x0.length → M3 79 j = at0 x j := fun j hj => (w3 j hj).trans (swp_swp (N := 0) h1 (by omega) j)
        have e3 : ∀ i j, i ≠ 79 → ¬ (i = 69 ∧ j = 33) → M3 i j = M i j := fun a b c1 c2 => (f3 a b c1).trans ((f2 a b c1).trans (mu_off c2))
        have L3 : FMl M3 x0.length S.1 := hG.1.fr (e3 _ _ (by omega) (by omega)) (fun j => e3 _ _ (by omega) (by omega)) (fun j => e3 _ _ (by omega) (by omega))
        have T3 : TbM M3 E A := hT.fr (fun j => e3 _ _ (by omega) (by omega))
        have P3 : M3 69 33 = bor S.2 (shl 1 (at0 x (q - 1))) := (f3 69 33 (by unfold V79; omega)).trans ((f2 69 33 (by unfold V79; omega)).trans rfl)
        refine wp_aload_n dX8_grows_234 rfl rfl ?_
        refine wp_iload dX8_grows_235 rfl ?_
        refine wp_callV0 (d' := d - 1) cv_RX8_387 69 rfl [(0, (encN 10 1 (at0 (swp x q)) x0.length))] [] rfl rfl (Or.inl ⟨_, _, rfl, by decide, rfl, by omega, by omega⟩) (by omega) (Nat.le_of_ble_eq_true rfl) dX8_grows_237 rfl (Nat.le_of_ble_eq_true rfl) (by omega) (loc1 := [(2, 69), (0, (encN 10 1 (at0 (swp x q)) x0.length)), (9, 0)]) rfl ?_
        refine sp_lam hn R3 (N := S.1.length) (hG.2.2.1.le (by omega)) L3.1 (encN 10 1 (at0 (swp x q)) x0.length) ?_
        have hm := lia_mem L3 (hG.2.2.1.ok hx0) hOs
        refine wp_iconst dX8_grows_240 (by decide) ?_
        refine wp_icmp_ne (tgt := 282) dX8_grows_241 (by decide) (fun h241 => ?_) (fun h241 => ?_)
        · refine wp_iinc (loc' := [(2, 69), (0, (i : Int)), (0, ((q : Int) + 1)), (0, 1), (0, (encN 10 1 (at0 (swp x q)) x0.length))]) dX8_grows_282 rfl (by omega) rfl ?_
          refine wp_goto (tgt := 138) dX8_grows_285 (by decide) ?_
          have hc : cnA E A x q = true := by
            unfold cnA
            rw [Bool.and_eq_true_iff]
            refine ⟨decide_eq_true (by first | omega | (intro h; exact s1 h.2)), ?_⟩
            rw [mv_0 h186]
            rfl
          have e : spA (cnA E A) x w (m + 1) q S = spA (cnA E A) x w m (q + 1) (keepA S.1 (swp x q) (w + 1), bor S.2 (shl 1 (at0 x (q - 1)))) := by show spA (cnA E A) x w m (q + 1) (if cnA E A x q = true then _ else S) = _; rw [hc, if_pos rfl]
          rw [e] at k
          have hPs : (swp x q).Perm x0 := (swp_perm h1 (by omega)).trans hx
          have hk : keepA S.1 (swp x q) (w + 1) = S.1 := if_pos (Classical.byContradiction (fun c => h241 (hm.mpr c)))
          rw [hk] at k
          exact ih (q + 1) _ _ (S.1, bor S.2 (shl 1 (at0 x (q - 1)))) M3 Q (by omega) (by omega) (hI.fro F3) ⟨L3, P3, hG.2.2.1, hG.2.2.2⟩ T3 W3 hg hi (fun M2 u2 v2 t2 I2 G2 T2 F2 => k M2 u2 v2 t2 I2 G2 T2 (F3.tr F2))
        · refine wp_aload_n dX8_grows_244 rfl rfl ?_
          refine wp_get 69 rfl fl_RX8_32 rfl ⟨by omega, by omega⟩ dX8_grows_245 rfl (v := 76) (sr_69_28 (M := M3) R3) ?_
          refine wp_aload_n dX8_grows_248 rfl rfl ?_
          refine wp_get 69 rfl fl_RX8_371 rfl ⟨by omega, by omega⟩ dX8_grows_249 rfl (v := (S.1.length : Int)) (L3.1) ?_
          refine wp_iload dX8_grows_252 rfl ?_
          refine wp_iast 76 rfl rfl ⟨by omega, by omega⟩ ⟨by omega, by have := hlt _ ((swp_perm h1 (by omega)).trans hx) (hm.mp h241); omega⟩ dX8_grows_254 (jn := S.1.length) (by omega) ?_
          refine wp_aload_n dX8_grows_255 rfl rfl ?_
          refine wp_get 69 rfl fl_RX8_35 rfl ⟨by omega, by omega⟩ dX8_grows_256 rfl (v := 77) (sr_69_29 (M := M3) R3) ?_
          refine wp_aload_n dX8_grows_259 rfl rfl ?_
          refine wp_get 69 rfl fl_RX8_371 rfl ⟨by omega, by omega⟩ dX8_grows_260 rfl (v := (S.1.length : Int)) (L3.1) ?_
          refine wp_aload_n dX8_grows_263 rfl rfl ?_
          refine wp_get 69 rfl fl_RX8_35 rfl ⟨by omega, by omega⟩ dX8_grows_264 rfl (v := 77) (sr_69_29 (M := M3) R3) ?_
          refine wp_iload_n dX8_grows_267 rfl rfl ?_
          refine wp_iald 77 rfl rfl ⟨by omega, by omega⟩ ⟨by omega, by omega⟩ dX8_grows_268 (v := w) (((L3.2 i hi).2.trans (by rw [hg]))) ?_
          refine wp_iconst dX8_grows_269 (by decide) ?_
          refine wp_iadd dX8_grows_270 (by have := hG.2.2.2 i hi; rw [hg] at this; have h9 : 0 ≤ w ∧ w ≤ (i : Int) := this; omega) ?_
          refine wp_iast 77 rfl rfl ⟨by omega, by omega⟩ ⟨by omega, by have := hlt _ ((swp_perm h1 (by omega)).trans hx) (hm.mp h241); omega⟩ dX8_grows_271 (jn := S.1.length) (by omega) ?_
          refine wp_aload_n dX8_grows_272 rfl rfl ?_
          refine wp_dup dX8_grows_273 (Or.inr rfl) ?_
          refine wp_get 69 rfl fl_RX8_371 rfl ⟨by omega, by omega⟩ dX8_grows_274 rfl (v := (S.1.length : Int)) (L3.1) ?_
          refine wp_iconst dX8_grows_277 (by decide) ?_
          refine wp_iadd dX8_grows_278 (by omega) ?_
          refine wp_puti 69 rfl fl_RX8_371 rfl ⟨by omega, by omega⟩ dX8_grows_279 rfl rfl ?_
          refine wp_iinc (loc' := [(2, 69), (0, (i : Int)), (0, ((q : Int) + 1)), (0, 1), (0, (encN 10 1 (at0 (swp x q)) x0.length))]) dX8_grows_282 rfl (by omega) rfl ?_
          refine wp_goto (tgt := 138) dX8_grows_285 (by decide) ?_
          have hc : cnA E A x q = true := by
            unfold cnA
            rw [Bool.and_eq_true_iff]
            refine ⟨decide_eq_true (by first | omega | (intro h; exact s1 h.2)), ?_⟩
            rw [mv_0 h186]
            rfl
          have e : spA (cnA E A) x w (m + 1) q S = spA (cnA E A) x w m (q + 1) (keepA S.1 (swp x q) (w + 1), bor S.2 (shl 1 (at0 x (q - 1)))) := by show spA (cnA E A) x w m (q + 1) (if cnA E A x q = true then _ else S) = _; rw [hc, if_pos rfl]
          rw [e] at k
          have hPs : (swp x q).Perm x0 := (swp_perm h1 (by omega)).trans hx
          have hnm := hm.mp h241
          have hk : keepA S.1 (swp x q) (w + 1) = S.1 ++ [(swp x q, w + 1)] := if_neg hnm
          have f4 : Fr VMo M3 (mu (mu (mu M3 76 S.1.length (encN 10 1 (at0 (swp x q)) x0.length)) 77 S.1.length (w + 1)) 69 30 ((S.1.length : Int) + 1)) := ((Fr.rf.put (by unfold VMo VMs; omega)).put (by unfold VMo VMs; omega)).put (by unfold VMo VMs; omega)
          have L4 : FMl (mu (mu (mu M3 76 S.1.length (encN 10 1 (at0 (swp x q)) x0.length)) 77 S.1.length (w + 1)) 69 30 ((S.1.length : Int) + 1)) x0.length (S.1 ++ [(swp x q, w + 1)]) := L3.app (swp x q) (w + 1) _ rfl _ rfl (fun j => ?_) (fun j => ?_)
          · have P4 := hG.2.2.1.keep hPs (w + 1)
            have A4 := hG.2.2.2.keep hi hg (swp x q)
            have g4 : (keepA S.1 (swp x q) (w + 1)).getD i pr0 = (x, w) := (keep_at hi).trans hg
            have i4 : i < (keepA S.1 (swp x q) (w + 1)).length := by rw [hk, List.length_append]; omega
            rw [← hk] at L4
            exact ih (q + 1) _ _ (keepA S.1 (swp x q) (w + 1), bor S.2 (shl 1 (at0 x (q - 1)))) _ Q (by omega) (by omega) (hI.fro (F3.tr f4)) ⟨L4, P3, P4, A4⟩ (T3.fr (fun j => rfl)) (fun j hj => W3 j hj) g4 i4 (fun M2 u2 v2 t2 I2 G2 T2 F2 => k M2 u2 v2 t2 I2 G2 T2 ((F3.tr f4).tr F2))
          · show mu M3 76 S.1.length _ 76 j = _
            by_cases c : j = S.1.length
            · rw [if_pos c, c, mu_self]
            · rw [if_neg c, mu_nj _ _ _ c]
          · show mu _ 77 S.1.length (w + 1) 77 j = _
            by_cases c : j = S.1.length
            · rw [if_pos c, c, mu_self]
            · rw [if_neg c, mu_nj _ _ _ c]
              rfl
    · refine wp_aload_n dX8_grows_151 rfl rfl ?_
      refine wp_aload_n dX8_grows_152 rfl rfl ?_
      refine wp_get 69 rfl fl_RX8_42 rfl ⟨by omega, by omega⟩ dX8_grows_153 rfl (v := 79) (sr_69_32 (M := M) hR) ?_
      refine wp_iconst dX8_grows_156 (by decide) ?_
      refine wp_iald 79 rfl rfl ⟨by omega, by omega⟩ ⟨by omega, by omega⟩ dX8_grows_157 (v := (at0 x 0)) (hw 0 (by omega)) ?_
      refine wp_callV0 (d' := d - 1) cv_RX8_362 69 rfl [(0, (at0 x 0))] [] rfl rfl (Or.inl ⟨_, _, rfl, by decide, rfl, by omega, by omega⟩) (by omega) (Nat.le_of_ble_eq_true rfl) dX8_grows_158 rfl (Nat.le_of_ble_eq_true rfl) (by omega) (loc1 := [(2, 69), (0, (at0 x 0))]) rfl ?_
      refine sp_srvm hn hI (at0 x 0) v0 (fun s1 => ?_) (fun s1 => ?_)
      · refine wp_if_ne (tgt := 193) dX8_grows_161 (by decide) (fun _ => ?_) (fun h => absurd h (by decide))
        refine wp_iconst dX8_grows_193 (by decide) ?_
        refine wp_istore_n (loc' := [(2, 69), (0, (i : Int)), (0, (q : Int)), (0, 0), u4]) dX8_grows_194 rfl (Nat.le_of_ble_eq_true rfl) rfl ?_
        refine wp_iload_n dX8_grows_195 rfl rfl ?_
        refine wp_if_eq (tgt := 282) dX8_grows_196 (by decide) (fun _ => ?_) (fun h => absurd h (by decide))
        refine wp_iinc (loc' := [(2, 69), (0, (i : Int)), (0, ((q : Int) + 1)), (0, 0), u4]) dX8_grows_282 rfl (by omega) rfl ?_
        refine wp_goto (tgt := 138) dX8_grows_285 (by decide) ?_
        have hc : cnA E A x q = false := by
          unfold cnA
          rw [Bool.and_eq_false_iff]
          first | exact Or.inl (decide_eq_false (fun h => h ⟨by omega, s1⟩)) | exact Or.inr (by rw [mv_1 h186]; rfl)
        have e : spA (cnA E A) x w (m + 1) q S = spA (cnA E A) x w m (q + 1) S := by show spA (cnA E A) x w m (q + 1) (if cnA E A x q = true then _ else S) = _; rw [hc, if_neg (by decide)]
        rw [e] at k
        exact ih (q + 1) _ _ S M Q (by omega) (by omega) hI hG hT hw hg hi (fun M2 u2 v2 t2 I2 G2 T2 F2 => k M2 u2 v2 t2 I2 G2 T2 F2)
      · refine wp_if_ne (tgt := 193) dX8_grows_161 (by decide) (fun h => absurd h (by decide)) (fun _ => ?_)
        refine wp_aload_n dX8_grows_164 rfl rfl ?_
        refine wp_get 69 rfl fl_RX8_38 rfl ⟨by omega, by omega⟩ dX8_grows_165 rfl (v := 78) (sr_69_31 (M := M) hR) ?_
        refine wp_iconst dX8_grows_168 (by decide) ?_
        refine wp_aload_n dX8_grows_169 rfl rfl ?_
        refine wp_get 69 rfl fl_RX8_42 rfl ⟨by omega, by omega⟩ dX8_grows_170 rfl (v := 79) (sr_69_32 (M := M) hR) ?_
        refine wp_iload_n dX8_grows_173 rfl rfl ?_
        refine wp_iconst dX8_grows_174 (by decide) ?_
        refine wp_isub dX8_grows_175 (by omega) ?_
        refine wp_iald 79 rfl rfl ⟨by omega, by omega⟩ ⟨by omega, by omega⟩ dX8_grows_176 (v := (at0 x (q - 1))) (by rw [show (((q : Int) - 1)).toNat = (q - 1) by omega]; exact hw (q - 1) (by omega)) ?_
        refine wp_imul dX8_grows_177 (by omega) ?_
        refine wp_aload_n dX8_grows_178 rfl rfl ?_
        refine wp_get 69 rfl fl_RX8_42 rfl ⟨by omega, by omega⟩ dX8_grows_179 rfl (v := 79) (sr_69_32 (M := M) hR) ?_
        refine wp_iload_n dX8_grows_182 rfl rfl ?_
        refine wp_iald 79 rfl rfl ⟨by omega, by omega⟩ ⟨by omega, by omega⟩ dX8_grows_183 (v := (at0 x q)) (hw q (by omega)) ?_
        refine wp_iadd dX8_grows_184 (by omega) ?_
        refine wp_zald 78 rfl rfl ⟨by omega, by omega⟩ ⟨by omega, by omega⟩ dX8_grows_185 (v := (mv E A (at0 x (q - 1)) (at0 x q))) (by rw [show (((5 * (at0 x (q - 1))) + (at0 x q))).toNat = (5 * (at0 x (q - 1)).toNat + (at0 x q).toNat) by omega]; exact hT _ _ vp.1 vp.2 vq.1 vq.2) ?_
        refine wp_if_ne (tgt := 193) dX8_grows_186 (by decide) (fun h186 => ?_) (fun h186 => ?_)
        · refine wp_iconst dX8_grows_193 (by decide) ?_
          refine wp_istore_n (loc' := [(2, 69), (0, (i : Int)), (0, (q : Int)), (0, 0), u4]) dX8_grows_194 rfl (Nat.le_of_ble_eq_true rfl) rfl ?_
          refine wp_iload_n dX8_grows_195 rfl rfl ?_
          refine wp_if_eq (tgt := 282) dX8_grows_196 (by decide) (fun _ => ?_) (fun h => absurd h (by decide))
          refine wp_iinc (loc' := [(2, 69), (0, (i : Int)), (0, ((q : Int) + 1)), (0, 0), u4]) dX8_grows_282 rfl (by omega) rfl ?_
          refine wp_goto (tgt := 138) dX8_grows_285 (by decide) ?_
          have hc : cnA E A x q = false := by
            unfold cnA
            rw [Bool.and_eq_false_iff]
            first | exact Or.inl (decide_eq_false (fun h => h ⟨by omega, s1⟩)) | exact Or.inr (by rw [mv_1 h186]; rfl)
          have e : spA (cnA E A) x w (m + 1) q S = spA (cnA E A) x w m (q + 1) S := by show spA (cnA E A) x w m (q + 1) (if cnA E A x q = true then _ else S) = _; rw [hc, if_neg (by decide)]
          rw [e] at k
          exact ih (q + 1) _ _ S M Q (by omega) (by omega) hI hG hT hw hg hi (fun M2 u2 v2 t2 I2 G2 T2 F2 => k M2 u2 v2 t2 I2 G2 T2 F2)
        · refine wp_iconst dX8_grows_189 (by decide) ?_
          refine wp_goto (tgt := 194) dX8_grows_190 (by decide) ?_
          refine wp_istore_n (loc' := [(2, 69), (0, (i : Int)), (0, (q : Int)), (0, 1), u4]) dX8_grows_194 rfl (Nat.le_of_ble_eq_true rfl) rfl ?_
          refine wp_iload_n dX8_grows_195 rfl rfl ?_
          refine wp_if_eq (tgt := 282) dX8_grows_196 (by decide) (fun h => absurd h (by decide)) (fun _ => ?_)
          refine wp_aload_n dX8_grows_199 rfl rfl ?_
          refine wp_dup dX8_grows_200 (Or.inr rfl) ?_
          refine wp_get 69 rfl fl_RX8_374 rfl ⟨by omega, by omega⟩ dX8_grows_201 rfl (v := S.2) (hG.2.1) ?_
          refine wp_iconst dX8_grows_204 (by decide) ?_
          refine wp_aload_n dX8_grows_205 rfl rfl ?_
          refine wp_get 69 rfl fl_RX8_42 rfl ⟨by omega, by omega⟩ dX8_grows_206 rfl (v := 79) (sr_69_32 (M := M) hR) ?_
          refine wp_iload_n dX8_grows_209 rfl rfl ?_
          refine wp_iconst dX8_grows_210 (by decide) ?_
          refine wp_isub dX8_grows_211 (by omega) ?_
          refine wp_iald 79 rfl rfl ⟨by omega, by omega⟩ ⟨by omega, by omega⟩ dX8_grows_212 (v := (at0 x (q - 1))) (by rw [show (((q : Int) - 1)).toNat = (q - 1) by omega]; exact hw (q - 1) (by omega)) ?_
          refine wp_ishl dX8_grows_213 ?_
          refine wp_ior dX8_grows_214 ?_
          refine wp_puti 69 rfl fl_RX8_374 rfl ⟨by omega, by omega⟩ dX8_grows_215 rfl rfl ?_
          refine wp_aload_n dX8_grows_218 rfl rfl ?_
          refine wp_iload_n dX8_grows_219 rfl rfl ?_
          refine wp_callV0 (d' := d - 1) cv_RX8_384 69 rfl [(0, (q : Int))] [] rfl rfl (Or.inl ⟨_, _, rfl, by decide, rfl, by omega, by omega⟩) (by omega) (Nat.le_of_ble_eq_true rfl) dX8_grows_220 rfl (Nat.le_of_ble_eq_true rfl) (by omega) (loc1 := [(2, 69), (0, (q : Int)), (9, 0)]) rfl ?_
          have f1 : Fr VMo M (mu M 69 33 (bor S.2 (shl 1 (at0 x (q - 1))))) := Fr.rf.put (by unfold VMo VMs; omega)
          refine sp_tum hn (VMo.sr f1 hR) (x := x) (N := x0.length) (q := q) (by omega) (by omega) h1 (by omega) (fun j hj => hw j hj) (fun M2 f2 w2 => ?_)
          have R2 := VMo.sr (f1.tr (f2.mono V79.o)) hR
          refine wp_aload_n dX8_grows_223 rfl rfl ?_
          refine wp_callV0 (d' := d - 1) cv_RX8_377 69 rfl [] [] rfl rfl (Or.inl ⟨_, _, rfl, by decide, rfl, by omega, by omega⟩) (by omega) (Nat.le_of_ble_eq_true rfl) dX8_grows_224 rfl (Nat.le_of_ble_eq_true rfl) (by omega) (loc1 := [(2, 69), (9, 0), (9, 0)]) rfl ?_
          have hOs : okO x0.length (swp x q) := perm_ok hO ((swp_perm h1 (by omega)).trans hx)
          refine sp_dnm hn R2 hOs (by omega) (by rw [f2 69 12 (by unfold V79; omega)]; exact (hA.2.2.2.1.trans hN3)) w2 ?_
          refine wp_istore (loc' := [(2, 69), (0, (i : Int)), (0, (q : Int)), (0, 1), (0, (encN 10 1 (at0 (swp x q)) x0.length))]) dX8_grows_227 (Nat.le_of_ble_eq_true rfl) rfl ?_
          refine wp_aload_n dX8_grows_229 rfl rfl ?_
          refine wp_iload_n dX8_grows_230 rfl rfl ?_
          refine wp_callV0 (d' := d - 1) cv_RX8_384 69 rfl [(0, (q : Int))] [] rfl rfl (Or.inl ⟨_, _, rfl, by decide, rfl, by omega, by omega⟩) (by omega) (Nat.le_of_ble_eq_true rfl) dX8_grows_231 rfl (Nat.le_of_ble_eq_true rfl) (by omega) (loc1 := [(2, 69), (0, (q : Int)), (9, 0)]) rfl ?_
          refine sp_tum hn R2 (x := swp x q) (N := x0.length) (q := q) (by omega) (by rw [swp_len]; omega) h1 (by omega) w2 (fun M3 f3 w3 => ?_)
          have F3 : Fr VMo M M3 := f1.tr ((f2.tr f3).mono V79.o)
          have R3 := VMo.sr F3 hR
          have W3 : ∀ j, j < x0.length → M3 79 j = at0 x j := fun j hj => (w3 j hj).trans (swp_swp (N := 0) h1 (by omega) j)
          have e3 : ∀ i j, i ≠ 79 → ¬ (i = 69 ∧ j = 33) → M3 i j = M i j := fun a b c1 c2 => (f3 a b c1).trans ((f2 a b c1).trans (mu_off c2))
          have L3 : FMl M3 x0.length S.1 := hG.1.fr (e3 _ _ (by omega) (by omega)) (fun j => e3 _ _ (by omega) (by omega)) (fun j => e3 _ _ (by omega) (by omega))
          have T3 : TbM M3 E A := hT.fr (fun j => e3 _ _ (by omega) (by omega))
          have P3 : M3 69 33 = bor S.2 (shl 1 (at0 x (q - 1))) := (f3 69 33 (by unfold V79; omega)).trans ((f2 69 33 (by unfold V79; omega)).trans rfl)
          refine wp_aload_n dX8_grows_234 rfl rfl ?_
          refine wp_iload dX8_grows_235 rfl ?_
          refine wp_callV0 (d' := d - 1) cv_RX8_387 69 rfl [(0, (encN 10 1 (at0 (swp x q)) x0.length))] [] rfl rfl (Or.inl ⟨_, _, rfl, by decide, rfl, by omega, by omega⟩) (by omega) (Nat.le_of_ble_eq_true rfl) dX8_grows_237 rfl (Nat.le_of_ble_eq_true rfl) (by omega) (loc1 := [(2, 69), (0, (encN 10 1 (at0 (swp x q)) x0.length)), (9, 0)]) rfl ?_
          refine sp_lam hn R3 (N := S.1.length) (hG.2.2.1.le (by omega)) L3.1 (encN 10 1 (at0 (swp x q)) x0.length) ?_
          have hm := lia_mem L3 (hG.2.2.1.ok hx0) hOs
          refine wp_iconst dX8_grows_240 (by decide) ?_
          refine wp_icmp_ne (tgt := 282) dX8_grows_241 (by decide) (fun h241 => ?_) (fun h241 => ?_)
          · refine wp_iinc (loc' := [(2, 69), (0, (i : Int)), (0, ((q : Int) + 1)), (0, 1), (0, (encN 10 1 (at0 (swp x q)) x0.length))]) dX8_grows_282 rfl (by omega) rfl ?_
            refine wp_goto (tgt := 138) dX8_grows_285 (by decide) ?_
            have hc : cnA E A x q = true := by
              unfold cnA
              rw [Bool.and_eq_true_iff]
              refine ⟨decide_eq_true (by first | omega | (intro h; exact s1 h.2)), ?_⟩
              rw [mv_0 h186]
              rfl
            have e : spA (cnA E A) x w (m + 1) q S = spA (cnA E A) x w m (q + 1) (keepA S.1 (swp x q) (w + 1), bor S.2 (shl 1 (at0 x (q - 1)))) := by show spA (cnA E A) x w m (q + 1) (if cnA E A x q = true then _ else S) = _; rw [hc, if_pos rfl]
            rw [e] at k
            have hPs : (swp x q).Perm x0 := (swp_perm h1 (by omega)).trans hx
            have hk : keepA S.1 (swp x q) (w + 1) = S.1 := if_pos (Classical.byContradiction (fun c => h241 (hm.mpr c)))
            rw [hk] at k
            exact ih (q + 1) _ _ (S.1, bor S.2 (shl 1 (at0 x (q - 1)))) M3 Q (by omega) (by omega) (hI.fro F3) ⟨L3, P3, hG.2.2.1, hG.2.2.2⟩ T3 W3 hg hi (fun M2 u2 v2 t2 I2 G2 T2 F2 => k M2 u2 v2 t2 I2 G2 T2 (F3.tr F2))
          · refine wp_aload_n dX8_grows_244 rfl rfl ?_
            refine wp_get 69 rfl fl_RX8_32 rfl ⟨by omega, by omega⟩ dX8_grows_245 rfl (v := 76) (sr_69_28 (M := M3) R3) ?_
            refine wp_aload_n dX8_grows_248 rfl rfl ?_
            refine wp_get 69 rfl fl_RX8_371 rfl ⟨by omega, by omega⟩ dX8_grows_249 rfl (v := (S.1.length : Int)) (L3.1) ?_
            refine wp_iload dX8_grows_252 rfl ?_
            refine wp_iast 76 rfl rfl ⟨by omega, by omega⟩ ⟨by omega, by have := hlt _ ((swp_perm h1 (by omega)).trans hx) (hm.mp h241); omega⟩ dX8_grows_254 (jn := S.1.length) (by omega) ?_
            refine wp_aload_n dX8_grows_255 rfl rfl ?_
            refine wp_get 69 rfl fl_RX8_35 rfl ⟨by omega, by omega⟩ dX8_grows_256 rfl (v := 77) (sr_69_29 (M := M3) R3) ?_
            refine wp_aload_n dX8_grows_259 rfl rfl ?_
            refine wp_get 69 rfl fl_RX8_371 rfl ⟨by omega, by omega⟩ dX8_grows_260 rfl (v := (S.1.length : Int)) (L3.1) ?_
            refine wp_aload_n dX8_grows_263 rfl rfl ?_
            refine wp_get 69 rfl fl_RX8_35 rfl ⟨by omega, by omega⟩ dX8_grows_264 rfl (v := 77) (sr_69_29 (M := M3) R3) ?_
            refine wp_iload_n dX8_grows_267 rfl rfl ?_
            refine wp_iald 77 rfl rfl ⟨by omega, by omega⟩ ⟨by omega, by omega⟩ dX8_grows_268 (v := w) (((L3.2 i hi).2.trans (by rw [hg]))) ?_
            refine wp_iconst dX8_grows_269 (by decide) ?_
            refine wp_iadd dX8_grows_270 (by have := hG.2.2.2 i hi; rw [hg] at this; have h9 : 0 ≤ w ∧ w ≤ (i : Int) := this; omega) ?_
            refine wp_iast 77 rfl rfl ⟨by omega, by omega⟩ ⟨by omega, by have := hlt _ ((swp_perm h1 (by omega)).trans hx) (hm.mp h241); omega⟩ dX8_grows_271 (jn := S.1.length) (by omega) ?_
            refine wp_aload_n dX8_grows_272 rfl rfl ?_
            refine wp_dup dX8_grows_273 (Or.inr rfl) ?_
            refine wp_get 69 rfl fl_RX8_371 rfl ⟨by omega, by omega⟩ dX8_grows_274 rfl (v := (S.1.length : Int)) (L3.1) ?_
            refine wp_iconst dX8_grows_277 (by decide) ?_
            refine wp_iadd dX8_grows_278 (by omega) ?_
            refine wp_puti 69 rfl fl_RX8_371 rfl ⟨by omega, by omega⟩ dX8_grows_279 rfl rfl ?_
            refine wp_iinc (loc' := [(2, 69), (0, (i : Int)), (0, ((q : Int) + 1)), (0, 1), (0, (encN 10 1 (at0 (swp x q)) x0.length))]) dX8_grows_282 rfl (by omega) rfl ?_
            refine wp_goto (tgt := 138) dX8_grows_285 (by decide) ?_
            have hc : cnA E A x q = true := by
              unfold cnA
              rw [Bool.and_eq_true_iff]
              refine ⟨decide_eq_true (by first | omega | (intro h; exact s1 h.2)), ?_⟩
              rw [mv_0 h186]
              rfl
            have e : spA (cnA E A) x w (m + 1) q S = spA (cnA E A) x w m (q + 1) (keepA S.1 (swp x q) (w + 1), bor S.2 (shl 1 (at0 x (q - 1)))) := by show spA (cnA E A) x w m (q + 1) (if cnA E A x q = true then _ else S) = _; rw [hc, if_pos rfl]
            rw [e] at k
            have hPs : (swp x q).Perm x0 := (swp_perm h1 (by omega)).trans hx
            have hnm := hm.mp h241
            have hk : keepA S.1 (swp x q) (w + 1) = S.1 ++ [(swp x q, w + 1)] := if_neg hnm
            have f4 : Fr VMo M3 (mu (mu (mu M3 76 S.1.length (encN 10 1 (at0 (swp x q)) x0.length)) 77 S.1.length (w + 1)) 69 30 ((S.1.length : Int) + 1)) := ((Fr.rf.put (by unfold VMo VMs; omega)).put (by unfold VMo VMs; omega)).put (by unfold VMo VMs; omega)
            have L4 : FMl (mu (mu (mu M3 76 S.1.length (encN 10 1 (at0 (swp x q)) x0.length)) 77 S.1.length (w + 1)) 69 30 ((S.1.length : Int) + 1)) x0.length (S.1 ++ [(swp x q, w + 1)]) := L3.app (swp x q) (w + 1) _ rfl _ rfl (fun j => ?_) (fun j => ?_)
            · have P4 := hG.2.2.1.keep hPs (w + 1)
              have A4 := hG.2.2.2.keep hi hg (swp x q)
              have g4 : (keepA S.1 (swp x q) (w + 1)).getD i pr0 = (x, w) := (keep_at hi).trans hg
              have i4 : i < (keepA S.1 (swp x q) (w + 1)).length := by rw [hk, List.length_append]; omega
              rw [← hk] at L4
              exact ih (q + 1) _ _ (keepA S.1 (swp x q) (w + 1), bor S.2 (shl 1 (at0 x (q - 1)))) _ Q (by omega) (by omega) (hI.fro (F3.tr f4)) ⟨L4, P3, P4, A4⟩ (T3.fr (fun j => rfl)) (fun j hj => W3 j hj) g4 i4 (fun M2 u2 v2 t2 I2 G2 T2 F2 => k M2 u2 v2 t2 I2 G2 T2 ((F3.tr f4).tr F2))
            · show mu M3 76 S.1.length _ 76 j = _
              by_cases c : j = S.1.length
              · rw [if_pos c, c, mu_self]
              · rw [if_neg c, mu_nj _ _ _ c]
            · show mu _ 77 S.1.length (w + 1) 77 j = _
              by_cases c : j = S.1.length
              · rw [if_pos c, c, mu_self]
              · rw [if_neg c, mu_nj _ _ _ c]
                rfl
