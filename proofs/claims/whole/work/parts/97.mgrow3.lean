/-! ===== the model: grows, weighs, waits ===== -/
def GJ (M : Mm) (A : Ls) (E : Ev) : Prop := MJ M A E ∧ GS M (lnA A) (findA (cnA E A) (lnA A))
set_option maxRecDepth 20000 in
set_option maxHeartbeats 4000000 in
theorem lp_gbf  {l : Launch} {g : Gw} {d n : Nat} (hn : 90 ≤ n) (hd : 68 ≤ d) {E : Ev} {A : Ls} {x0 : Od} (hx0 : okO x0.length x0) (hN5 : x0.length ≤ 5) (hN3 : A.1 3 = (x0.length : Int)) (hxm : ∀ a ∈ x0, 0 ≤ a ∧ a < A.1 2) : ∀ (m i : Nat) (u2 u3 u4 : Wd) (S : St) (M : Mm) (Q : Option Wd → Mm → Prop), i + m = 121 → MJ M A E → GS M x0 S → TbM M E A → (∀ M', MJ M' A E → GS M' x0 (bfA (cnA E A) x0.length m i S) → TbM M' E A → Fr VMo M M' → Q none M') → Wp l g d 0 0 n m_X8_grows 118 [] [(2, 69), (0, (i : Int)), u2, u3, u4] M Q := by
  intro m
  induction m with
  | zero =>
    intro i u2 u3 u4 S M Q hm hI hG hT k
    obtain ⟨hR, hA, hW, hr, hX⟩ := id hI
    have w5 := hW.2.1
    have hl120 := hG.2.2.1.le hN5
    refine wp_iload_n dX8_grows_118 rfl rfl ?_
    refine wp_aload_n dX8_grows_119 rfl rfl ?_
    refine wp_get 69 rfl fl_RX8_371 rfl ⟨by omega, by omega⟩ dX8_grows_120 rfl (v := (S.1.length : Int)) (hG.1.1) ?_
    refine wp_icmp_ge (tgt := 294) dX8_grows_123 (by decide) (fun _ => ?_) (fun h => absurd h (by omega))
    refine wp_vret rfl dX8_grows_294 ?_
    exact k M hI hG hT Fr.rf
  | succ m ih =>
    intro i u2 u3 u4 S M Q hm hI hG hT k
    obtain ⟨hR, hA, hW, hr, hX⟩ := id hI
    have w5 := hW.2.1
    have hl120 := hG.2.2.1.le hN5
    refine wp_iload_n dX8_grows_118 rfl rfl ?_
    refine wp_aload_n dX8_grows_119 rfl rfl ?_
    refine wp_get 69 rfl fl_RX8_371 rfl ⟨by omega, by omega⟩ dX8_grows_120 rfl (v := (S.1.length : Int)) (hG.1.1) ?_
    refine wp_icmp_ge (tgt := 294) dX8_grows_123 (by decide) (fun h123 => ?_) (fun h123 => ?_)
    · refine wp_vret rfl dX8_grows_294 ?_
      have eb : bfA (cnA E A) x0.length (m + 1) i S = S := if_neg (by omega)
      rw [eb] at k
      exact k M hI hG hT Fr.rf
    · refine wp_aload_n dX8_grows_126 rfl rfl ?_
      refine wp_aload_n dX8_grows_127 rfl rfl ?_
      refine wp_get 69 rfl fl_RX8_32 rfl ⟨by omega, by omega⟩ dX8_grows_128 rfl (v := 76) (sr_69_28 (M := M) hR) ?_
      refine wp_iload_n dX8_grows_131 rfl rfl ?_
      refine wp_iald 76 rfl rfl ⟨by omega, by omega⟩ ⟨by omega, by omega⟩ dX8_grows_132 (v := (encN 10 1 (at0 (S.1.getD i pr0).1) x0.length)) ((hG.1.2 i (by omega)).1) ?_
      refine wp_callV0 (d' := d - 1) cv_RX8_380 69 rfl [(0, (encN 10 1 (at0 (S.1.getD i pr0).1) x0.length))] [] rfl rfl (Or.inl ⟨_, _, rfl, by decide, rfl, by omega, by omega⟩) (by omega) (Nat.le_of_ble_eq_true rfl) dX8_grows_133 rfl (Nat.le_of_ble_eq_true rfl) (by omega) (loc1 := [(2, 69), (0, (encN 10 1 (at0 (S.1.getD i pr0).1) x0.length)), (9, 0), (9, 0)]) rfl ?_
      have hi : i < S.1.length := by omega
      have hOx := getD_ok (hG.2.2.1.ok hx0) hi
      have hxp : (S.1.getD i pr0).1.Perm x0 := hG.2.2.1.2 _ (List.mem_map.mpr ⟨S.1[i], List.getElem_mem hi, by simp [List.getD_eq_getElem?_getD, List.getElem?_eq_getElem hi]⟩)
      refine sp_spm hn hR hOx (by omega) (hA.2.2.2.1.trans hN3) (fun M1 f1 w1 => ?_)
      have F1 : Fr VMo M M1 := f1.mono V79.o
      have I1 := hI.fro F1
      have G1 : GS M1 x0 S := ⟨hG.1.fr (f1 _ _ (by unfold V79; omega)) (fun j => f1 _ _ (by unfold V79; omega)) (fun j => f1 _ _ (by unfold V79; omega)), (f1 _ _ (by unfold V79; omega)).trans hG.2.1, hG.2.2⟩
      have T1 : TbM M1 E A := hT.fr (fun j => f1 _ _ (by unfold V79; omega))
      refine wp_iconst dX8_grows_136 (by decide) ?_
      refine wp_istore_n (loc' := [(2, 69), (0, (i : Int)), (0, 1), u3, u4]) dX8_grows_137 rfl (Nat.le_of_ble_eq_true rfl) rfl ?_
      have eb : bfA (cnA E A) x0.length (m + 1) i S = bfA (cnA E A) x0.length m (i + 1) (spA (cnA E A) (S.1.getD i pr0).1 (S.1.getD i pr0).2 (x0.length - 1) 1 S) := if_pos hi
      rw [eb] at k
      by_cases h0 : x0.length = 0
      · refine wp_iload_n dX8_grows_138 rfl rfl ?_
        refine wp_aload_n dX8_grows_139 rfl rfl ?_
        refine wp_get 69 rfl fl_RX8_123 rfl ⟨by omega, by omega⟩ dX8_grows_140 rfl (v := (A.1 3)) (I1.2.1.2.2.2.1) ?_
        refine wp_icmp_ge (tgt := 288) dX8_grows_143 (by decide) (fun _ => ?_) (fun h => absurd h (by omega))
        refine wp_iinc (loc' := [(2, 69), (0, ((i : Int) + 1)), (0, 1), u3, u4]) dX8_grows_288 rfl (by omega) rfl ?_
        refine wp_goto (tgt := 118) dX8_grows_291 (by decide) ?_
        rw [show x0.length - 1 = 0 by omega] at k
        exact ih (i + 1) _ _ _ S M1 Q (by omega) I1 G1 T1 (fun M2 I2 G2 T2 F2 => k M2 I2 G2 T2 (F1.tr F2))
      · refine lp_gsp hn hd hx0 hN5 hN3 hxp (fun a ha => hxm a (hxp.subset ha)) (by omega) (x0.length - 1) 1 _ _ S M1 Q (by omega) (by omega) I1 G1 T1 w1 (by rfl) hi (fun M2 v3 v4 v5 I2 G2 T2 F2 => ?_)
        refine wp_iinc (loc' := [(2, 69), (0, ((i : Int) + 1)), v3, v4, v5]) dX8_grows_288 rfl (by omega) rfl ?_
        refine wp_goto (tgt := 118) dX8_grows_291 (by decide) ?_
        exact ih (i + 1) _ _ _ _ M2 Q (by omega) I2 G2 T2 (fun M3 I3 G3 T3 F3 => k M3 I3 G3 T3 ((F1.tr F2).tr F3))
set_option maxRecDepth 20000 in
set_option maxHeartbeats 4000000 in
theorem sp_grw {l : Launch} {g : Gw} {d n : Nat} {M : Mm} {Q : Option Wd → Mm → Prop} (hn : 90 ≤ n) {A : Ls} {E : Ev} (hI : MJ M A E) (hd : 70 ≤ d) (k : ∀ M', GJ M' A E → TbM M' E A → Fr VMo M M' → Q none M') : Wp l g d 0 0 n m_X8_grows 0 [] [(2, 69), (9, 0), (9, 0), (9, 0), (9, 0)] M Q := by
  obtain ⟨hR, hA, hW, hr, hX⟩ := id hI
  have w2 := hW.1
  have w5 := hW.2.1
  have w3 := hW.2.2.1
  have w32 := hW.2.2.2.1
  obtain ⟨N2, hN2⟩ := Int.eq_ofNat_of_zero_le w2
  have hok := lnA_ok hW
  have hll := lnA_len A
  have hN3 : A.1 3 = ((lnA A).length : Int) := by omega
  refine wp_iconst dX8_grows_0 (by decide) ?_
  refine wp_istore_n (loc' := [(2, 69), (0, 0), (9, 0), (9, 0), (9, 0)]) dX8_grows_1 rfl (Nat.le_of_ble_eq_true rfl) rfl ?_
  refine lp_gt1 hn (by omega) hN2 N2 0 _ M Q (by omega) hI (fun a b h1 h2 h3 => by omega) (fun M1 v1 v2 I1 T1 F1 => ?_)
  refine wp_iconst dX8_grows_61 (by decide) ?_
  refine wp_istore_n (loc' := [(2, 69), (0, 0), v2, (9, 0), (9, 0)]) dX8_grows_62 rfl (Nat.le_of_ble_eq_true rfl) rfl ?_
  refine lp_gl hn hN3 (lnA A).length 0 M1 Q (by omega) I1 T1 (fun j hj => by omega) (fun M2 v3 I2 T2 W2 F2 => ?_)
  have R2 := I2.1
  have W2x : ∀ j, j < (lnA A).length → M2 79 j = at0 (lnA A) j := fun j hj => (W2 j hj).trans (lnA_at (by omega)).symm
  refine wp_aload_n dX8_grows_89 rfl rfl ?_
  refine wp_iconst dX8_grows_90 (by decide) ?_
  refine wp_puti 69 rfl fl_RX8_374 rfl ⟨by omega, by omega⟩ dX8_grows_91 rfl rfl ?_
  refine wp_aload_n dX8_grows_94 rfl rfl ?_
  refine wp_get 69 rfl fl_RX8_32 rfl ⟨by omega, by omega⟩ dX8_grows_95 rfl (v := 76) (sr_69_28 (M := M2) R2) ?_
  refine wp_iconst dX8_grows_98 (by decide) ?_
  refine wp_aload_n dX8_grows_99 rfl rfl ?_
  refine wp_callV0 (d' := d - 1) cv_RX8_377 69 rfl [] [(0, 0), (2, 76)] rfl rfl (Or.inl ⟨_, _, rfl, by decide, rfl, by omega, by omega⟩) (by omega) (Nat.le_of_ble_eq_true rfl) dX8_grows_100 rfl (Nat.le_of_ble_eq_true rfl) (by omega) (loc1 := [(2, 69), (9, 0), (9, 0)]) rfl ?_
  have f3 : Fr VMo M2 (mu M2 69 33 0) := Fr.rf.put (by unfold VMo VMs; omega)
  refine sp_dnm hn (VMo.sr f3 R2) hok.1 hok.2.1 ((show _ from I2.2.1.2.2.2.1 : (mu M2 69 33 0) 69 12 = A.1 3).trans hN3) (fun j hj => W2x j hj) ?_
  refine wp_iast 76 rfl rfl ⟨by omega, by omega⟩ ⟨by omega, by omega⟩ dX8_grows_103 (jn := 0) rfl ?_
  refine wp_aload_n dX8_grows_104 rfl rfl ?_
  refine wp_get 69 rfl fl_RX8_35 rfl ⟨by omega, by omega⟩ dX8_grows_105 rfl (v := 77) (sr_69_29 (M := M2) R2) ?_
  refine wp_iconst dX8_grows_108 (by decide) ?_
  refine wp_iconst dX8_grows_109 (by decide) ?_
  refine wp_iast 77 rfl rfl ⟨by omega, by omega⟩ ⟨by omega, by omega⟩ dX8_grows_110 (jn := 0) rfl ?_
  refine wp_aload_n dX8_grows_111 rfl rfl ?_
  refine wp_iconst dX8_grows_112 (by decide) ?_
  refine wp_puti 69 rfl fl_RX8_371 rfl ⟨by omega, by omega⟩ dX8_grows_113 rfl rfl ?_
  refine wp_iconst dX8_grows_116 (by decide) ?_
  refine wp_istore_n (loc' := [(2, 69), (0, 0), v2, (9, 0), (9, 0)]) dX8_grows_117 rfl (Nat.le_of_ble_eq_true rfl) rfl ?_
  have f4 : Fr VMo M2 (mu (mu (mu (mu M2 69 33 0) 76 0 (encN 10 1 (at0 (lnA A)) (lnA A).length)) 77 0 0) 69 30 1) := (((((Fr.rf : Fr VMo M2 M2).put (by unfold VMo VMs; omega)).put (by unfold VMo VMs; omega)).put (by unfold VMo VMs; omega)).put (by unfold VMo VMs; omega))
  have G4 : GS (mu (mu (mu (mu M2 69 33 0) 76 0 (encN 10 1 (at0 (lnA A)) (lnA A).length)) 77 0 0) 69 30 1) (lnA A) ([(lnA A, 0)], 0) := by
    refine ⟨⟨rfl, fun i hi => ?_⟩, rfl, ⟨by simp, fun y hy => ?_⟩, fun i hi => ?_⟩
    · have h0 : i = 0 := by simpa using hi
      subst h0
      exact ⟨rfl, rfl⟩
    · have h0 : y = lnA A := by simpa using hy
      rw [h0]
    · have h0 : i = 0 := by simpa using hi
      subst h0
      exact ⟨Int.le_refl 0, Int.le_refl 0⟩
  exact lp_gbf hn (by omega) hok.1 hok.2.1 hN3 hok.2.2 121 0 _ _ _ ([(lnA A, 0)], 0) _ Q (by omega) (I2.fro f4) G4 (T2.fr (fun j => rfl)) (fun M5 I5 G5 T5 F5 => k M5 ⟨I5, G5⟩ T5 (F1.tr (F2.tr (f4.tr F5))))
def WtM (M : Mm) (E : Ev) (A : Ls) (n : Nat) : Prop := ∀ q : Nat, (q : Int) < A.1 2 → q < n → M 80 q = lastsA E A (q : Int) ∧ M 81 q = irksA E A (q : Int)
theorem WtM.fr {M M' : Mm} {E : Ev} {A : Ls} {n : Nat} (h : WtM M E A n) (e0 : ∀ j, M' 80 j = M 80 j) (e1 : ∀ j, M' 81 j = M 81 j) : WtM M' E A n := fun q h1 h2 => ⟨(e0 q).trans (h q h1 h2).1, (e1 q).trans (h q h1 h2).2⟩
def VMx (i j : Nat) : Prop := VMs i j ∨ i = 80 ∨ i = 81
theorem VMx.o : ∀ i j, VMx i j → VMo i j := by
  intro i j h
  unfold VMx VMs at h
  unfold VMo VMs
  omega
theorem max1 {L : Int} (h : 1 ≤ L) : (if 1 < L then L else 1) = L := by
  by_cases c : 1 < L
  · rw [if_pos c]
  · rw [if_neg c]
    omega
set_option maxRecDepth 20000 in
set_option maxHeartbeats 4000000 in
theorem lp_wgm  {l : Launch} {g : Gw} {d n : Nat} (hn : 90 ≤ n) (hd : 68 ≤ d) {E : Ev} {A : Ls} {N : Nat} (hN : A.1 2 = (N : Int)) : ∀ (m q : Nat) (M : Mm) (Q : Option Wd → Mm → Prop), q + m = N → MJ M A E → WtM M E A q → (∀ M', MJ M' A E → WtM M' E A N → Fr VMx M M' → Q none M') → Wp l g d 0 0 n m_X8_weighs 2 [] [(2, 69), (0, (q : Int))] M Q := by
  intro m
  induction m with
  | zero =>
    intro q M Q hm hI hw k
    obtain ⟨hR, hA, hW, hr, hX⟩ := id hI
    have w2 := hW.1
    have w5 := hW.2.1
    have w3 := hW.2.2.1
    have w32 := hW.2.2.2.1
    refine wp_iload_n dX8_weighs_2 rfl rfl ?_
    refine wp_aload_n dX8_weighs_3 rfl rfl ?_
    refine wp_get 69 rfl fl_RX8_88 rfl ⟨by omega, by omega⟩ dX8_weighs_4 rfl (v := (A.1 2)) (hA.2.2.1) ?_
    refine wp_icmp_ge (tgt := 38) dX8_weighs_7 (by decide) (fun _ => ?_) (fun h => absurd h (by omega))
    refine wp_vret rfl dX8_weighs_38 ?_
    have e : q = N := by omega
    subst e
    exact k M hI hw Fr.rf
  | succ m ih =>
    intro q M Q hm hI hw k
    obtain ⟨hR, hA, hW, hr, hX⟩ := id hI
    have w2 := hW.1
    have w5 := hW.2.1
    have w3 := hW.2.2.1
    have w32 := hW.2.2.2.1
    refine wp_iload_n dX8_weighs_2 rfl rfl ?_
    refine wp_aload_n dX8_weighs_3 rfl rfl ?_
    refine wp_get 69 rfl fl_RX8_88 rfl ⟨by omega, by omega⟩ dX8_weighs_4 rfl (v := (A.1 2)) (hA.2.2.1) ?_
    refine wp_icmp_ge (tgt := 38) dX8_weighs_7 (by decide) (fun h => absurd h (by omega)) (fun _ => ?_)
    refine wp_aload_n dX8_weighs_10 rfl rfl ?_
    refine wp_get 69 rfl fl_RX8_45 rfl ⟨by omega, by omega⟩ dX8_weighs_11 rfl (v := 80) (sr_69_34 (M := M) hR) ?_
    refine wp_iload_n dX8_weighs_14 rfl rfl ?_
    refine wp_aload_n dX8_weighs_15 rfl rfl ?_
    refine wp_iload_n dX8_weighs_16 rfl rfl ?_
    refine wp_callV0 (d' := d - 1) cv_RX8_135 69 rfl [(0, (q : Int))] [(0, (q : Int)), (2, 80)] rfl rfl (Or.inl ⟨_, _, rfl, by decide, rfl, by omega, by omega⟩) (by omega) (Nat.le_of_ble_eq_true rfl) dX8_weighs_17 rfl (Nat.le_of_ble_eq_true rfl) (by omega) (loc1 := [(2, 69), (0, (q : Int)), (9, 0), (9, 0)]) rfl ?_
    refine sp_lsm hn hI (by omega) (q : Int) (by omega) (fun M1 F1 => ?_)
    have I1 := hI.frs F1
    refine wp_iast 80 rfl rfl ⟨by omega, by omega⟩ ⟨by omega, by omega⟩ dX8_weighs_20 (jn := q) rfl ?_
    refine wp_aload_n dX8_weighs_21 rfl rfl ?_
    refine wp_get 69 rfl fl_RX8_48 rfl ⟨by omega, by omega⟩ dX8_weighs_22 rfl (v := 81) (sr_69_35 (M := M1) I1.1) ?_
    refine wp_iload_n dX8_weighs_25 rfl rfl ?_
    refine wp_aload_n dX8_weighs_26 rfl rfl ?_
    refine wp_iload_n dX8_weighs_27 rfl rfl ?_
    refine wp_callV0 (d' := d - 1) cv_RX8_138 69 rfl [(0, (q : Int))] [(0, (q : Int)), (2, 81)] rfl rfl (Or.inl ⟨_, _, rfl, by decide, rfl, by omega, by omega⟩) (by omega) (Nat.le_of_ble_eq_true rfl) dX8_weighs_28 rfl (Nat.le_of_ble_eq_true rfl) (by omega) (loc1 := [(2, 69), (0, (q : Int)), (9, 0), (9, 0)]) rfl ?_
    have f2 : Fr VMx M1 (mu M1 80 q (lastsA E A (q : Int))) := Fr.rf.put (by unfold VMx; omega)
    have I2 := I1.fro (f2.mono VMx.o)
    refine sp_irm hn I2 (by omega) (q : Int) (by omega) (fun M3 F3 => ?_)
    have I3 := I2.frs F3
    refine wp_iast 81 rfl rfl ⟨by omega, by omega⟩ ⟨by omega, by omega⟩ dX8_weighs_31 (jn := q) rfl ?_
    refine wp_iinc (loc' := [(2, 69), (0, ((q : Int) + 1))]) dX8_weighs_32 rfl (by omega) rfl ?_
    refine wp_goto (tgt := 2) dX8_weighs_35 (by decide) ?_
    have f4 : Fr VMx M3 (mu M3 81 q (irksA E A (q : Int))) := Fr.rf.put (by unfold VMx; omega)
    have FF : Fr VMx M (mu M3 81 q (irksA E A (q : Int))) := ((F1.mono (fun i j h => Or.inl h)).tr f2).tr ((F3.mono (fun i j h => Or.inl h)).tr f4)
    refine ih (q + 1) _ Q (by omega) (I3.fro (f4.mono VMx.o)) (fun j h1 h2 => ?_) (fun M5 I5 W5 F5 => k M5 I5 W5 (FF.tr F5))
    by_cases c : j = q
    · subst c
      exact ⟨(mu_ne _ _ _ (by omega) _).trans ((F3 80 j (by unfold VMs; omega)).trans (mu_self _ _ _ _)), mu_self _ _ _ _⟩
    · have h0 := hw j h1 (by omega)
      exact ⟨(mu_ne _ _ _ (by omega) _).trans ((F3 80 j (by unfold VMs; omega)).trans ((mu_nj _ _ _ c).trans ((F1 80 j (by unfold VMs; omega)).trans h0.1))), (mu_nj _ _ _ c).trans ((F3 81 j (by unfold VMs; omega)).trans ((mu_ne _ _ _ (by omega) _).trans ((F1 81 j (by unfold VMs; omega)).trans h0.2)))⟩
set_option maxRecDepth 20000 in
set_option maxHeartbeats 4000000 in
theorem sp_wgm {l : Launch} {g : Gw} {d n : Nat} {M : Mm} {Q : Option Wd → Mm → Prop} (hn : 90 ≤ n) {A : Ls} {E : Ev} (hI : MJ M A E) (hd : 70 ≤ d) {N2 : Nat} (hN2 : A.1 2 = (N2 : Int)) (k : ∀ M', MJ M' A E → WtM M' E A N2 → Fr VMx M M' → Q none M') : Wp l g d 0 0 n m_X8_weighs 0 [] [(2, 69), (9, 0)] M Q := by
  obtain ⟨hR, hA, hW, hr, hX⟩ := id hI
  have w2 := hW.1
  have w5 := hW.2.1
  have w3 := hW.2.2.1
  have w32 := hW.2.2.2.1
  refine wp_iconst dX8_weighs_0 (by decide) ?_
  refine wp_istore_n (loc' := [(2, 69), (0, 0)]) dX8_weighs_1 rfl (Nat.le_of_ble_eq_true rfl) rfl ?_
  exact lp_wgm hn (by omega) hN2 N2 0 M Q (by omega) hI (fun j h1 h2 => by omega) k
theorem wt_at {M : Mm} {E : Ev} {A : Ls} {n : Nat} (h : WtM M E A n) {a : Int} (ha : 0 ≤ a ∧ a < A.1 2) (hn : A.1 2 = (n : Int)) : M 80 a.toNat = lastsA E A a ∧ M 81 a.toNat = irksA E A a := by
  obtain ⟨q, rfl⟩ := Int.eq_ofNat_of_zero_le ha.1
  exact h q ha.2 (by omega)
set_option maxRecDepth 20000 in
set_option maxHeartbeats 4000000 in
theorem lp_wtm  {l : Launch} {g : Gw} {d n : Nat} {M : Mm} {Q : Option Wd → Mm → Prop} (hn : 90 ≤ n) {E : Ev} {A : Ls} (hI : MJ M A E) {N N2 : Nat} {D : Int} {x : Od} (hN3 : A.1 3 = (N : Int)) (hN2 : A.1 2 = (N2 : Int)) (hWt : WtM M E A N2) (hxl : x.length = N) (hxm : ∀ a ∈ x, 0 ≤ a ∧ a < A.1 2) (hw : ∀ j, j < N → M 79 j = at0 x j) (k : Q (some (0, (wtF E A x N).2)) M) : ∀ (m q : Nat) (u5 u6 : Wd), q + m = N → Wp l g d 0 0 n m_X8_waitOf 12 [] [(2, 69), (0, D), (0, (wtF E A x q).2), (0, (wtF E A x q).1), (0, (q : Int)), u5, u6] M Q := by
  obtain ⟨hR, hA, hW, hr, hX⟩ := id hI
  have w2 := hW.1
  have w5 := hW.2.1
  have w3 := hW.2.2.1
  have w32 := hW.2.2.2.1
  intro m
  induction m with
  | zero =>
    intro q u5 u6 hq
    refine wp_iload dX8_waitOf_12 rfl ?_
    refine wp_aload_n dX8_waitOf_14 rfl rfl ?_
    refine wp_get 69 rfl fl_RX8_123 rfl ⟨by omega, by omega⟩ dX8_waitOf_15 rfl (v := (N : Int)) ((hA.2.2.2.1.trans hN3)) ?_
    refine wp_icmp_ge (tgt := 99) dX8_waitOf_18 (by decide) (fun _ => ?_) (fun h => absurd h (by omega))
    refine wp_iload_n dX8_waitOf_99 rfl rfl ?_
    refine wp_iret rfl dX8_waitOf_100 ?_
    have e : q = N := by omega
    subst e
    exact k
  | succ m ih =>
    intro q u5 u6 hq
    have vq := hxm _ (at_mem (p := q) (x := x) (by omega))
    refine wp_iload dX8_waitOf_12 rfl ?_
    refine wp_aload_n dX8_waitOf_14 rfl rfl ?_
    refine wp_get 69 rfl fl_RX8_123 rfl ⟨by omega, by omega⟩ dX8_waitOf_15 rfl (v := (N : Int)) ((hA.2.2.2.1.trans hN3)) ?_
    refine wp_icmp_ge (tgt := 99) dX8_waitOf_18 (by decide) (fun h => absurd h (by omega)) (fun _ => ?_)
    refine wp_aload_n dX8_waitOf_21 rfl rfl ?_
    refine wp_get 69 rfl fl_RX8_42 rfl ⟨by omega, by omega⟩ dX8_waitOf_22 rfl (v := 79) (sr_69_32 (M := M) hR) ?_
    refine wp_iload dX8_waitOf_25 rfl ?_
    refine wp_iald 79 rfl rfl ⟨by omega, by omega⟩ ⟨by omega, by omega⟩ dX8_waitOf_27 (v := (at0 x q)) (hw q (by omega)) ?_
    refine wp_istore (loc' := [(2, 69), (0, D), (0, (wtF E A x q).2), (0, (wtF E A x q).1), (0, (q : Int)), (0, (at0 x q)), u6]) dX8_waitOf_28 (Nat.le_of_ble_eq_true rfl) rfl ?_
    refine wp_iload_n dX8_waitOf_30 rfl rfl ?_
    refine wp_iload_n dX8_waitOf_31 rfl rfl ?_
    refine wp_aload_n dX8_waitOf_32 rfl rfl ?_
    refine wp_get 69 rfl fl_RX8_48 rfl ⟨by omega, by omega⟩ dX8_waitOf_33 rfl (v := 81) (sr_69_35 (M := M) hR) ?_
    refine wp_iload dX8_waitOf_36 rfl ?_
    refine wp_iald 81 rfl rfl ⟨by omega, by omega⟩ ⟨by omega, by omega⟩ dX8_waitOf_38 (v := (irksA E A (at0 x q))) (by rw [show ((at0 x q)).toNat = (at0 x q).toNat by omega]; exact (wt_at hWt vq (by omega)).2) ?_
    refine wp_imulw dX8_waitOf_39 ?_
    refine wp_iaddw dX8_waitOf_40 ?_
    refine wp_istore_n (loc' := [(2, 69), (0, D), (0, (wrap ((wtF E A x q).2 + (wrap ((wtF E A x q).1 * (irksA E A (at0 x q))))))), (0, (wtF E A x q).1), (0, (q : Int)), (0, (at0 x q)), u6]) dX8_waitOf_41 rfl (Nat.le_of_ble_eq_true rfl) rfl ?_
    refine wp_iload dX8_waitOf_42 rfl ?_
    refine wp_if_ne (tgt := 69) dX8_waitOf_44 (by decide) (fun h44 => ?_) (fun h44 => ?_)
    · refine wp_aload_n dX8_waitOf_69 rfl rfl ?_
      refine wp_get 69 rfl fl_RX8_45 rfl ⟨by omega, by omega⟩ dX8_waitOf_70 rfl (v := 80) (sr_69_34 (M := M) hR) ?_
      refine wp_iload dX8_waitOf_73 rfl ?_
      refine wp_iald 80 rfl rfl ⟨by omega, by omega⟩ ⟨by omega, by omega⟩ dX8_waitOf_75 (v := (lastsA E A (at0 x q))) (by rw [show ((at0 x q)).toNat = (at0 x q).toNat by omega]; exact (wt_at hWt vq (by omega)).1) ?_
      refine wp_istore (loc' := [(2, 69), (0, D), (0, (wrap ((wtF E A x q).2 + (wrap ((wtF E A x q).1 * (irksA E A (at0 x q))))))), (0, (wtF E A x q).1), (0, (q : Int)), (0, (at0 x q)), (0, (lastsA E A (at0 x q)))]) dX8_waitOf_76 (Nat.le_of_ble_eq_true rfl) rfl ?_
      refine wp_iload_n dX8_waitOf_78 rfl rfl ?_
      refine wp_iload dX8_waitOf_79 rfl ?_
      refine wp_iconst dX8_waitOf_81 (by decide) ?_
      refine wp_icmp_ge (tgt := 89) dX8_waitOf_82 (by decide) (fun h82 => ?_) (fun h82 => ?_)
      · refine wp_iload dX8_waitOf_89 rfl ?_
        refine wp_iaddw dX8_waitOf_91 ?_
        refine wp_istore_n (loc' := [(2, 69), (0, D), (0, (wrap ((wtF E A x q).2 + (wrap ((wtF E A x q).1 * (irksA E A (at0 x q))))))), (0, (wrap ((wtF E A x q).1 + (lastsA E A (at0 x q))))), (0, (q : Int)), (0, (at0 x q)), (0, (lastsA E A (at0 x q)))]) dX8_waitOf_92 rfl (Nat.le_of_ble_eq_true rfl) rfl ?_
        refine wp_iinc (loc' := [(2, 69), (0, D), (0, (wrap ((wtF E A x q).2 + (wrap ((wtF E A x q).1 * (irksA E A (at0 x q))))))), (0, (wrap ((wtF E A x q).1 + (lastsA E A (at0 x q))))), (0, ((q : Int) + 1)), (0, (at0 x q)), (0, (lastsA E A (at0 x q)))]) dX8_waitOf_93 rfl (by omega) rfl ?_
        refine wp_goto (tgt := 12) dX8_waitOf_96 (by decide) ?_
        have e : wtF E A x (q + 1) = (wrap ((wtF E A x q).1 + (lastsA E A (at0 x q))), wrap ((wtF E A x q).2 + wrap ((wtF E A x q).1 * irksA E A (at0 x q)))) := by
          show (wrap ((wtF E A x q).1 + (if q = 0 then (if 1 < (wrap (lastsA E A (at0 x q) - A.2 4 (at0 x q).toNat)) then (wrap (lastsA E A (at0 x q) - A.2 4 (at0 x q).toNat)) else 1) else lastsA E A (at0 x q))), _) = _
          rw [if_neg (show ¬ q = 0 by omega)]
        rw [show (wrap ((wtF E A x q).2 + (wrap ((wtF E A x q).1 * (irksA E A (at0 x q)))))) = (wtF E A x (q + 1)).2 by rw [e]]
        rw [show (wrap ((wtF E A x q).1 + (lastsA E A (at0 x q)))) = (wtF E A x (q + 1)).1 by rw [e]]
        exact ih (q + 1) _ _ (by omega)
      · refine wp_iconst dX8_waitOf_85 (by decide) ?_
        refine wp_goto (tgt := 91) dX8_waitOf_86 (by decide) ?_
        refine wp_iaddw dX8_waitOf_91 ?_
        refine wp_istore_n (loc' := [(2, 69), (0, D), (0, (wrap ((wtF E A x q).2 + (wrap ((wtF E A x q).1 * (irksA E A (at0 x q))))))), (0, (wrap ((wtF E A x q).1 + 1))), (0, (q : Int)), (0, (at0 x q)), (0, (lastsA E A (at0 x q)))]) dX8_waitOf_92 rfl (Nat.le_of_ble_eq_true rfl) rfl ?_
        refine wp_iinc (loc' := [(2, 69), (0, D), (0, (wrap ((wtF E A x q).2 + (wrap ((wtF E A x q).1 * (irksA E A (at0 x q))))))), (0, (wrap ((wtF E A x q).1 + 1))), (0, ((q : Int) + 1)), (0, (at0 x q)), (0, (lastsA E A (at0 x q)))]) dX8_waitOf_93 rfl (by omega) rfl ?_
        refine wp_goto (tgt := 12) dX8_waitOf_96 (by decide) ?_
        exfalso
        have := wthn_r (lo := 1) (hi := 40) (v := lastsK (A.2 0 (at0 x q).toNat) (wthn 0 40 (E (A.1 1).toNat 1 (nmA A false (at0 x q) (-1)))) (A.2 1 (at0 x q).toNat)) (by decide)
        have h9 : 1 ≤ lastsA E A (at0 x q) := this.1
        omega
    · refine wp_aload_n dX8_waitOf_47 rfl rfl ?_
      refine wp_get 69 rfl fl_RX8_45 rfl ⟨by omega, by omega⟩ dX8_waitOf_48 rfl (v := 80) (sr_69_34 (M := M) hR) ?_
      refine wp_iload dX8_waitOf_51 rfl ?_
      refine wp_iald 80 rfl rfl ⟨by omega, by omega⟩ ⟨by omega, by omega⟩ dX8_waitOf_53 (v := (lastsA E A (at0 x q))) (by rw [show ((at0 x q)).toNat = (at0 x q).toNat by omega]; exact (wt_at hWt vq (by omega)).1) ?_
      refine wp_aload_n dX8_waitOf_54 rfl rfl ?_
      refine wp_get 69 rfl fl_RX8_26 rfl ⟨by omega, by omega⟩ dX8_waitOf_55 rfl (v := 74) (sr_69_9 (M := M) hR) ?_
      refine wp_iconst dX8_waitOf_58 (by decide) ?_
      refine wp_iload dX8_waitOf_59 rfl ?_
      refine wp_imul dX8_waitOf_61 (by omega) ?_
      refine wp_iconst dX8_waitOf_62 (by decide) ?_
      refine wp_iadd dX8_waitOf_63 (by omega) ?_
      refine wp_iald 74 rfl rfl ⟨by omega, by omega⟩ ⟨by omega, by omega⟩ dX8_waitOf_64 (v := (A.2 4 (at0 x q).toNat)) (by rw [show (((4 * (at0 x q)) + 3)).toNat = (4 * (at0 x q).toNat + 3) by omega]; exact hA.2.2.2.2.2.1 3 (at0 x q).toNat (by omega) (by omega)) ?_
      refine wp_isubw dX8_waitOf_65 ?_
      refine wp_goto (tgt := 76) dX8_waitOf_66 (by decide) ?_
      refine wp_istore (loc' := [(2, 69), (0, D), (0, (wrap ((wtF E A x q).2 + (wrap ((wtF E A x q).1 * (irksA E A (at0 x q))))))), (0, (wtF E A x q).1), (0, (q : Int)), (0, (at0 x q)), (0, (wrap ((lastsA E A (at0 x q)) - (A.2 4 (at0 x q).toNat))))]) dX8_waitOf_76 (Nat.le_of_ble_eq_true rfl) rfl ?_
      refine wp_iload_n dX8_waitOf_78 rfl rfl ?_
      refine wp_iload dX8_waitOf_79 rfl ?_
      refine wp_iconst dX8_waitOf_81 (by decide) ?_
      refine wp_icmp_ge (tgt := 89) dX8_waitOf_82 (by decide) (fun h82 => ?_) (fun h82 => ?_)
      · refine wp_iload dX8_waitOf_89 rfl ?_
        refine wp_iaddw dX8_waitOf_91 ?_
        refine wp_istore_n (loc' := [(2, 69), (0, D), (0, (wrap ((wtF E A x q).2 + (wrap ((wtF E A x q).1 * (irksA E A (at0 x q))))))), (0, (wrap ((wtF E A x q).1 + (wrap ((lastsA E A (at0 x q)) - (A.2 4 (at0 x q).toNat)))))), (0, (q : Int)), (0, (at0 x q)), (0, (wrap ((lastsA E A (at0 x q)) - (A.2 4 (at0 x q).toNat))))]) dX8_waitOf_92 rfl (Nat.le_of_ble_eq_true rfl) rfl ?_
        refine wp_iinc (loc' := [(2, 69), (0, D), (0, (wrap ((wtF E A x q).2 + (wrap ((wtF E A x q).1 * (irksA E A (at0 x q))))))), (0, (wrap ((wtF E A x q).1 + (wrap ((lastsA E A (at0 x q)) - (A.2 4 (at0 x q).toNat)))))), (0, ((q : Int) + 1)), (0, (at0 x q)), (0, (wrap ((lastsA E A (at0 x q)) - (A.2 4 (at0 x q).toNat))))]) dX8_waitOf_93 rfl (by omega) rfl ?_
        refine wp_goto (tgt := 12) dX8_waitOf_96 (by decide) ?_
        have e : wtF E A x (q + 1) = (wrap ((wtF E A x q).1 + (wrap (lastsA E A (at0 x q) - A.2 4 (at0 x q).toNat))), wrap ((wtF E A x q).2 + wrap ((wtF E A x q).1 * irksA E A (at0 x q)))) := by
          show (wrap ((wtF E A x q).1 + (if q = 0 then (if 1 < (wrap (lastsA E A (at0 x q) - A.2 4 (at0 x q).toNat)) then (wrap (lastsA E A (at0 x q) - A.2 4 (at0 x q).toNat)) else 1) else lastsA E A (at0 x q))), _) = _
          rw [if_pos (show q = 0 by omega)]
          rw [max1 (show 1 ≤ (wrap (lastsA E A (at0 x q) - A.2 4 (at0 x q).toNat)) by omega)]
        rw [show (wrap ((wtF E A x q).2 + (wrap ((wtF E A x q).1 * (irksA E A (at0 x q)))))) = (wtF E A x (q + 1)).2 by rw [e]]
        rw [show (wrap ((wtF E A x q).1 + (wrap ((lastsA E A (at0 x q)) - (A.2 4 (at0 x q).toNat))))) = (wtF E A x (q + 1)).1 by rw [e]]
        exact ih (q + 1) _ _ (by omega)
      · refine wp_iconst dX8_waitOf_85 (by decide) ?_
        refine wp_goto (tgt := 91) dX8_waitOf_86 (by decide) ?_
        refine wp_iaddw dX8_waitOf_91 ?_
        refine wp_istore_n (loc' := [(2, 69), (0, D), (0, (wrap ((wtF E A x q).2 + (wrap ((wtF E A x q).1 * (irksA E A (at0 x q))))))), (0, (wrap ((wtF E A x q).1 + 1))), (0, (q : Int)), (0, (at0 x q)), (0, (wrap ((lastsA E A (at0 x q)) - (A.2 4 (at0 x q).toNat))))]) dX8_waitOf_92 rfl (Nat.le_of_ble_eq_true rfl) rfl ?_
        refine wp_iinc (loc' := [(2, 69), (0, D), (0, (wrap ((wtF E A x q).2 + (wrap ((wtF E A x q).1 * (irksA E A (at0 x q))))))), (0, (wrap ((wtF E A x q).1 + 1))), (0, ((q : Int) + 1)), (0, (at0 x q)), (0, (wrap ((lastsA E A (at0 x q)) - (A.2 4 (at0 x q).toNat))))]) dX8_waitOf_93 rfl (by omega) rfl ?_
        refine wp_goto (tgt := 12) dX8_waitOf_96 (by decide) ?_
        have e : wtF E A x (q + 1) = (wrap ((wtF E A x q).1 + 1), wrap ((wtF E A x q).2 + wrap ((wtF E A x q).1 * irksA E A (at0 x q)))) := by
          show (wrap ((wtF E A x q).1 + (if q = 0 then (if 1 < (wrap (lastsA E A (at0 x q) - A.2 4 (at0 x q).toNat)) then (wrap (lastsA E A (at0 x q) - A.2 4 (at0 x q).toNat)) else 1) else lastsA E A (at0 x q))), _) = _
          rw [if_pos (show q = 0 by omega)]
          rw [if_neg (by omega)]
        rw [show (wrap ((wtF E A x q).2 + (wrap ((wtF E A x q).1 * (irksA E A (at0 x q)))))) = (wtF E A x (q + 1)).2 by rw [e]]
        rw [show (wrap ((wtF E A x q).1 + 1)) = (wtF E A x (q + 1)).1 by rw [e]]
        exact ih (q + 1) _ _ (by omega)
set_option maxRecDepth 20000 in
set_option maxHeartbeats 4000000 in
theorem sp_wtm {l : Launch} {g : Gw} {d n : Nat} {M : Mm} {Q : Option Wd → Mm → Prop} (hn : 90 ≤ n) {A : Ls} {E : Ev} (hI : MJ M A E) (hd : 70 ≤ d) {N N2 : Nat} {x : Od} (hN3 : A.1 3 = (N : Int)) (hN2 : A.1 2 = (N2 : Int)) (hWt : WtM M E A N2) (hO : okO N x) (hxm : ∀ a ∈ x, 0 ≤ a ∧ a < A.1 2) (k : ∀ M', MJ M' A E → Fr V79 M M' → Q (some (0, (wtF E A x N).2)) M') : Wp l g d 0 0 n m_X8_waitOf 0 [] [(2, 69), (0, encN 10 1 (at0 x) N), (9, 0), (9, 0), (9, 0), (9, 0), (9, 0)] M Q := by
  obtain ⟨hR, hA, hW, hr, hX⟩ := id hI
  have w2 := hW.1
  have w5 := hW.2.1
  have w3 := hW.2.2.1
  have w32 := hW.2.2.2.1
  refine wp_aload_n dX8_waitOf_0 rfl rfl ?_
  refine wp_iload_n dX8_waitOf_1 rfl rfl ?_
  refine wp_callV0 (d' := d - 1) cv_RX8_380 69 rfl [(0, (encN 10 1 (at0 x) N))] [] rfl rfl (Or.inl ⟨_, _, rfl, by decide, rfl, by omega, by omega⟩) (by omega) (Nat.le_of_ble_eq_true rfl) dX8_waitOf_2 rfl (Nat.le_of_ble_eq_true rfl) (by omega) (loc1 := [(2, 69), (0, (encN 10 1 (at0 x) N)), (9, 0), (9, 0)]) rfl ?_
  refine sp_spm hn hR hO (by omega) (hA.2.2.2.1.trans hN3) (fun M1 f1 w1 => ?_)
  have I1 := hI.fro (f1.mono V79.o)
  have Wt1 : WtM M1 E A N2 := hWt.fr (fun j => f1 80 j (by unfold V79; omega)) (fun j => f1 81 j (by unfold V79; omega))
  refine wp_iconst dX8_waitOf_5 (by decide) ?_
  refine wp_istore_n (loc' := [(2, 69), (0, (encN 10 1 (at0 x) N)), (0, 0), (9, 0), (9, 0), (9, 0), (9, 0)]) dX8_waitOf_6 rfl (Nat.le_of_ble_eq_true rfl) rfl ?_
  refine wp_iconst dX8_waitOf_7 (by decide) ?_
  refine wp_istore_n (loc' := [(2, 69), (0, (encN 10 1 (at0 x) N)), (0, 0), (0, 0), (9, 0), (9, 0), (9, 0)]) dX8_waitOf_8 rfl (Nat.le_of_ble_eq_true rfl) rfl ?_
  refine wp_iconst dX8_waitOf_9 (by decide) ?_
  refine wp_istore (loc' := [(2, 69), (0, (encN 10 1 (at0 x) N)), (0, 0), (0, 0), (0, 0), (9, 0), (9, 0)]) dX8_waitOf_10 (Nat.le_of_ble_eq_true rfl) rfl ?_
  exact lp_wtm hn I1 hN3 hN2 Wt1 hO.1 hxm w1 (k M1 I1 f1) N 0 _ _ (by omega)
