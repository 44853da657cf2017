/-! ===== the law: calls of sheets, tape, texts, images ===== -/
def VIm (i j : Nat) : Prop := (i = 1 ∧ j = 3) ∨ (i = 9 ∧ j < 4) ∨ (9 < i ∧ i ≤ 15) ∨ VMk i j
def VTp (i j : Nat) : Prop := (i = 23 ∧ j = 1) ∨ i = 24 ∨ i = 72 ∨ (i = 69 ∧ j = 6)
theorem IMG.fr {M M2 : Mm} {A K : Ls} {V : Nat → Nat → Prop} (h : IMG M A K) (f : Fr V M M2) (hv : ∀ i j, V i j → ¬ VIm i j) (h25 : M 25 1 ≤ M2 25 1) : IMG M2 A K := by
  have e13 : M2 1 3 = M 1 3 := f 1 3 (fun v => hv _ _ v (by unfold VIm; omega))
  have e46 : M2 69 46 = M 69 46 := f 69 46 (fun v => hv _ _ v (by unfold VIm VMk; omega))
  rcases h with ⟨b1, b2⟩ | ⟨b1, b2, b3, b4, b5, b6⟩
  · exact Or.inl ⟨e13.trans b1, e46.trans b2⟩
  · refine Or.inr ⟨e13.trans b1, b2.frV f (fun i j v w => hv i j v (by unfold VIm; omega)), b3.fr f (fun i j v w => hv i j v (by unfold VIm; exact Or.inr (Or.inr (Or.inr w)))), b4, ⟨b5.1, by omega⟩, b6⟩
theorem TPE.fr {M M2 : Mm} {V : Nat → Nat → Prop} (h : TPE M) (f : Fr V M M2) (hv : ∀ i j, V i j → ¬ VTp i j) : TPE M2 := by
  have e1 : M2 23 1 = M 23 1 := f 23 1 (fun v => hv _ _ v (by unfold VTp; omega))
  have e2 : M2 69 6 = M 69 6 := f 69 6 (fun v => hv _ _ v (by unfold VTp; omega))
  refine ⟨by rw [e1, e2]; exact h.1, by rw [e1]; exact h.2.1, by rw [e1]; exact h.2.2.1, fun i hi => ?_⟩
  rw [f 24 i (fun v => hv _ _ v (by unfold VTp; omega)), f 72 i (fun v => hv _ _ v (by unfold VTp; omega))]
  exact h.2.2.2 i (by rw [← e1]; exact hi)
def VLs (i j : Nat) : Prop := VLm i j ∨ VS i j ∨ VMh i j
theorem VLs.im : ∀ i j, VLs i j → ¬ VIm i j := by
  intro i j h
  unfold VLs VLm VS VMh VX VMq2 at h
  unfold VIm VMk
  omega
theorem VLs.tp : ∀ i j, VLs i j → ¬ VTp i j := by
  intro i j h
  unfold VLs VLm VS VMh VX VMq2 at h
  unfold VTp
  omega
theorem VLs.n : ∀ i j, VLs i j → VN i j := by
  intro i j h
  rcases h with h | h | h
  · exact VLm.n i j h
  · unfold VS at h
    left; omega
  · unfold VMh at h
    left; omega
theorem IV.sheet {M M2 : Mm} {A K : Ls} {B B2 : Mm} {sq : Int} (h : IV M A K B sq) (f : Fr VLs M M2) (hC : CJ M2 A) (hJ : MJ M2 A (evC M)) (hB : Rs M2 B2 ∧ Rms M2 B2 ∧ Ws B2) (hq : SQ0 M2 ∧ M2 52 5 ≤ sq + 20) : IV M2 A K B2 (sq + 20) := by
  obtain ⟨_, _, a3, a4, a5, a6, _, _, _⟩ := h
  have ev : evC M2 = evC M := evC_frN (f.mono VLs.n)
  have e251 : M2 25 1 = M 25 1 := f 25 1 (by unfold VLs VLm VX VS VMh; omega)
  have e693 : M2 69 3 = M 69 3 := f 69 3 (by unfold VLs VLm VX VS VMh VMq2; omega)
  exact ⟨hC, by rw [ev]; exact hJ, a3, a4.fr f VLs.im (by omega), by rw [e251, e693]; exact a5, a6.fr f VLs.tp, hB, hq⟩
theorem ls_VS : ∀ i j, VS i j → VLs i j ∧ VCl i j ∧ (VN i j ∧ ¬ ((i = 2 ∧ j < 4) ∨ (2 < i ∧ i ≤ 8))) ∧ Vq i j := by
  intro i j h
  unfold VS at h
  unfold VLs VLm VX VS VCl VN VX Vq
  omega
theorem ls_VF : ∀ i j, VF i j → VLs i j ∧ VCl i j ∧ (VN i j ∧ ¬ ((i = 2 ∧ j < 4) ∨ (2 < i ∧ i ≤ 8))) ∧ Vq i j := by
  intro i j h
  unfold VF VW VX VS at h
  unfold VLs VLm VX VS VCl VN VX Vq
  omega
theorem ls_VMh : ∀ i j, VMh i j → VLs i j ∧ 69 ≤ i ∧ ¬ VS i j ∧ Vq i j := by
  intro i j h
  unfold VMh at h
  unfold VLs VLm VMh VMq2 VS Vq
  omega
theorem ls_VMf : ∀ i j, VMf i j → VLs i j ∧ 69 ≤ i ∧ ¬ VS i j ∧ Vq i j := by
  intro i j h
  unfold VMf VMt VMl VMs VMw VMh at h
  unfold VLs VLm VMh VMq2 VS Vq
  omega
set_option maxRecDepth 20000 in
set_option maxHeartbeats 4000000 in
theorem op_sheet {l : Launch} {g : Gw} {d : Nat} (hd : 100 ≤ d) (hL3 : g.2.2.2.2.1 100 ≤ 3072) {i : Nat} (hi : i + 6 ≤ g.2.2.2.2.1 100) {M : Mm} {A K : Ls} {B : Mm} {sq : Int} (hV : IV M A K B sq) (hsq : sq ≤ 100000) {Q : Option Wd → Mm → Prop} (hk : ∀ M2 A2 K2 B2, IV M2 A2 K2 B2 (sq + 20) → Wp l g d 0 0 90 m_L_law 968 [] [(2, 1015), (2, 1), (2, 69), (0, (i : Int))] M2 Q) : Wp l g d 0 0 90 m_L_law 733 [] [(2, 1015), (2, 1), (2, 69), (0, (i : Int))] M Q := by
  obtain ⟨x1, hx1⟩ : ∃ x, x = (scI g ((i : Int) + 1).toNat).toInt := ⟨_, rfl⟩
  obtain ⟨x2, hx2⟩ : ∃ x, x = (scI g ((i : Int) + 2).toNat).toInt := ⟨_, rfl⟩
  obtain ⟨x3, hx3⟩ : ∃ x, x = (scI g ((i : Int) + 3).toNat).toInt := ⟨_, rfl⟩
  obtain ⟨x4, hx4⟩ : ∃ x, x = (scI g ((i : Int) + 4).toNat).toInt := ⟨_, rfl⟩
  obtain ⟨x5, hx5⟩ : ∃ x, x = (scI g ((i : Int) + 5).toNat).toInt := ⟨_, rfl⟩
  have hr1 := sc_r g ((i : Int) + 1).toNat
  have hr2 := sc_r g ((i : Int) + 2).toNat
  have hr3 := sc_r g ((i : Int) + 3).toNat
  have hr4 := sc_r g ((i : Int) + 4).toNat
  have hr5 := sc_r g ((i : Int) + 5).toNat
  rw [← hx1] at hr1
  rw [← hx2] at hr2
  rw [← hx3] at hr3
  rw [← hx4] at hr4
  rw [← hx5] at hr5
  obtain ⟨hC, hJ, h0, hIm, h25, hTp, ⟨hBs, hBm, hBw⟩, hSq⟩ := id hV
  obtain ⟨hR, hX, hA, hW, hr⟩ := id hC
  refine wp_aload_n dL_law_733 rfl rfl ?_
  refine wp_aload_n dL_law_734 rfl rfl ?_
  refine wp_iload_n dL_law_735 rfl rfl ?_
  refine wp_iconst dL_law_736 (by decide) ?_
  refine wp_iadd dL_law_737 (by omega) ?_
  refine wp_sld ⟨by omega, by omega⟩ dL_law_738 ?_
  rw [← hx1]
  refine wp_aload_n dL_law_739 rfl rfl ?_
  refine wp_iload_n dL_law_740 rfl rfl ?_
  refine wp_iconst dL_law_741 (by decide) ?_
  refine wp_iadd dL_law_742 (by omega) ?_
  refine wp_sld ⟨by omega, by omega⟩ dL_law_743 ?_
  rw [← hx2]
  refine wp_aload_n dL_law_744 rfl rfl ?_
  refine wp_iload_n dL_law_745 rfl rfl ?_
  refine wp_iconst dL_law_746 (by decide) ?_
  refine wp_iadd dL_law_747 (by omega) ?_
  refine wp_sld ⟨by omega, by omega⟩ dL_law_748 ?_
  rw [← hx3]
  refine wp_callV0 (d' := d - 1) cv_RL_106 1 rfl [(0, x1), (0, x2), (0, x3)] [] rfl rfl (Or.inl ⟨_, _, rfl, by decide, rfl, by omega, by omega⟩) (by omega) (Nat.le_of_ble_eq_true rfl) dL_law_749 rfl (Nat.le_of_ble_eq_true rfl) (by omega) (loc1 := [(2, 1), (0, x1), (0, x2), (0, x3), (9, 0)]) rfl ?_
  refine cs_sheet (by decide) (by omega) hR hBs hBw x1 x2 x3 (fun c1 => ?_) (fun c1 => ?_) (fun c1 M1 Bs1 F1 R1 => ?_) (fun c1 M1 Bs1 F1 R1 => ?_)
  · refine wp_aload_n dL_law_752 rfl rfl ?_
    refine wp_aload_n dL_law_753 rfl rfl ?_
    refine wp_iload_n dL_law_754 rfl rfl ?_
    refine wp_iconst dL_law_755 (by decide) ?_
    refine wp_iadd dL_law_756 (by omega) ?_
    refine wp_sld ⟨by omega, by omega⟩ dL_law_757 ?_
    rw [← hx1]
    refine wp_aload_n dL_law_758 rfl rfl ?_
    refine wp_iload_n dL_law_759 rfl rfl ?_
    refine wp_iconst dL_law_760 (by decide) ?_
    refine wp_iadd dL_law_761 (by omega) ?_
    refine wp_sld ⟨by omega, by omega⟩ dL_law_762 ?_
    rw [← hx2]
    refine wp_aload_n dL_law_763 rfl rfl ?_
    refine wp_iload_n dL_law_764 rfl rfl ?_
    refine wp_iconst dL_law_765 (by decide) ?_
    refine wp_iadd dL_law_766 (by omega) ?_
    refine wp_sld ⟨by omega, by omega⟩ dL_law_767 ?_
    rw [← hx3]
    refine wp_callV0 (d' := d - 1) cv_RL_109 69 rfl [(0, x1), (0, x2), (0, x3)] [(0, (-2))] rfl rfl (Or.inl ⟨_, _, rfl, by decide, rfl, by omega, by omega⟩) (by omega) (Nat.le_of_ble_eq_true rfl) dL_law_768 rfl (Nat.le_of_ble_eq_true rfl) (by omega) (loc1 := [(2, 69), (0, x1), (0, x2), (0, x3), (9, 0)]) rfl ?_
    refine cm_sheet (by decide) (by omega) hR hBm hBw (x := x1) (y := x2) (z := x3) (fun _ => ?_) (fun h => False.elim (by omega)) (fun h => False.elim (by omega)) (fun h => False.elim (by omega))
    refine wp_icmp_eq (tgt := 968) dL_law_771 (by decide) (fun _ => ?_) (fun h => absurd h (by decide))
    exact hk M A K B (hV.le (by omega))
  · refine wp_aload_n dL_law_752 rfl rfl ?_
    refine wp_aload_n dL_law_753 rfl rfl ?_
    refine wp_iload_n dL_law_754 rfl rfl ?_
    refine wp_iconst dL_law_755 (by decide) ?_
    refine wp_iadd dL_law_756 (by omega) ?_
    refine wp_sld ⟨by omega, by omega⟩ dL_law_757 ?_
    rw [← hx1]
    refine wp_aload_n dL_law_758 rfl rfl ?_
    refine wp_iload_n dL_law_759 rfl rfl ?_
    refine wp_iconst dL_law_760 (by decide) ?_
    refine wp_iadd dL_law_761 (by omega) ?_
    refine wp_sld ⟨by omega, by omega⟩ dL_law_762 ?_
    rw [← hx2]
    refine wp_aload_n dL_law_763 rfl rfl ?_
    refine wp_iload_n dL_law_764 rfl rfl ?_
    refine wp_iconst dL_law_765 (by decide) ?_
    refine wp_iadd dL_law_766 (by omega) ?_
    refine wp_sld ⟨by omega, by omega⟩ dL_law_767 ?_
    rw [← hx3]
    refine wp_callV0 (d' := d - 1) cv_RL_109 69 rfl [(0, x1), (0, x2), (0, x3)] [(0, (-14))] rfl rfl (Or.inl ⟨_, _, rfl, by decide, rfl, by omega, by omega⟩) (by omega) (Nat.le_of_ble_eq_true rfl) dL_law_768 rfl (Nat.le_of_ble_eq_true rfl) (by omega) (loc1 := [(2, 69), (0, x1), (0, x2), (0, x3), (9, 0)]) rfl ?_
    refine cm_sheet (by decide) (by omega) hR hBm hBw (x := x1) (y := x2) (z := x3) (fun h => False.elim (by omega)) (fun _ => ?_) (fun h => False.elim (by omega)) (fun h => False.elim (by omega))
    refine wp_icmp_eq (tgt := 968) dL_law_771 (by decide) (fun _ => ?_) (fun h => absurd h (by decide))
    exact hk M A K B (hV.le (by omega))
  · have J1 := hV.mj (F1.mono (fun i j v => (ls_VS i j v).2.1)) R1
    have C1 : CJ M1 A := hC.fr F1 R1 (fun i j v => (ls_VS i j v).2.2.1)
    have Bm1 : Rms M1 B := hBm.fr F1 (fun i j v => by have := (ls_VS i j v).2.1; unfold VCl at this; unfold VMh; omega)
    refine wp_aload_n dL_law_752 rfl rfl ?_
    refine wp_aload_n dL_law_753 rfl rfl ?_
    refine wp_iload_n dL_law_754 rfl rfl ?_
    refine wp_iconst dL_law_755 (by decide) ?_
    refine wp_iadd dL_law_756 (by omega) ?_
    refine wp_sld ⟨by omega, by omega⟩ dL_law_757 ?_
    rw [← hx1]
    refine wp_aload_n dL_law_758 rfl rfl ?_
    refine wp_iload_n dL_law_759 rfl rfl ?_
    refine wp_iconst dL_law_760 (by decide) ?_
    refine wp_iadd dL_law_761 (by omega) ?_
    refine wp_sld ⟨by omega, by omega⟩ dL_law_762 ?_
    rw [← hx2]
    refine wp_aload_n dL_law_763 rfl rfl ?_
    refine wp_iload_n dL_law_764 rfl rfl ?_
    refine wp_iconst dL_law_765 (by decide) ?_
    refine wp_iadd dL_law_766 (by omega) ?_
    refine wp_sld ⟨by omega, by omega⟩ dL_law_767 ?_
    rw [← hx3]
    refine wp_callV0 (d' := d - 1) cv_RL_109 69 rfl [(0, x1), (0, x2), (0, x3)] [(0, 1)] rfl rfl (Or.inl ⟨_, _, rfl, by decide, rfl, by omega, by omega⟩) (by omega) (Nat.le_of_ble_eq_true rfl) dL_law_768 rfl (Nat.le_of_ble_eq_true rfl) (by omega) (loc1 := [(2, 69), (0, x1), (0, x2), (0, x3), (9, 0)]) rfl ?_
    refine cm_sheet (by decide) (by omega) R1 Bm1 hBw (x := x1) (y := x2) (z := x3) (fun h => False.elim (by omega)) (fun h => False.elim (by omega)) (fun _ M2 Bm2 F2 => ?_) (fun h => False.elim (by omega))
    refine wp_icmp_eq (tgt := 968) dL_law_771 (by decide) (fun _ => ?_) (fun h => absurd h (by decide))
    have J2 : MJ M2 A (evC M) := J1.frn (F2.mono VMh.n) (VMh.sr F2 R1)
    have FL : Fr VLs M M2 := (F1.mono (fun i j v => (ls_VS i j v).1)).tr (F2.mono (fun i j v => (ls_VMh i j v).1))
    have C2 : CJ M2 A := C1.mdl (F2.mono (fun i j v => (ls_VMh i j v).2.1)) J2.1
    have Bs2 : Rs M2 (layB B x1.toNat x2 0) := Bs1.fr F2 (fun i j v => (ls_VMh i j v).2.2.1)
    exact hk M2 A K _ (hV.sheet FL C2 J2 ⟨Bs2, Bm2, hBw.lay _ (by omega)⟩ (sq_0 hSq ((F1.mono (fun i j v => (ls_VS i j v).2.2.2)).tr (F2.mono (fun i j v => (ls_VMh i j v).2.2.2)))))
  · have J1 := hV.mj (F1.mono (fun i j v => (ls_VS i j v).2.1)) R1
    have C1 : CJ M1 A := hC.fr F1 R1 (fun i j v => (ls_VS i j v).2.2.1)
    have Bm1 : Rms M1 B := hBm.fr F1 (fun i j v => by have := (ls_VS i j v).2.1; unfold VCl at this; unfold VMh; omega)
    refine wp_aload_n dL_law_752 rfl rfl ?_
    refine wp_aload_n dL_law_753 rfl rfl ?_
    refine wp_iload_n dL_law_754 rfl rfl ?_
    refine wp_iconst dL_law_755 (by decide) ?_
    refine wp_iadd dL_law_756 (by omega) ?_
    refine wp_sld ⟨by omega, by omega⟩ dL_law_757 ?_
    rw [← hx1]
    refine wp_aload_n dL_law_758 rfl rfl ?_
    refine wp_iload_n dL_law_759 rfl rfl ?_
    refine wp_iconst dL_law_760 (by decide) ?_
    refine wp_iadd dL_law_761 (by omega) ?_
    refine wp_sld ⟨by omega, by omega⟩ dL_law_762 ?_
    rw [← hx2]
    refine wp_aload_n dL_law_763 rfl rfl ?_
    refine wp_iload_n dL_law_764 rfl rfl ?_
    refine wp_iconst dL_law_765 (by decide) ?_
    refine wp_iadd dL_law_766 (by omega) ?_
    refine wp_sld ⟨by omega, by omega⟩ dL_law_767 ?_
    rw [← hx3]
    refine wp_callV0 (d' := d - 1) cv_RL_109 69 rfl [(0, x1), (0, x2), (0, x3)] [(0, 1)] rfl rfl (Or.inl ⟨_, _, rfl, by decide, rfl, by omega, by omega⟩) (by omega) (Nat.le_of_ble_eq_true rfl) dL_law_768 rfl (Nat.le_of_ble_eq_true rfl) (by omega) (loc1 := [(2, 69), (0, x1), (0, x2), (0, x3), (9, 0)]) rfl ?_
    refine cm_sheet (by decide) (by omega) R1 Bm1 hBw (x := x1) (y := x2) (z := x3) (fun h => False.elim (by omega)) (fun h => False.elim (by omega)) (fun h => False.elim (by omega)) (fun _ M2 Bm2 F2 => ?_)
    refine wp_icmp_eq (tgt := 968) dL_law_771 (by decide) (fun _ => ?_) (fun h => absurd h (by decide))
    have J2 : MJ M2 A (evC M) := J1.frn (F2.mono VMh.n) (VMh.sr F2 R1)
    have FL : Fr VLs M M2 := (F1.mono (fun i j v => (ls_VS i j v).1)).tr (F2.mono (fun i j v => (ls_VMh i j v).1))
    have C2 : CJ M2 A := C1.mdl (F2.mono (fun i j v => (ls_VMh i j v).2.1)) J2.1
    have Bs2 : Rs M2 (layB B x1.toNat x2 x3) := Bs1.fr F2 (fun i j v => (ls_VMh i j v).2.2.1)
    exact hk M2 A K _ (hV.sheet FL C2 J2 ⟨Bs2, Bm2, hBw.lay _ (by omega)⟩ (sq_0 hSq ((F1.mono (fun i j v => (ls_VS i j v).2.2.2)).tr (F2.mono (fun i j v => (ls_VMh i j v).2.2.2)))))
set_option maxRecDepth 20000 in
set_option maxHeartbeats 4000000 in
theorem op_cell {l : Launch} {g : Gw} {d : Nat} (hd : 100 ≤ d) (hL3 : g.2.2.2.2.1 100 ≤ 3072) {i : Nat} (hi : i + 6 ≤ g.2.2.2.2.1 100) {M : Mm} {A K : Ls} {B : Mm} {sq : Int} (hV : IV M A K B sq) (hsq : sq ≤ 100000) {Q : Option Wd → Mm → Prop} (hk : ∀ M2 A2 K2 B2, IV M2 A2 K2 B2 (sq + 20) → Wp l g d 0 0 90 m_L_law 968 [] [(2, 1015), (2, 1), (2, 69), (0, (i : Int))] M2 Q) : Wp l g d 0 0 90 m_L_law 776 [] [(2, 1015), (2, 1), (2, 69), (0, (i : Int))] M Q := by
  obtain ⟨x1, hx1⟩ : ∃ x, x = (scI g ((i : Int) + 1).toNat).toInt := ⟨_, rfl⟩
  obtain ⟨x2, hx2⟩ : ∃ x, x = (scI g ((i : Int) + 2).toNat).toInt := ⟨_, rfl⟩
  obtain ⟨x3, hx3⟩ : ∃ x, x = (scI g ((i : Int) + 3).toNat).toInt := ⟨_, rfl⟩
  obtain ⟨x4, hx4⟩ : ∃ x, x = (scI g ((i : Int) + 4).toNat).toInt := ⟨_, rfl⟩
  obtain ⟨x5, hx5⟩ : ∃ x, x = (scI g ((i : Int) + 5).toNat).toInt := ⟨_, rfl⟩
  have hr1 := sc_r g ((i : Int) + 1).toNat
  have hr2 := sc_r g ((i : Int) + 2).toNat
  have hr3 := sc_r g ((i : Int) + 3).toNat
  have hr4 := sc_r g ((i : Int) + 4).toNat
  have hr5 := sc_r g ((i : Int) + 5).toNat
  rw [← hx1] at hr1
  rw [← hx2] at hr2
  rw [← hx3] at hr3
  rw [← hx4] at hr4
  rw [← hx5] at hr5
  obtain ⟨hC, hJ, h0, hIm, h25, hTp, ⟨hBs, hBm, hBw⟩, hSq⟩ := id hV
  obtain ⟨hR, hX, hA, hW, hr⟩ := id hC
  refine wp_aload_n dL_law_776 rfl rfl ?_
  refine wp_aload_n dL_law_777 rfl rfl ?_
  refine wp_iload_n dL_law_778 rfl rfl ?_
  refine wp_iconst dL_law_779 (by decide) ?_
  refine wp_iadd dL_law_780 (by omega) ?_
  refine wp_sld ⟨by omega, by omega⟩ dL_law_781 ?_
  rw [← hx1]
  refine wp_aload_n dL_law_782 rfl rfl ?_
  refine wp_iload_n dL_law_783 rfl rfl ?_
  refine wp_iconst dL_law_784 (by decide) ?_
  refine wp_iadd dL_law_785 (by omega) ?_
  refine wp_sld ⟨by omega, by omega⟩ dL_law_786 ?_
  rw [← hx2]
  refine wp_aload_n dL_law_787 rfl rfl ?_
  refine wp_iload_n dL_law_788 rfl rfl ?_
  refine wp_iconst dL_law_789 (by decide) ?_
  refine wp_iadd dL_law_790 (by omega) ?_
  refine wp_sld ⟨by omega, by omega⟩ dL_law_791 ?_
  rw [← hx3]
  refine wp_callV0 (d' := d - 1) cv_RL_110 1 rfl [(0, x1), (0, x2), (0, x3)] [] rfl rfl (Or.inl ⟨_, _, rfl, by decide, rfl, by omega, by omega⟩) (by omega) (Nat.le_of_ble_eq_true rfl) dL_law_792 rfl (Nat.le_of_ble_eq_true rfl) (by omega) (loc1 := [(2, 1), (0, x1), (0, x2), (0, x3), (9, 0)]) rfl ?_
  refine cs_cell (by decide) (by omega) hR hBs hBw x1 x2 x3 (fun c1 => ?_) (fun c1 c2 => ?_) (fun c1 c2 c3 => ?_) (fun c1 c2 c3 M1 Bs1 F1 R1 => ?_)
  · refine wp_aload_n dL_law_795 rfl rfl ?_
    refine wp_aload_n dL_law_796 rfl rfl ?_
    refine wp_iload_n dL_law_797 rfl rfl ?_
    refine wp_iconst dL_law_798 (by decide) ?_
    refine wp_iadd dL_law_799 (by omega) ?_
    refine wp_sld ⟨by omega, by omega⟩ dL_law_800 ?_
    rw [← hx1]
    refine wp_aload_n dL_law_801 rfl rfl ?_
    refine wp_iload_n dL_law_802 rfl rfl ?_
    refine wp_iconst dL_law_803 (by decide) ?_
    refine wp_iadd dL_law_804 (by omega) ?_
    refine wp_sld ⟨by omega, by omega⟩ dL_law_805 ?_
    rw [← hx2]
    refine wp_aload_n dL_law_806 rfl rfl ?_
    refine wp_iload_n dL_law_807 rfl rfl ?_
    refine wp_iconst dL_law_808 (by decide) ?_
    refine wp_iadd dL_law_809 (by omega) ?_
    refine wp_sld ⟨by omega, by omega⟩ dL_law_810 ?_
    rw [← hx3]
    refine wp_callV0 (d' := d - 1) cv_RL_113 69 rfl [(0, x1), (0, x2), (0, x3)] [(0, (-2))] rfl rfl (Or.inl ⟨_, _, rfl, by decide, rfl, by omega, by omega⟩) (by omega) (Nat.le_of_ble_eq_true rfl) dL_law_811 rfl (Nat.le_of_ble_eq_true rfl) (by omega) (loc1 := [(2, 69), (0, x1), (0, x2), (0, x3)]) rfl ?_
    refine cm_cell (by decide) (by omega) hR hBm hBw x1 x2 x3 (fun _ => ?_) (fun h h2 => False.elim (by omega)) (fun h h2 => False.elim (by omega)) (fun h h2 => False.elim (by omega))
    refine wp_icmp_eq (tgt := 968) dL_law_814 (by decide) (fun _ => ?_) (fun h => absurd h (by decide))
    exact hk M A K B (hV.le (by omega))
  · refine wp_aload_n dL_law_795 rfl rfl ?_
    refine wp_aload_n dL_law_796 rfl rfl ?_
    refine wp_iload_n dL_law_797 rfl rfl ?_
    refine wp_iconst dL_law_798 (by decide) ?_
    refine wp_iadd dL_law_799 (by omega) ?_
    refine wp_sld ⟨by omega, by omega⟩ dL_law_800 ?_
    rw [← hx1]
    refine wp_aload_n dL_law_801 rfl rfl ?_
    refine wp_iload_n dL_law_802 rfl rfl ?_
    refine wp_iconst dL_law_803 (by decide) ?_
    refine wp_iadd dL_law_804 (by omega) ?_
    refine wp_sld ⟨by omega, by omega⟩ dL_law_805 ?_
    rw [← hx2]
    refine wp_aload_n dL_law_806 rfl rfl ?_
    refine wp_iload_n dL_law_807 rfl rfl ?_
    refine wp_iconst dL_law_808 (by decide) ?_
    refine wp_iadd dL_law_809 (by omega) ?_
    refine wp_sld ⟨by omega, by omega⟩ dL_law_810 ?_
    rw [← hx3]
    refine wp_callV0 (d' := d - 1) cv_RL_113 69 rfl [(0, x1), (0, x2), (0, x3)] [(0, (-11))] rfl rfl (Or.inl ⟨_, _, rfl, by decide, rfl, by omega, by omega⟩) (by omega) (Nat.le_of_ble_eq_true rfl) dL_law_811 rfl (Nat.le_of_ble_eq_true rfl) (by omega) (loc1 := [(2, 69), (0, x1), (0, x2), (0, x3)]) rfl ?_
    refine cm_cell (by decide) (by omega) hR hBm hBw x1 x2 x3 (fun h => False.elim (by omega)) (fun _ _ => ?_) (fun h h2 => False.elim (by omega)) (fun h h2 => False.elim (by omega))
    refine wp_icmp_eq (tgt := 968) dL_law_814 (by decide) (fun _ => ?_) (fun h => absurd h (by decide))
    exact hk M A K B (hV.le (by omega))
  · refine wp_aload_n dL_law_795 rfl rfl ?_
    refine wp_aload_n dL_law_796 rfl rfl ?_
    refine wp_iload_n dL_law_797 rfl rfl ?_
    refine wp_iconst dL_law_798 (by decide) ?_
    refine wp_iadd dL_law_799 (by omega) ?_
    refine wp_sld ⟨by omega, by omega⟩ dL_law_800 ?_
    rw [← hx1]
    refine wp_aload_n dL_law_801 rfl rfl ?_
    refine wp_iload_n dL_law_802 rfl rfl ?_
    refine wp_iconst dL_law_803 (by decide) ?_
    refine wp_iadd dL_law_804 (by omega) ?_
    refine wp_sld ⟨by omega, by omega⟩ dL_law_805 ?_
    rw [← hx2]
    refine wp_aload_n dL_law_806 rfl rfl ?_
    refine wp_iload_n dL_law_807 rfl rfl ?_
    refine wp_iconst dL_law_808 (by decide) ?_
    refine wp_iadd dL_law_809 (by omega) ?_
    refine wp_sld ⟨by omega, by omega⟩ dL_law_810 ?_
    rw [← hx3]
    refine wp_callV0 (d' := d - 1) cv_RL_113 69 rfl [(0, x1), (0, x2), (0, x3)] [(0, (-12))] rfl rfl (Or.inl ⟨_, _, rfl, by decide, rfl, by omega, by omega⟩) (by omega) (Nat.le_of_ble_eq_true rfl) dL_law_811 rfl (Nat.le_of_ble_eq_true rfl) (by omega) (loc1 := [(2, 69), (0, x1), (0, x2), (0, x3)]) rfl ?_
    refine cm_cell (by decide) (by omega) hR hBm hBw x1 x2 x3 (fun h => False.elim (by omega)) (fun h h2 => False.elim (by omega)) (fun _ _ _ => ?_) (fun _ _ h => absurd h c3)
    refine wp_icmp_eq (tgt := 968) dL_law_814 (by decide) (fun _ => ?_) (fun h => absurd h (by decide))
    exact hk M A K B (hV.le (by omega))
  · have J1 := hV.mj (F1.mono (fun i j v => (ls_VS i j v).2.1)) R1
    have C1 : CJ M1 A := hC.fr F1 R1 (fun i j v => (ls_VS i j v).2.2.1)
    have Bm1 : Rms M1 B := hBm.fr F1 (fun i j v => by have := (ls_VS i j v).2.1; unfold VCl at this; unfold VMh; omega)
    refine wp_aload_n dL_law_795 rfl rfl ?_
    refine wp_aload_n dL_law_796 rfl rfl ?_
    refine wp_iload_n dL_law_797 rfl rfl ?_
    refine wp_iconst dL_law_798 (by decide) ?_
    refine wp_iadd dL_law_799 (by omega) ?_
    refine wp_sld ⟨by omega, by omega⟩ dL_law_800 ?_
    rw [← hx1]
    refine wp_aload_n dL_law_801 rfl rfl ?_
    refine wp_iload_n dL_law_802 rfl rfl ?_
    refine wp_iconst dL_law_803 (by decide) ?_
    refine wp_iadd dL_law_804 (by omega) ?_
    refine wp_sld ⟨by omega, by omega⟩ dL_law_805 ?_
    rw [← hx2]
    refine wp_aload_n dL_law_806 rfl rfl ?_
    refine wp_iload_n dL_law_807 rfl rfl ?_
    refine wp_iconst dL_law_808 (by decide) ?_
    refine wp_iadd dL_law_809 (by omega) ?_
    refine wp_sld ⟨by omega, by omega⟩ dL_law_810 ?_
    rw [← hx3]
    refine wp_callV0 (d' := d - 1) cv_RL_113 69 rfl [(0, x1), (0, x2), (0, x3)] [(0, 1)] rfl rfl (Or.inl ⟨_, _, rfl, by decide, rfl, by omega, by omega⟩) (by omega) (Nat.le_of_ble_eq_true rfl) dL_law_811 rfl (Nat.le_of_ble_eq_true rfl) (by omega) (loc1 := [(2, 69), (0, x1), (0, x2), (0, x3)]) rfl ?_
    refine cm_cell (by decide) (by omega) R1 Bm1 hBw x1 x2 x3 (fun h => False.elim (by omega)) (fun h h2 => False.elim (by omega)) (fun _ _ h => absurd c3 h) (fun _ _ _ M2 Bm2 F2 => ?_)
    refine wp_icmp_eq (tgt := 968) dL_law_814 (by decide) (fun _ => ?_) (fun h => absurd h (by decide))
    have J2 : MJ M2 A (evC M) := J1.frn (F2.mono VMh.n) (VMh.sr F2 R1)
    have FL : Fr VLs M M2 := (F1.mono (fun i j v => (ls_VS i j v).1)).tr (F2.mono (fun i j v => (ls_VMh i j v).1))
    have C2 : CJ M2 A := C1.mdl (F2.mono (fun i j v => (ls_VMh i j v).2.1)) J2.1
    have Bs2 : Rs M2 (putB B x1.toNat x2.toNat x3) := Bs1.fr F2 (fun i j v => (ls_VMh i j v).2.2.1)
    exact hk M2 A K _ (hV.sheet FL C2 J2 ⟨Bs2, Bm2, hBw.put _ _ _⟩ (sq_0 hSq ((F1.mono (fun i j v => (ls_VS i j v).2.2.2)).tr (F2.mono (fun i j v => (ls_VMh i j v).2.2.2)))))
set_option maxRecDepth 20000 in
set_option maxHeartbeats 4000000 in
theorem op_copy {l : Launch} {g : Gw} {d : Nat} (hd : 100 ≤ d) (hL3 : g.2.2.2.2.1 100 ≤ 3072) {i : Nat} (hi : i + 6 ≤ g.2.2.2.2.1 100) {M : Mm} {A K : Ls} {B : Mm} {sq : Int} (hV : IV M A K B sq) (hsq : sq ≤ 100000) {Q : Option Wd → Mm → Prop} (hk : ∀ M2 A2 K2 B2, IV M2 A2 K2 B2 (sq + 20) → Wp l g d 0 0 90 m_L_law 968 [] [(2, 1015), (2, 1), (2, 69), (0, (i : Int))] M2 Q) : Wp l g d 0 0 90 m_L_law 819 [] [(2, 1015), (2, 1), (2, 69), (0, (i : Int))] M Q := by
  obtain ⟨x1, hx1⟩ : ∃ x, x = (scI g ((i : Int) + 1).toNat).toInt := ⟨_, rfl⟩
  obtain ⟨x2, hx2⟩ : ∃ x, x = (scI g ((i : Int) + 2).toNat).toInt := ⟨_, rfl⟩
  obtain ⟨x3, hx3⟩ : ∃ x, x = (scI g ((i : Int) + 3).toNat).toInt := ⟨_, rfl⟩
  obtain ⟨x4, hx4⟩ : ∃ x, x = (scI g ((i : Int) + 4).toNat).toInt := ⟨_, rfl⟩
  obtain ⟨x5, hx5⟩ : ∃ x, x = (scI g ((i : Int) + 5).toNat).toInt := ⟨_, rfl⟩
  have hr1 := sc_r g ((i : Int) + 1).toNat
  have hr2 := sc_r g ((i : Int) + 2).toNat
  have hr3 := sc_r g ((i : Int) + 3).toNat
  have hr4 := sc_r g ((i : Int) + 4).toNat
  have hr5 := sc_r g ((i : Int) + 5).toNat
  rw [← hx1] at hr1
  rw [← hx2] at hr2
  rw [← hx3] at hr3
  rw [← hx4] at hr4
  rw [← hx5] at hr5
  obtain ⟨hC, hJ, h0, hIm, h25, hTp, ⟨hBs, hBm, hBw⟩, hSq⟩ := id hV
  obtain ⟨hR, hX, hA, hW, hr⟩ := id hC
  refine wp_aload_n dL_law_819 rfl rfl ?_
  refine wp_aload_n dL_law_820 rfl rfl ?_
  refine wp_iload_n dL_law_821 rfl rfl ?_
  refine wp_iconst dL_law_822 (by decide) ?_
  refine wp_iadd dL_law_823 (by omega) ?_
  refine wp_sld ⟨by omega, by omega⟩ dL_law_824 ?_
  rw [← hx1]
  refine wp_aload_n dL_law_825 rfl rfl ?_
  refine wp_iload_n dL_law_826 rfl rfl ?_
  refine wp_iconst dL_law_827 (by decide) ?_
  refine wp_iadd dL_law_828 (by omega) ?_
  refine wp_sld ⟨by omega, by omega⟩ dL_law_829 ?_
  rw [← hx2]
  refine wp_aload_n dL_law_830 rfl rfl ?_
  refine wp_iload_n dL_law_831 rfl rfl ?_
  refine wp_iconst dL_law_832 (by decide) ?_
  refine wp_iadd dL_law_833 (by omega) ?_
  refine wp_sld ⟨by omega, by omega⟩ dL_law_834 ?_
  rw [← hx3]
  refine wp_aload_n dL_law_835 rfl rfl ?_
  refine wp_iload_n dL_law_836 rfl rfl ?_
  refine wp_iconst dL_law_837 (by decide) ?_
  refine wp_iadd dL_law_838 (by omega) ?_
  refine wp_sld ⟨by omega, by omega⟩ dL_law_839 ?_
  rw [← hx4]
  refine wp_aload_n dL_law_840 rfl rfl ?_
  refine wp_iload_n dL_law_841 rfl rfl ?_
  refine wp_iconst dL_law_842 (by decide) ?_
  refine wp_iadd dL_law_843 (by omega) ?_
  refine wp_sld ⟨by omega, by omega⟩ dL_law_844 ?_
  rw [← hx5]
  refine wp_callV0 (d' := d - 1) cv_RL_114 1 rfl [(0, x1), (0, x2), (0, x3), (0, x4), (0, x5)] [] rfl rfl (Or.inl ⟨_, _, rfl, by decide, rfl, by omega, by omega⟩) (by omega) (Nat.le_of_ble_eq_true rfl) dL_law_845 rfl (Nat.le_of_ble_eq_true rfl) (by omega) (loc1 := [(2, 1), (0, x1), (0, x2), (0, x3), (0, x4), (0, x5), (9, 0), (9, 0)]) rfl ?_
  refine cs_copy (by decide) (by omega) hR hBs hBw x1 x2 x3 x4 x5 (fun c1 => ?_) (fun c1 c2 => ?_) (fun c1 c2 c3 => ?_) (fun c1 c2 c3 c4 => ?_) (fun c1 c2 c3 c4 M1 Bs1 F1 R1 => ?_)
  · refine wp_aload_n dL_law_848 rfl rfl ?_
    refine wp_aload_n dL_law_849 rfl rfl ?_
    refine wp_iload_n dL_law_850 rfl rfl ?_
    refine wp_iconst dL_law_851 (by decide) ?_
    refine wp_iadd dL_law_852 (by omega) ?_
    refine wp_sld ⟨by omega, by omega⟩ dL_law_853 ?_
    rw [← hx1]
    refine wp_aload_n dL_law_854 rfl rfl ?_
    refine wp_iload_n dL_law_855 rfl rfl ?_
    refine wp_iconst dL_law_856 (by decide) ?_
    refine wp_iadd dL_law_857 (by omega) ?_
    refine wp_sld ⟨by omega, by omega⟩ dL_law_858 ?_
    rw [← hx2]
    refine wp_aload_n dL_law_859 rfl rfl ?_
    refine wp_iload_n dL_law_860 rfl rfl ?_
    refine wp_iconst dL_law_861 (by decide) ?_
    refine wp_iadd dL_law_862 (by omega) ?_
    refine wp_sld ⟨by omega, by omega⟩ dL_law_863 ?_
    rw [← hx3]
    refine wp_aload_n dL_law_864 rfl rfl ?_
    refine wp_iload_n dL_law_865 rfl rfl ?_
    refine wp_iconst dL_law_866 (by decide) ?_
    refine wp_iadd dL_law_867 (by omega) ?_
    refine wp_sld ⟨by omega, by omega⟩ dL_law_868 ?_
    rw [← hx4]
    refine wp_aload_n dL_law_869 rfl rfl ?_
    refine wp_iload_n dL_law_870 rfl rfl ?_
    refine wp_iconst dL_law_871 (by decide) ?_
    refine wp_iadd dL_law_872 (by omega) ?_
    refine wp_sld ⟨by omega, by omega⟩ dL_law_873 ?_
    rw [← hx5]
    refine wp_callV0 (d' := d - 1) cv_RL_118 69 rfl [(0, x1), (0, x2), (0, x3), (0, x4), (0, x5)] [(0, (-2))] rfl rfl (Or.inl ⟨_, _, rfl, by decide, rfl, by omega, by omega⟩) (by omega) (Nat.le_of_ble_eq_true rfl) dL_law_874 rfl (Nat.le_of_ble_eq_true rfl) (by omega) (loc1 := [(2, 69), (0, x1), (0, x2), (0, x3), (0, x4), (0, x5), (9, 0), (9, 0), (9, 0)]) rfl ?_
    refine cm_copy (by decide) (by omega) hR hBm hBw x1 x2 x3 x4 x5 hr5 (fun _ => ?_) (fun h => absurd h c1) (fun h => absurd h c1) (fun h => absurd h c1) (fun h => absurd h c1)
    refine wp_icmp_eq (tgt := 968) dL_law_877 (by decide) (fun _ => ?_) (fun h => absurd h (by decide))
    exact hk M A K B (hV.le (by omega))
  · refine wp_aload_n dL_law_848 rfl rfl ?_
    refine wp_aload_n dL_law_849 rfl rfl ?_
    refine wp_iload_n dL_law_850 rfl rfl ?_
    refine wp_iconst dL_law_851 (by decide) ?_
    refine wp_iadd dL_law_852 (by omega) ?_
    refine wp_sld ⟨by omega, by omega⟩ dL_law_853 ?_
    rw [← hx1]
    refine wp_aload_n dL_law_854 rfl rfl ?_
    refine wp_iload_n dL_law_855 rfl rfl ?_
    refine wp_iconst dL_law_856 (by decide) ?_
    refine wp_iadd dL_law_857 (by omega) ?_
    refine wp_sld ⟨by omega, by omega⟩ dL_law_858 ?_
    rw [← hx2]
    refine wp_aload_n dL_law_859 rfl rfl ?_
    refine wp_iload_n dL_law_860 rfl rfl ?_
    refine wp_iconst dL_law_861 (by decide) ?_
    refine wp_iadd dL_law_862 (by omega) ?_
    refine wp_sld ⟨by omega, by omega⟩ dL_law_863 ?_
    rw [← hx3]
    refine wp_aload_n dL_law_864 rfl rfl ?_
    refine wp_iload_n dL_law_865 rfl rfl ?_
    refine wp_iconst dL_law_866 (by decide) ?_
    refine wp_iadd dL_law_867 (by omega) ?_
    refine wp_sld ⟨by omega, by omega⟩ dL_law_868 ?_
    rw [← hx4]
    refine wp_aload_n dL_law_869 rfl rfl ?_
    refine wp_iload_n dL_law_870 rfl rfl ?_
    refine wp_iconst dL_law_871 (by decide) ?_
    refine wp_iadd dL_law_872 (by omega) ?_
    refine wp_sld ⟨by omega, by omega⟩ dL_law_873 ?_
    rw [← hx5]
    refine wp_callV0 (d' := d - 1) cv_RL_118 69 rfl [(0, x1), (0, x2), (0, x3), (0, x4), (0, x5)] [(0, (-11))] rfl rfl (Or.inl ⟨_, _, rfl, by decide, rfl, by omega, by omega⟩) (by omega) (Nat.le_of_ble_eq_true rfl) dL_law_874 rfl (Nat.le_of_ble_eq_true rfl) (by omega) (loc1 := [(2, 69), (0, x1), (0, x2), (0, x3), (0, x4), (0, x5), (9, 0), (9, 0), (9, 0)]) rfl ?_
    refine cm_copy (by decide) (by omega) hR hBm hBw x1 x2 x3 x4 x5 hr5 (fun h => absurd c1 h) (fun _ _ => ?_) (fun _ h => absurd c2 h) (fun _ h => absurd c2 h) (fun _ h => absurd c2 h)
    refine wp_icmp_eq (tgt := 968) dL_law_877 (by decide) (fun _ => ?_) (fun h => absurd h (by decide))
    exact hk M A K B (hV.le (by omega))
  · refine wp_aload_n dL_law_848 rfl rfl ?_
    refine wp_aload_n dL_law_849 rfl rfl ?_
    refine wp_iload_n dL_law_850 rfl rfl ?_
    refine wp_iconst dL_law_851 (by decide) ?_
    refine wp_iadd dL_law_852 (by omega) ?_
    refine wp_sld ⟨by omega, by omega⟩ dL_law_853 ?_
    rw [← hx1]
    refine wp_aload_n dL_law_854 rfl rfl ?_
    refine wp_iload_n dL_law_855 rfl rfl ?_
    refine wp_iconst dL_law_856 (by decide) ?_
    refine wp_iadd dL_law_857 (by omega) ?_
    refine wp_sld ⟨by omega, by omega⟩ dL_law_858 ?_
    rw [← hx2]
    refine wp_aload_n dL_law_859 rfl rfl ?_
    refine wp_iload_n dL_law_860 rfl rfl ?_
    refine wp_iconst dL_law_861 (by decide) ?_
    refine wp_iadd dL_law_862 (by omega) ?_
    refine wp_sld ⟨by omega, by omega⟩ dL_law_863 ?_
    rw [← hx3]
    refine wp_aload_n dL_law_864 rfl rfl ?_
    refine wp_iload_n dL_law_865 rfl rfl ?_
    refine wp_iconst dL_law_866 (by decide) ?_
    refine wp_iadd dL_law_867 (by omega) ?_
    refine wp_sld ⟨by omega, by omega⟩ dL_law_868 ?_
    rw [← hx4]
    refine wp_aload_n dL_law_869 rfl rfl ?_
    refine wp_iload_n dL_law_870 rfl rfl ?_
    refine wp_iconst dL_law_871 (by decide) ?_
    refine wp_iadd dL_law_872 (by omega) ?_
    refine wp_sld ⟨by omega, by omega⟩ dL_law_873 ?_
    rw [← hx5]
    refine wp_callV0 (d' := d - 1) cv_RL_118 69 rfl [(0, x1), (0, x2), (0, x3), (0, x4), (0, x5)] [(0, (-13))] rfl rfl (Or.inl ⟨_, _, rfl, by decide, rfl, by omega, by omega⟩) (by omega) (Nat.le_of_ble_eq_true rfl) dL_law_874 rfl (Nat.le_of_ble_eq_true rfl) (by omega) (loc1 := [(2, 69), (0, x1), (0, x2), (0, x3), (0, x4), (0, x5), (9, 0), (9, 0), (9, 0)]) rfl ?_
    refine cm_copy (by decide) (by omega) hR hBm hBw x1 x2 x3 x4 x5 hr5 (fun h => absurd c1 h) (fun _ h => absurd h c2) (fun _ _ _ => ?_) (fun _ _ h => absurd h c3) (fun _ _ h => absurd h c3)
    refine wp_icmp_eq (tgt := 968) dL_law_877 (by decide) (fun _ => ?_) (fun h => absurd h (by decide))
    exact hk M A K B (hV.le (by omega))
  · refine wp_aload_n dL_law_848 rfl rfl ?_
    refine wp_aload_n dL_law_849 rfl rfl ?_
    refine wp_iload_n dL_law_850 rfl rfl ?_
    refine wp_iconst dL_law_851 (by decide) ?_
    refine wp_iadd dL_law_852 (by omega) ?_
    refine wp_sld ⟨by omega, by omega⟩ dL_law_853 ?_
    rw [← hx1]
    refine wp_aload_n dL_law_854 rfl rfl ?_
    refine wp_iload_n dL_law_855 rfl rfl ?_
    refine wp_iconst dL_law_856 (by decide) ?_
    refine wp_iadd dL_law_857 (by omega) ?_
    refine wp_sld ⟨by omega, by omega⟩ dL_law_858 ?_
    rw [← hx2]
    refine wp_aload_n dL_law_859 rfl rfl ?_
    refine wp_iload_n dL_law_860 rfl rfl ?_
    refine wp_iconst dL_law_861 (by decide) ?_
    refine wp_iadd dL_law_862 (by omega) ?_
    refine wp_sld ⟨by omega, by omega⟩ dL_law_863 ?_
    rw [← hx3]
    refine wp_aload_n dL_law_864 rfl rfl ?_
    refine wp_iload_n dL_law_865 rfl rfl ?_
    refine wp_iconst dL_law_866 (by decide) ?_
    refine wp_iadd dL_law_867 (by omega) ?_
    refine wp_sld ⟨by omega, by omega⟩ dL_law_868 ?_
    rw [← hx4]
    refine wp_aload_n dL_law_869 rfl rfl ?_
    refine wp_iload_n dL_law_870 rfl rfl ?_
    refine wp_iconst dL_law_871 (by decide) ?_
    refine wp_iadd dL_law_872 (by omega) ?_
    refine wp_sld ⟨by omega, by omega⟩ dL_law_873 ?_
    rw [← hx5]
    refine wp_callV0 (d' := d - 1) cv_RL_118 69 rfl [(0, x1), (0, x2), (0, x3), (0, x4), (0, x5)] [(0, (-12))] rfl rfl (Or.inl ⟨_, _, rfl, by decide, rfl, by omega, by omega⟩) (by omega) (Nat.le_of_ble_eq_true rfl) dL_law_874 rfl (Nat.le_of_ble_eq_true rfl) (by omega) (loc1 := [(2, 69), (0, x1), (0, x2), (0, x3), (0, x4), (0, x5), (9, 0), (9, 0), (9, 0)]) rfl ?_
    refine cm_copy (by decide) (by omega) hR hBm hBw x1 x2 x3 x4 x5 hr5 (fun h => absurd c1 h) (fun _ h => absurd h c2) (fun _ _ h => absurd c3 h) (fun _ _ _ _ => ?_) (fun _ _ _ h => absurd h c4)
    refine wp_icmp_eq (tgt := 968) dL_law_877 (by decide) (fun _ => ?_) (fun h => absurd h (by decide))
    exact hk M A K B (hV.le (by omega))
  · have J1 := hV.mj (F1.mono (fun i j v => (ls_VS i j v).2.1)) R1
    have C1 : CJ M1 A := hC.fr F1 R1 (fun i j v => (ls_VS i j v).2.2.1)
    have Bm1 : Rms M1 B := hBm.fr F1 (fun i j v => by have := (ls_VS i j v).2.1; unfold VCl at this; unfold VMh; omega)
    refine wp_aload_n dL_law_848 rfl rfl ?_
    refine wp_aload_n dL_law_849 rfl rfl ?_
    refine wp_iload_n dL_law_850 rfl rfl ?_
    refine wp_iconst dL_law_851 (by decide) ?_
    refine wp_iadd dL_law_852 (by omega) ?_
    refine wp_sld ⟨by omega, by omega⟩ dL_law_853 ?_
    rw [← hx1]
    refine wp_aload_n dL_law_854 rfl rfl ?_
    refine wp_iload_n dL_law_855 rfl rfl ?_
    refine wp_iconst dL_law_856 (by decide) ?_
    refine wp_iadd dL_law_857 (by omega) ?_
    refine wp_sld ⟨by omega, by omega⟩ dL_law_858 ?_
    rw [← hx2]
    refine wp_aload_n dL_law_859 rfl rfl ?_
    refine wp_iload_n dL_law_860 rfl rfl ?_
    refine wp_iconst dL_law_861 (by decide) ?_
    refine wp_iadd dL_law_862 (by omega) ?_
    refine wp_sld ⟨by omega, by omega⟩ dL_law_863 ?_
    rw [← hx3]
    refine wp_aload_n dL_law_864 rfl rfl ?_
    refine wp_iload_n dL_law_865 rfl rfl ?_
    refine wp_iconst dL_law_866 (by decide) ?_
    refine wp_iadd dL_law_867 (by omega) ?_
    refine wp_sld ⟨by omega, by omega⟩ dL_law_868 ?_
    rw [← hx4]
    refine wp_aload_n dL_law_869 rfl rfl ?_
    refine wp_iload_n dL_law_870 rfl rfl ?_
    refine wp_iconst dL_law_871 (by decide) ?_
    refine wp_iadd dL_law_872 (by omega) ?_
    refine wp_sld ⟨by omega, by omega⟩ dL_law_873 ?_
    rw [← hx5]
    refine wp_callV0 (d' := d - 1) cv_RL_118 69 rfl [(0, x1), (0, x2), (0, x3), (0, x4), (0, x5)] [(0, x5)] rfl rfl (Or.inl ⟨_, _, rfl, by decide, rfl, by omega, by omega⟩) (by omega) (Nat.le_of_ble_eq_true rfl) dL_law_874 rfl (Nat.le_of_ble_eq_true rfl) (by omega) (loc1 := [(2, 69), (0, x1), (0, x2), (0, x3), (0, x4), (0, x5), (9, 0), (9, 0), (9, 0)]) rfl ?_
    refine cm_copy (by decide) (by omega) R1 Bm1 hBw x1 x2 x3 x4 x5 hr5 (fun h => absurd c1 h) (fun _ h => absurd h c2) (fun _ _ h => absurd c3 h) (fun _ _ _ h => absurd c4 h) (fun _ _ _ _ M2 Bm2 F2 => ?_)
    refine wp_icmp_eq (tgt := 968) dL_law_877 (by decide) (fun _ => ?_) (fun h => absurd rfl h)
    have J2 : MJ M2 A (evC M) := J1.frn (F2.mono VMh.n) (VMh.sr F2 R1)
    have FL : Fr VLs M M2 := (F1.mono (fun i j v => (ls_VS i j v).1)).tr (F2.mono (fun i j v => (ls_VMh i j v).1))
    have C2 : CJ M2 A := C1.mdl (F2.mono (fun i j v => (ls_VMh i j v).2.1)) J2.1
    have Bs2 : Rs M2 (mcp B x1.toNat (2 + x2.toNat) x3.toNat (2 + x4.toNat) x5.toNat) := Bs1.fr F2 (fun i j v => (ls_VMh i j v).2.2.1)
    exact hk M2 A K _ (hV.sheet FL C2 J2 ⟨Bs2, Bm2, hBw.copy _ _ _ _ _⟩ (sq_0 hSq ((F1.mono (fun i j v => (ls_VS i j v).2.2.2)).tr (F2.mono (fun i j v => (ls_VMh i j v).2.2.2)))))
theorem Ws.flm (E : Ev) (s : Nat) : ∀ (m t : Nat) (A : Ls) (B : Mm), Ws B → Ws (flmB E s m t A B)
  | 0, _, _, _, h => h
  | m + 1, t, A, B, h => Ws.flm E s m (t + 1) _ _ (Ws_mu h s t _)
set_option maxRecDepth 20000 in
set_option maxHeartbeats 4000000 in
theorem op_film {l : Launch} {g : Gw} {d : Nat} (hd : 100 ≤ d) (hL3 : g.2.2.2.2.1 100 ≤ 3072) {i : Nat} (hi : i + 6 ≤ g.2.2.2.2.1 100) {M : Mm} {A K : Ls} {B : Mm} {sq : Int} (hV : IV M A K B sq) (hsq : sq ≤ 100000) {Q : Option Wd → Mm → Prop} (hk : ∀ M2 A2 K2 B2, IV M2 A2 K2 B2 (sq + 20) → Wp l g d 0 0 90 m_L_law 968 [] [(2, 1015), (2, 1), (2, 69), (0, (i : Int))] M2 Q) : Wp l g d 0 0 90 m_L_law 574 [] [(2, 1015), (2, 1), (2, 69), (0, (i : Int))] M Q := by
  obtain ⟨x1, hx1⟩ : ∃ x, x = (scI g ((i : Int) + 1).toNat).toInt := ⟨_, rfl⟩
  obtain ⟨x2, hx2⟩ : ∃ x, x = (scI g ((i : Int) + 2).toNat).toInt := ⟨_, rfl⟩
  obtain ⟨x3, hx3⟩ : ∃ x, x = (scI g ((i : Int) + 3).toNat).toInt := ⟨_, rfl⟩
  obtain ⟨x4, hx4⟩ : ∃ x, x = (scI g ((i : Int) + 4).toNat).toInt := ⟨_, rfl⟩
  obtain ⟨x5, hx5⟩ : ∃ x, x = (scI g ((i : Int) + 5).toNat).toInt := ⟨_, rfl⟩
  have hr1 := sc_r g ((i : Int) + 1).toNat
  have hr2 := sc_r g ((i : Int) + 2).toNat
  have hr3 := sc_r g ((i : Int) + 3).toNat
  have hr4 := sc_r g ((i : Int) + 4).toNat
  have hr5 := sc_r g ((i : Int) + 5).toNat
  rw [← hx1] at hr1
  rw [← hx2] at hr2
  rw [← hx3] at hr3
  rw [← hx4] at hr4
  rw [← hx5] at hr5
  obtain ⟨hC, hJ, h0, hIm, h25, hTp, ⟨hBs, hBm, hBw⟩, hSq⟩ := id hV
  obtain ⟨hR, hX, hA, hW, hr⟩ := id hC
  refine wp_aload_n dL_law_574 rfl rfl ?_
  refine wp_aload_n dL_law_575 rfl rfl ?_
  refine wp_iload_n dL_law_576 rfl rfl ?_
  refine wp_iconst dL_law_577 (by decide) ?_
  refine wp_iadd dL_law_578 (by omega) ?_
  refine wp_sld ⟨by omega, by omega⟩ dL_law_579 ?_
  rw [← hx1]
  refine wp_aload_n dL_law_580 rfl rfl ?_
  refine wp_iload_n dL_law_581 rfl rfl ?_
  refine wp_iconst dL_law_582 (by decide) ?_
  refine wp_iadd dL_law_583 (by omega) ?_
  refine wp_sld ⟨by omega, by omega⟩ dL_law_584 ?_
  rw [← hx2]
  refine wp_callV0 (d' := d - 1) cv_RL_81 1 rfl [(0, x1), (0, x2)] [] rfl rfl (Or.inl ⟨_, _, rfl, by decide, rfl, by omega, by omega⟩) (by omega) (Nat.le_of_ble_eq_true rfl) dL_law_585 rfl (Nat.le_of_ble_eq_true rfl) (by omega) (loc1 := [(2, 1), (0, x1), (0, x2), (9, 0), (9, 0)]) rfl ?_
  refine cs_film (by decide) (by omega) hC hBs hBw x1 x2 (fun c1 => ?_) (fun c1 M1 Bs1 F1 R1 => ?_)
  · refine wp_aload_n dL_law_588 rfl rfl ?_
    refine wp_aload_n dL_law_589 rfl rfl ?_
    refine wp_iload_n dL_law_590 rfl rfl ?_
    refine wp_iconst dL_law_591 (by decide) ?_
    refine wp_iadd dL_law_592 (by omega) ?_
    refine wp_sld ⟨by omega, by omega⟩ dL_law_593 ?_
    rw [← hx1]
    refine wp_aload_n dL_law_594 rfl rfl ?_
    refine wp_iload_n dL_law_595 rfl rfl ?_
    refine wp_iconst dL_law_596 (by decide) ?_
    refine wp_iadd dL_law_597 (by omega) ?_
    refine wp_sld ⟨by omega, by omega⟩ dL_law_598 ?_
    rw [← hx2]
    refine wp_callV0 (d' := d - 1) cv_RL_84 69 rfl [(0, x1), (0, x2)] [(0, (-2))] rfl rfl (Or.inl ⟨_, _, rfl, by decide, rfl, by omega, by omega⟩) (by omega) (Nat.le_of_ble_eq_true rfl) dL_law_599 rfl (Nat.le_of_ble_eq_true rfl) (by omega) (loc1 := [(2, 69), (0, x1), (0, x2), (9, 0)]) rfl ?_
    refine cm_film (by decide) hJ (by omega) hBm hBw x1 x2 (fun _ => ?_) (fun h => absurd h c1)
    refine wp_icmp_eq (tgt := 968) dL_law_602 (by decide) (fun _ => ?_) (fun h => absurd h (by decide))
    exact hk M A K B (hV.le (by omega))
  · have J1 := hV.mj (F1.mono (fun i j v => (ls_VF i j v).2.1)) R1
    have C1 : CJ M1 A := hC.fr F1 R1 (fun i j v => (ls_VF i j v).2.2.1)
    have Bm1 : Rms M1 B := hBm.fr F1 (fun i j v => by have := (ls_VF i j v).2.1; unfold VCl at this; unfold VMh; omega)
    refine wp_aload_n dL_law_588 rfl rfl ?_
    refine wp_aload_n dL_law_589 rfl rfl ?_
    refine wp_iload_n dL_law_590 rfl rfl ?_
    refine wp_iconst dL_law_591 (by decide) ?_
    refine wp_iadd dL_law_592 (by omega) ?_
    refine wp_sld ⟨by omega, by omega⟩ dL_law_593 ?_
    rw [← hx1]
    refine wp_aload_n dL_law_594 rfl rfl ?_
    refine wp_iload_n dL_law_595 rfl rfl ?_
    refine wp_iconst dL_law_596 (by decide) ?_
    refine wp_iadd dL_law_597 (by omega) ?_
    refine wp_sld ⟨by omega, by omega⟩ dL_law_598 ?_
    rw [← hx2]
    refine wp_callV0 (d' := d - 1) cv_RL_84 69 rfl [(0, x1), (0, x2)] [(0, x2)] rfl rfl (Or.inl ⟨_, _, rfl, by decide, rfl, by omega, by omega⟩) (by omega) (Nat.le_of_ble_eq_true rfl) dL_law_599 rfl (Nat.le_of_ble_eq_true rfl) (by omega) (loc1 := [(2, 69), (0, x1), (0, x2), (9, 0)]) rfl ?_
    refine cm_film (by decide) J1 (by omega) Bm1 hBw x1 x2 (fun h => absurd c1 h) (fun _ M2 J2 Bm2 F2 => ?_)
    refine wp_icmp_eq (tgt := 968) dL_law_602 (by decide) (fun _ => ?_) (fun h => absurd rfl h)
    have FL : Fr VLs M M2 := (F1.mono (fun i j v => (ls_VF i j v).1)).tr (F2.mono (fun i j v => (ls_VMf i j v).1))
    have C2 : CJ M2 A := C1.mdl (F2.mono (fun i j v => (ls_VMf i j v).2.1)) J2.1
    have Bs2 : Rs M2 (flmB (evC M) x1.toNat x2.toNat 0 A (layB B x1.toNat 0 x2)) := Bs1.fr F2 (fun i j v => (ls_VMf i j v).2.2.1)
    exact hk M2 A K _ (hV.sheet FL C2 J2 ⟨Bs2, Bm2, Ws.flm _ _ _ _ _ _ (hBw.lay _ (by omega))⟩ (sq_0 hSq ((F1.mono (fun i j v => (ls_VF i j v).2.2.2)).tr (F2.mono (fun i j v => (ls_VMf i j v).2.2.2)))))
def VB9i (i j : Nat) : Prop := VB_9 i j ∨ (i = 1 ∧ j = 3)
theorem vb9_1 : ∀ i j, VB9i i j → VCl i j ∧ (VN i j ∧ ¬ ((i = 2 ∧ j < 4) ∨ (2 < i ∧ i ≤ 8))) ∧ Vq i j ∧ ¬ VS i j ∧ ¬ VMh i j ∧ ¬ VTp i j := by
  intro i j h
  unfold VB9i VB_9 at h
  unfold VCl VN Vq VS VMh VTp VX
  omega
theorem vmk_1 : ∀ i j, VMk i j → 69 ≤ i ∧ Vq i j ∧ ¬ VS i j ∧ ¬ VMh i j ∧ ¬ VTp i j ∧ VN i j := by
  intro i j h
  unfold VMk at h
  unfold Vq VS VMh VTp VN
  omega
set_option maxRecDepth 20000 in
set_option maxHeartbeats 4000000 in
theorem op_image {l : Launch} {g : Gw} {d : Nat} (hd : 100 ≤ d) (hL3 : g.2.2.2.2.1 100 ≤ 3072) {i : Nat} (hi : i + 6 ≤ g.2.2.2.2.1 100) {M : Mm} {A K : Ls} {B : Mm} {sq : Int} (hV : IV M A K B sq) (hsq : sq ≤ 100000) {Q : Option Wd → Mm → Prop} (hk : ∀ M2 A2 K2 B2, IV M2 A2 K2 B2 (sq + 20) → Wp l g d 0 0 90 m_L_law 968 [] [(2, 1015), (2, 1), (2, 69), (0, (i : Int))] M2 Q) : Wp l g d 0 0 90 m_L_law 684 [] [(2, 1015), (2, 1), (2, 69), (0, (i : Int))] M Q := by
  obtain ⟨x1, hx1⟩ : ∃ x, x = (scI g ((i : Int) + 1).toNat).toInt := ⟨_, rfl⟩
  obtain ⟨x2, hx2⟩ : ∃ x, x = (scI g ((i : Int) + 2).toNat).toInt := ⟨_, rfl⟩
  obtain ⟨x3, hx3⟩ : ∃ x, x = (scI g ((i : Int) + 3).toNat).toInt := ⟨_, rfl⟩
  obtain ⟨x4, hx4⟩ : ∃ x, x = (scI g ((i : Int) + 4).toNat).toInt := ⟨_, rfl⟩
  obtain ⟨x5, hx5⟩ : ∃ x, x = (scI g ((i : Int) + 5).toNat).toInt := ⟨_, rfl⟩
  have hr1 := sc_r g ((i : Int) + 1).toNat
  have hr2 := sc_r g ((i : Int) + 2).toNat
  have hr3 := sc_r g ((i : Int) + 3).toNat
  have hr4 := sc_r g ((i : Int) + 4).toNat
  have hr5 := sc_r g ((i : Int) + 5).toNat
  rw [← hx1] at hr1
  rw [← hx2] at hr2
  rw [← hx3] at hr3
  rw [← hx4] at hr4
  rw [← hx5] at hr5
  obtain ⟨hC, hJ, h0, hIm, h25, hTp, ⟨hBs, hBm, hBw⟩, hSq⟩ := id hV
  obtain ⟨hR, hX, hA, hW, hr⟩ := id hC
  refine wp_aload_n dL_law_684 rfl rfl ?_
  refine wp_callV0 (d' := d - 1) cv_RL_94 1 rfl [] [] rfl rfl (Or.inl ⟨_, _, rfl, by decide, rfl, by omega, by omega⟩) (by omega) (Nat.le_of_ble_eq_true rfl) dL_law_685 rfl (Nat.le_of_ble_eq_true rfl) (by omega) (loc1 := [(2, 1)]) rfl ?_
  refine cs_image (by decide) (by omega) hR ?_
  rw [hA.2.2.1]
  have F1 : Fr VB9i M (mu (becM_9_2 M) 1 3 1) := ((becF_9_2 M).mono (fun i j v => Or.inl v)).put (Or.inr ⟨rfl, rfl⟩)
  have R1 : SR (mu (becM_9_2 M) 1 3 1) := hR.frL F1 (by unfold VB9i VB_9; decide +kernel)
  have A9 : Rc (mu (becM_9_2 M) 1 3 1) 9 A := (becA_9_2 hA hW).frV (Fr.rf.put (V := fun i j => i = 1 ∧ j = 3) ⟨rfl, rfl⟩) (fun i j v => by omega)
  have e13 : (mu (becM_9_2 M) 1 3 1) 1 3 = 1 := mu_self _ _ _ _
  generalize (mu (becM_9_2 M) 1 3 1) = M1 at F1 R1 A9 e13 ⊢
  have J1 := hV.mj (F1.mono (fun i j v => (vb9_1 i j v).1)) R1
  have C1 : CJ M1 A := hC.fr F1 R1 (fun i j v => (vb9_1 i j v).2.1)
  refine wp_aload_n dL_law_688 rfl rfl ?_
  refine wp_callV0 (d' := d - 1) cv_RL_97 69 rfl [] [(0, (A.1 2))] rfl rfl (Or.inl ⟨_, _, rfl, by decide, rfl, by omega, by omega⟩) (by omega) (Nat.le_of_ble_eq_true rfl) dL_law_689 rfl (Nat.le_of_ble_eq_true rfl) (by omega) (loc1 := [(2, 69), (9, 0)]) rfl ?_
  refine cm_image (by decide) J1 (fun M2 J2 K2 F2 => ?_)
  refine wp_icmp_eq (tgt := 968) dL_law_692 (by decide) (fun _ => ?_) (fun h => absurd rfl h)
  have C2 : CJ M2 A := C1.mdl (F2.mono (fun i j v => (vmk_1 i j v).1)) J2.1
  have FN : Fr VN M M2 := (F1.mono (fun i j v => (vb9_1 i j v).2.1.1)).tr (F2.mono (fun i j v => (vmk_1 i j v).2.2.2.2.2))
  have ev : evC M2 = evC M := evC_frN FN
  have e251 : M2 25 1 = M 25 1 := (F2 25 1 (by unfold VMk; omega)).trans (F1 25 1 (by unfold VB9i VB_9; omega))
  have e693 : M2 69 3 = M 69 3 := (F2 69 3 (by unfold VMk; omega)).trans (F1 69 3 (by unfold VB9i VB_9; omega))
  have I2 : IMG M2 A A := Or.inr ⟨(F2 1 3 (by unfold VMk; omega)).trans e13, A9.frV F2 (fun i j v => by have := (vmk_1 i j v).1; omega), K2, hW, ⟨hr.1, by rw [e251]; exact hr.2⟩, Int.le_refl _, fun _ _ => rfl, h0⟩
  exact hk M2 A A B ⟨C2, by rw [ev]; exact J2, h0, I2, by rw [e251, e693]; exact h25, (hTp.fr F1 (fun i j v => (vb9_1 i j v).2.2.2.2.2)).fr F2 (fun i j v => (vmk_1 i j v).2.2.2.2.1), ⟨(hBs.fr F1 (fun i j v => (vb9_1 i j v).2.2.2.1)).fr F2 (fun i j v => (vmk_1 i j v).2.2.1), (hBm.fr F1 (fun i j v => (vb9_1 i j v).2.2.2.2.1)).fr F2 (fun i j v => (vmk_1 i j v).2.2.2.1), hBw⟩, sq_0 hSq ((F1.mono (fun i j v => (vb9_1 i j v).2.2.1)).tr (F2.mono (fun i j v => (vmk_1 i j v).2.1)))⟩
theorem vb2_1 : ∀ i j, VB_2 i j → VCl i j ∧ VN i j ∧ Vq i j ∧ ¬ VS i j ∧ ¬ VMh i j ∧ ¬ VTp i j ∧ ¬ VIm i j := by
  intro i j h
  unfold VB_2 at h
  unfold VCl VN Vq VS VMh VTp VIm VMk VX
  omega
theorem vml_1 : ∀ i j, VMl i j → 69 ≤ i ∧ Vq i j ∧ ¬ VS i j ∧ ¬ VMh i j ∧ ¬ VTp i j ∧ VN i j ∧ ¬ VIm i j := by
  intro i j h
  unfold VMl VMs at h
  unfold Vq VS VMh VTp VN VIm VMk
  omega
set_option maxRecDepth 20000 in
set_option maxHeartbeats 4000000 in
theorem op_back {l : Launch} {g : Gw} {d : Nat} (hd : 100 ≤ d) (hL3 : g.2.2.2.2.1 100 ≤ 3072) {i : Nat} (hi : i + 6 ≤ g.2.2.2.2.1 100) {M : Mm} {A K : Ls} {B : Mm} {sq : Int} (hV : IV M A K B sq) (hsq : sq ≤ 100000) {Q : Option Wd → Mm → Prop} (hk : ∀ M2 A2 K2 B2, IV M2 A2 K2 B2 (sq + 20) → Wp l g d 0 0 90 m_L_law 968 [] [(2, 1015), (2, 1), (2, 69), (0, (i : Int))] M2 Q) : Wp l g d 0 0 90 m_L_law 697 [] [(2, 1015), (2, 1), (2, 69), (0, (i : Int))] M Q := by
  obtain ⟨x1, hx1⟩ : ∃ x, x = (scI g ((i : Int) + 1).toNat).toInt := ⟨_, rfl⟩
  obtain ⟨x2, hx2⟩ : ∃ x, x = (scI g ((i : Int) + 2).toNat).toInt := ⟨_, rfl⟩
  obtain ⟨x3, hx3⟩ : ∃ x, x = (scI g ((i : Int) + 3).toNat).toInt := ⟨_, rfl⟩
  obtain ⟨x4, hx4⟩ : ∃ x, x = (scI g ((i : Int) + 4).toNat).toInt := ⟨_, rfl⟩
  obtain ⟨x5, hx5⟩ : ∃ x, x = (scI g ((i : Int) + 5).toNat).toInt := ⟨_, rfl⟩
  have hr1 := sc_r g ((i : Int) + 1).toNat
  have hr2 := sc_r g ((i : Int) + 2).toNat
  have hr3 := sc_r g ((i : Int) + 3).toNat
  have hr4 := sc_r g ((i : Int) + 4).toNat
  have hr5 := sc_r g ((i : Int) + 5).toNat
  rw [← hx1] at hr1
  rw [← hx2] at hr2
  rw [← hx3] at hr3
  rw [← hx4] at hr4
  rw [← hx5] at hr5
  obtain ⟨hC, hJ, h0, hIm, h25, hTp, ⟨hBs, hBm, hBw⟩, hSq⟩ := id hV
  obtain ⟨hR, hX, hA, hW, hr⟩ := id hC
  refine wp_aload_n dL_law_697 rfl rfl ?_
  refine wp_callV0 (d' := d - 1) cv_RL_98 1 rfl [] [] rfl rfl (Or.inl ⟨_, _, rfl, by decide, rfl, by omega, by omega⟩) (by omega) (Nat.le_of_ble_eq_true rfl) dL_law_698 rfl (Nat.le_of_ble_eq_true rfl) (by omega) (loc1 := [(2, 1)]) rfl ?_
  refine cs_back (by decide) (by omega) hR (fun c1 => ?_) (fun c1 => ?_)
  · have b46 : M 69 46 = -1 := hIm.elim (fun h => h.2) (fun h => absurd (h.1.symm.trans c1) (by decide))
    refine wp_aload_n dL_law_701 rfl rfl ?_
    refine wp_callV0 (d' := d - 1) cv_RL_101 69 rfl [] [(0, (-3))] rfl rfl (Or.inl ⟨_, _, rfl, by decide, rfl, by omega, by omega⟩) (by omega) (Nat.le_of_ble_eq_true rfl) dL_law_702 rfl (Nat.le_of_ble_eq_true rfl) (by omega) (loc1 := [(2, 69), (9, 0)]) rfl ?_
    refine cm_back (by decide) hJ (fun _ => ?_) (K := A) (fun h => absurd b46 h) (fun h => absurd b46 h)
    refine wp_icmp_eq (tgt := 968) dL_law_705 (by decide) (fun _ => ?_) (fun h => absurd h (by decide))
    exact hk M A K B (hV.le (by omega))
  · obtain ⟨b1, b2, b3, b4, b5, b6, b7, b8⟩ := hIm.resolve_left (fun h => c1 h.1)
    rw [b2.2.2.1]
    have F1 := becF_2_9 M
    have R1 := becR_2_9 hR
    have A1 := becA_2_9 b2 b4
    generalize becM_2_9 M = M1 at F1 R1 A1 ⊢
    have J1 := hV.mj (F1.mono (fun i j v => (vb2_1 i j v).1)) R1
    have C1 : CJ M1 K := hC.of F1 (fun i j v => (vb2_1 i j v).2.1) R1 A1 b4 b5
    have K1 : KPm M1 K := b3.fr F1 (fun i j v w => (vb2_1 i j v).2.2.2.2.2.2 (Or.inr (Or.inr (Or.inr w))))
    have e3 : M1 69 3 = M 25 1 := (F1 69 3 (by unfold VB_2; omega)).trans h25.symm
    have n46 : M1 69 46 ≠ -1 := by rw [K1.2.1]; have := b4.1; omega
    refine wp_aload_n dL_law_701 rfl rfl ?_
    refine wp_callV0 (d' := d - 1) cv_RL_101 69 rfl [] [(0, (K.1 2))] rfl rfl (Or.inl ⟨_, _, rfl, by decide, rfl, by omega, by omega⟩) (by omega) (Nat.le_of_ble_eq_true rfl) dL_law_702 rfl (Nat.le_of_ble_eq_true rfl) (by omega) (loc1 := [(2, 69), (9, 0)]) rfl ?_
    refine cm_back (by decide) J1 (fun h => absurd h n46) (K := K) (fun _ => ⟨K1, b4, ⟨b5.1, by rw [e3]; exact b5.2⟩, b6, b7⟩) (fun _ M2 J2 F2 => ?_)
    refine wp_icmp_eq (tgt := 968) dL_law_705 (by decide) (fun _ => ?_) (fun h => absurd rfl h)
    have C2 : CJ M2 K := C1.mdl (F2.mono (fun i j v => (vml_1 i j v).1)) J2.1
    have FN : Fr VN M M2 := (F1.mono (fun i j v => (vb2_1 i j v).2.1)).tr (F2.mono (fun i j v => (vml_1 i j v).2.2.2.2.2.1))
    have ev : evC M2 = evC M := evC_frN FN
    have e251 : M2 25 1 = M 25 1 := (F2 25 1 (by unfold VMl VMs; omega)).trans (F1 25 1 (by unfold VB_2; omega))
    have e693 : M2 69 3 = M 25 1 := (F2 69 3 (by unfold VMl VMs; omega)).trans e3
    have I0 : IMG M K K := Or.inr ⟨b1, b2, b3, b4, b5, Int.le_refl _, fun _ _ => rfl, b8⟩
    have I2 : IMG M2 K K := I0.fr ((F1.mono (fun i j v => (vb2_1 i j v).2.2.2.2.2.2)).tr (F2.mono (fun i j v => (vml_1 i j v).2.2.2.2.2.2))) (fun i j v => v) (by omega)
    exact hk M2 K K B ⟨C2, by rw [ev]; exact J2, b8, I2, by rw [e251, e693], (hTp.fr F1 (fun i j v => (vb2_1 i j v).2.2.2.2.2.1)).fr F2 (fun i j v => (vml_1 i j v).2.2.2.2.1), ⟨(hBs.fr F1 (fun i j v => (vb2_1 i j v).2.2.2.1)).fr F2 (fun i j v => (vml_1 i j v).2.2.1), (hBm.fr F1 (fun i j v => (vb2_1 i j v).2.2.2.2.1)).fr F2 (fun i j v => (vml_1 i j v).2.2.2.1), hBw⟩, sq_0 hSq ((F1.mono (fun i j v => (vb2_1 i j v).2.2.1)).tr (F2.mono (fun i j v => (vml_1 i j v).2.1)))⟩
def VFc (i j : Nat) : Prop := i = 24 ∨ (i = 23 ∧ j = 1)
def VFm (i j : Nat) : Prop := i = 72 ∨ (i = 69 ∧ j = 6)
theorem vfc_1 : ∀ i j, VFc i j → VCl i j ∧ (VN i j ∧ ¬ ((i = 2 ∧ j < 4) ∨ (2 < i ∧ i ≤ 8))) ∧ Vq i j ∧ ¬ VS i j ∧ ¬ VMh i j ∧ ¬ VIm i j := by
  intro i j h
  unfold VFc at h
  unfold VCl VN Vq VS VMh VIm VMk VX
  omega
theorem vfm_1 : ∀ i j, VFm i j → 69 ≤ i ∧ Vq i j ∧ ¬ VS i j ∧ ¬ VMh i j ∧ ¬ VIm i j ∧ VN i j ∧ VMn i j := by
  intro i j h
  unfold VFm at h
  unfold Vq VS VMh VN VIm VMk VMn
  omega
theorem VFm.sr {M M' : Mm} (h : Fr VFm M M') (hR : SR M) : SR M' := hR.frL h (by unfold VFm; decide +kernel)
set_option maxRecDepth 20000 in
set_option maxHeartbeats 4000000 in
theorem op_feed {l : Launch} {g : Gw} {d : Nat} (hd : 100 ≤ d) (hL3 : g.2.2.2.2.1 100 ≤ 3072) {i : Nat} (hi : i + 6 ≤ g.2.2.2.2.1 100) {M : Mm} {A K : Ls} {B : Mm} {sq : Int} (hV : IV M A K B sq) (hsq : sq ≤ 100000) {Q : Option Wd → Mm → Prop} (hk : ∀ M2 A2 K2 B2, IV M2 A2 K2 B2 (sq + 20) → Wp l g d 0 0 90 m_L_law 968 [] [(2, 1015), (2, 1), (2, 69), (0, (i : Int))] M2 Q) : Wp l g d 0 0 90 m_L_law 265 [] [(2, 1015), (2, 1), (2, 69), (0, (i : Int))] M Q := by
  obtain ⟨x1, hx1⟩ : ∃ x, x = (scI g ((i : Int) + 1).toNat).toInt := ⟨_, rfl⟩
  obtain ⟨x2, hx2⟩ : ∃ x, x = (scI g ((i : Int) + 2).toNat).toInt := ⟨_, rfl⟩
  obtain ⟨x3, hx3⟩ : ∃ x, x = (scI g ((i : Int) + 3).toNat).toInt := ⟨_, rfl⟩
  obtain ⟨x4, hx4⟩ : ∃ x, x = (scI g ((i : Int) + 4).toNat).toInt := ⟨_, rfl⟩
  obtain ⟨x5, hx5⟩ : ∃ x, x = (scI g ((i : Int) + 5).toNat).toInt := ⟨_, rfl⟩
  have hr1 := sc_r g ((i : Int) + 1).toNat
  have hr2 := sc_r g ((i : Int) + 2).toNat
  have hr3 := sc_r g ((i : Int) + 3).toNat
  have hr4 := sc_r g ((i : Int) + 4).toNat
  have hr5 := sc_r g ((i : Int) + 5).toNat
  rw [← hx1] at hr1
  rw [← hx2] at hr2
  rw [← hx3] at hr3
  rw [← hx4] at hr4
  rw [← hx5] at hr5
  obtain ⟨hC, hJ, h0, hIm, h25, hTp, ⟨hBs, hBm, hBw⟩, hSq⟩ := id hV
  obtain ⟨hR, hX, hA, hW, hr⟩ := id hC
  refine wp_aload_n dL_law_265 rfl rfl ?_
  refine wp_aload_n dL_law_266 rfl rfl ?_
  refine wp_iload_n dL_law_267 rfl rfl ?_
  refine wp_iconst dL_law_268 (by decide) ?_
  refine wp_iadd dL_law_269 (by omega) ?_
  refine wp_sld ⟨by omega, by omega⟩ dL_law_270 ?_
  rw [← hx1]
  refine wp_callV0 (d' := d - 1) cv_RL_27 1 rfl [(0, x1)] [] rfl rfl (Or.inl ⟨_, _, rfl, by decide, rfl, by omega, by omega⟩) (by omega) (Nat.le_of_ble_eq_true rfl) dL_law_271 rfl (Nat.le_of_ble_eq_true rfl) (by omega) (loc1 := [(2, 1), (0, x1)]) rfl ?_
  refine cs_feed (by decide) (by omega) hR x1 hTp.2.1 hTp.2.2.1 (fun c1 => ?_) (fun c1 c2 => ?_) (fun c1 c2 => ?_)
  · refine wp_aload_n dL_law_274 rfl rfl ?_
    refine wp_aload_n dL_law_275 rfl rfl ?_
    refine wp_iload_n dL_law_276 rfl rfl ?_
    refine wp_iconst dL_law_277 (by decide) ?_
    refine wp_iadd dL_law_278 (by omega) ?_
    refine wp_sld ⟨by omega, by omega⟩ dL_law_279 ?_
    rw [← hx1]
    refine wp_callV0 (d' := d - 1) cv_RL_31 69 rfl [(0, x1)] [(0, (-2))] rfl rfl (Or.inl ⟨_, _, rfl, by decide, rfl, by omega, by omega⟩) (by omega) (Nat.le_of_ble_eq_true rfl) dL_law_280 rfl (Nat.le_of_ble_eq_true rfl) (by omega) (loc1 := [(2, 69), (0, x1)]) rfl ?_
    have e6 : M 69 6 = M 23 1 := hTp.1.symm
    refine cm_feed (by decide) (by omega) hR x1 (by rw [e6]; exact hTp.2.1) (by rw [e6]; exact hTp.2.2.1) (fun _ => ?_) (fun h => absurd h c1) (fun h => absurd h c1)
    refine wp_icmp_eq (tgt := 968) dL_law_283 (by decide) (fun _ => ?_) (fun h => absurd h (by decide))
    exact hk M A K B (hV.le (by omega))
  · refine wp_aload_n dL_law_274 rfl rfl ?_
    refine wp_aload_n dL_law_275 rfl rfl ?_
    refine wp_iload_n dL_law_276 rfl rfl ?_
    refine wp_iconst dL_law_277 (by decide) ?_
    refine wp_iadd dL_law_278 (by omega) ?_
    refine wp_sld ⟨by omega, by omega⟩ dL_law_279 ?_
    rw [← hx1]
    refine wp_callV0 (d' := d - 1) cv_RL_31 69 rfl [(0, x1)] [(0, (-4))] rfl rfl (Or.inl ⟨_, _, rfl, by decide, rfl, by omega, by omega⟩) (by omega) (Nat.le_of_ble_eq_true rfl) dL_law_280 rfl (Nat.le_of_ble_eq_true rfl) (by omega) (loc1 := [(2, 69), (0, x1)]) rfl ?_
    have e6 : M 69 6 = M 23 1 := hTp.1.symm
    refine cm_feed (by decide) (by omega) hR x1 (by rw [e6]; exact hTp.2.1) (by rw [e6]; exact hTp.2.2.1) (fun h => absurd c1 h) (fun _ _ => ?_) (fun _ h => False.elim (by omega))
    refine wp_icmp_eq (tgt := 968) dL_law_283 (by decide) (fun _ => ?_) (fun h => absurd h (by decide))
    exact hk M A K B (hV.le (by omega))
  · have F1 : Fr VFc M (mu (mu M 24 (M 23 1).toNat x1) 23 1 (M 23 1 + 1)) := (Fr.rf.put (Or.inl rfl)).put (Or.inr ⟨rfl, rfl⟩)
    have R1 : SR (mu (mu M 24 (M 23 1).toNat x1) 23 1 (M 23 1 + 1)) := hR.frL F1 (by unfold VFc; decide +kernel)
    have t1 : (mu (mu M 24 (M 23 1).toNat x1) 23 1 (M 23 1 + 1)) 23 1 = M 23 1 + 1 := mu_self _ _ _ _
    have t2 : (mu (mu M 24 (M 23 1).toNat x1) 23 1 (M 23 1 + 1)) 24 (M 23 1).toNat = x1 := (mu_ne _ _ _ (by decide) _).trans (mu_self _ _ _ _)
    have t3 : ∀ i : Nat, i ≠ (M 23 1).toNat → (mu (mu M 24 (M 23 1).toNat x1) 23 1 (M 23 1 + 1)) 24 i = M 24 i := fun i hi => (mu_ne _ _ _ (by decide) _).trans (mu_nj _ _ _ hi)
    have e6 : (mu (mu M 24 (M 23 1).toNat x1) 23 1 (M 23 1 + 1)) 69 6 = M 23 1 := hTp.1.symm
    have e72 : ∀ i, (mu (mu M 24 (M 23 1).toNat x1) 23 1 (M 23 1 + 1)) 72 i = M 72 i := fun i => rfl
    generalize (mu (mu M 24 (M 23 1).toNat x1) 23 1 (M 23 1 + 1)) = M1 at F1 R1 t1 t2 t3 e6 e72 ⊢
    have J1 := hV.mj (F1.mono (fun i j v => (vfc_1 i j v).1)) R1
    have C1 : CJ M1 A := hC.fr F1 R1 (fun i j v => (vfc_1 i j v).2.1)
    refine wp_aload_n dL_law_274 rfl rfl ?_
    refine wp_aload_n dL_law_275 rfl rfl ?_
    refine wp_iload_n dL_law_276 rfl rfl ?_
    refine wp_iconst dL_law_277 (by decide) ?_
    refine wp_iadd dL_law_278 (by omega) ?_
    refine wp_sld ⟨by omega, by omega⟩ dL_law_279 ?_
    rw [← hx1]
    refine wp_callV0 (d' := d - 1) cv_RL_31 69 rfl [(0, x1)] [(0, (M 23 1 + 1))] rfl rfl (Or.inl ⟨_, _, rfl, by decide, rfl, by omega, by omega⟩) (by omega) (Nat.le_of_ble_eq_true rfl) dL_law_280 rfl (Nat.le_of_ble_eq_true rfl) (by omega) (loc1 := [(2, 69), (0, x1)]) rfl ?_
    refine cm_feed (by decide) (by omega) R1 x1 (by rw [e6]; exact hTp.2.1) (by rw [e6]; exact hTp.2.2.1) (fun h => absurd c1 h) (fun _ h => False.elim (by omega)) (fun _ _ => ?_)
    rw [e6]
    have F2 : Fr VFm M1 (mu (mu M1 72 (M 23 1).toNat x1) 69 6 (M 23 1 + 1)) := (Fr.rf.put (Or.inl rfl)).put (Or.inr ⟨rfl, rfl⟩)
    have u1 : (mu (mu M1 72 (M 23 1).toNat x1) 69 6 (M 23 1 + 1)) 69 6 = M 23 1 + 1 := mu_self _ _ _ _
    have u2 : (mu (mu M1 72 (M 23 1).toNat x1) 69 6 (M 23 1 + 1)) 72 (M 23 1).toNat = x1 := (mu_ne _ _ _ (by decide) _).trans (mu_self _ _ _ _)
    have u3 : ∀ i : Nat, i ≠ (M 23 1).toNat → (mu (mu M1 72 (M 23 1).toNat x1) 69 6 (M 23 1 + 1)) 72 i = M1 72 i := fun i hi => (mu_ne _ _ _ (by decide) _).trans (mu_nj _ _ _ hi)
    generalize (mu (mu M1 72 (M 23 1).toNat x1) 69 6 (M 23 1 + 1)) = M2 at F2 u1 u2 u3 ⊢
    refine wp_icmp_eq (tgt := 968) dL_law_283 (by decide) (fun _ => ?_) (fun h => absurd rfl h)
    have J2 : MJ M2 A (evC M) := J1.frn (F2.mono (fun i j v => (vfm_1 i j v).2.2.2.2.2.2)) (VFm.sr F2 R1)
    have C2 : CJ M2 A := C1.mdl (F2.mono (fun i j v => (vfm_1 i j v).1)) J2.1
    have FN : Fr VN M M2 := (F1.mono (fun i j v => (vfc_1 i j v).2.1.1)).tr (F2.mono (fun i j v => (vfm_1 i j v).2.2.2.2.2.1))
    have ev : evC M2 = evC M := evC_frN FN
    have e251 : M2 25 1 = M 25 1 := (F2 25 1 (by unfold VFm; omega)).trans (F1 25 1 (by unfold VFc; omega))
    have e693 : M2 69 3 = M 69 3 := (F2 69 3 (by unfold VFm; omega)).trans (F1 69 3 (by unfold VFc; omega))
    have e231 : M2 23 1 = M 23 1 + 1 := (F2 23 1 (by unfold VFm; omega)).trans t1
    have T2 : TPE M2 := by
      refine ⟨by rw [e231, u1], by rw [e231]; have := hTp.2.1; omega, by rw [e231]; omega, fun i hi => ?_⟩
      rw [e231] at hi
      rw [F2 24 i (by unfold VFm; omega)]
      by_cases c : i = (M 23 1).toNat
      · subst c
        rw [t2, u2]
        exact ⟨rfl, c1⟩
      · rw [t3 i c, u3 i c, e72 i]
        exact hTp.2.2.2 i (by have := hTp.2.1; omega)
    exact hk M2 A K B ⟨C2, by rw [ev]; exact J2, h0, (hIm.fr F1 (fun i j v => (vfc_1 i j v).2.2.2.2.2) (by rw [F1 25 1 (by unfold VFc; omega)]; exact Int.le_refl _)).fr F2 (fun i j v => (vfm_1 i j v).2.2.2.2.1) (by rw [F2 25 1 (by unfold VFm; omega)]; exact Int.le_refl _), by rw [e251, e693]; exact h25, T2, ⟨(hBs.fr F1 (fun i j v => (vfc_1 i j v).2.2.2.1)).fr F2 (fun i j v => (vfm_1 i j v).2.2.1), (hBm.fr F1 (fun i j v => (vfc_1 i j v).2.2.2.2.1)).fr F2 (fun i j v => (vfm_1 i j v).2.2.2.1), hBw⟩, sq_0 hSq ((F1.mono (fun i j v => (vfc_1 i j v).2.2.1)).tr (F2.mono (fun i j v => (vfm_1 i j v).2.1)))⟩
