/-! ===== the law: a call of the class, the same call of the model ===== -/
def Vq (i j : Nat) : Prop := i ≠ 52 ∧ i ≠ 55
theorem CJ.of {M M1 : Mm} {A A2 : Ls} {V : Nat → Nat → Prop} (h : CJ M A) (f : Fr V M M1) (hv : ∀ i j, V i j → VN i j) (hR : SR M1) (hA : Rc M1 2 A2) (hW : Wf A2) (hr : 0 ≤ A2.1 1 ∧ A2.1 1 < M 25 1) : CJ M1 A2 := by
  have fn := f.mono hv
  exact ⟨hR, h.2.1.frN fn, hA, hW, hr.1, by rw [fn 25 1 (by unfold VN VX; omega)]; exact hr.2⟩
theorem nq_VX : ∀ i j, VX i j → Vq i j := by
  intro i j h
  unfold VX at h
  unfold Vq
  omega
theorem cj_VX : ∀ i j, VX i j → VN i j ∧ ¬ ((i = 2 ∧ j < 4) ∨ (2 < i ∧ i ≤ 8)) := by
  intro i j h
  unfold VX at h
  unfold VN VX
  omega
theorem vn_VX : ∀ i j, VX i j → VN i j := fun i j h => VLm.n i j (lm_VX i j h).1
theorem nq_VH : ∀ i j, VH i j → Vq i j := by
  intro i j h
  unfold VH VX at h
  unfold Vq
  omega
theorem vn_VH : ∀ i j, VH i j → VN i j := fun i j h => VLm.n i j (lm_VH i j h).1
theorem nq_VW : ∀ i j, VW i j → Vq i j := by
  intro i j h
  unfold VW VX at h
  unfold Vq
  omega
theorem cj_VW : ∀ i j, VW i j → VN i j ∧ ¬ ((i = 2 ∧ j < 4) ∨ (2 < i ∧ i ≤ 8)) := by
  intro i j h
  unfold VW VX at h
  unfold VN VX
  omega
theorem vn_VW : ∀ i j, VW i j → VN i j := fun i j h => VLm.n i j (lm_VW i j h).1
theorem cj_VI : ∀ i j, VI i j → VN i j ∧ ¬ ((i = 2 ∧ j < 4) ∨ (2 < i ∧ i ≤ 8)) := by
  intro i j h
  unfold VI VX VY at h
  unfold VN VX
  omega
theorem vn_VI : ∀ i j, VI i j → VN i j := fun i j h => VLm.n i j (lm_VI i j h).1
theorem cj_VU : ∀ i j, VU i j → VN i j ∧ ¬ ((i = 2 ∧ j < 4) ∨ (2 < i ∧ i ≤ 8)) := by
  intro i j h
  unfold VU VW VI VX VY at h
  unfold VN VX
  omega
theorem vn_VU : ∀ i j, VU i j → VN i j := fun i j h => VLm.n i j (lm_VU i j h).1
theorem nq_V2 : ∀ i j, V2 i j → Vq i j := by
  intro i j h
  unfold V2 at h
  unfold Vq
  omega
theorem vn_V2 : ∀ i j, V2 i j → VN i j := fun i j h => VLm.n i j (lm_V2 i j h).1
theorem nq_VG2 : ∀ i j, (VG 2) i j → Vq i j := by
  intro i j h
  unfold VG VX at h
  unfold Vq
  omega
theorem vn_VG2 : ∀ i j, (VG 2) i j → VN i j := fun i j h => VLm.n i j (lm_VG2 i j h).1
theorem nq_VMs : ∀ i j, VMs i j → Vq i j := fun i j h => by have := (lm_VMs i j h).2; unfold Vq; omega
theorem g_VMs {M M2 : Mm} (f : Fr VMs M M2) : Fr (fun i _ => 69 ≤ i) M M2 := f.mono (fun i j v => (lm_VMs i j v).2)
theorem nq_VMl : ∀ i j, VMl i j → Vq i j := fun i j h => by have := (lm_VMl i j h).2; unfold Vq; omega
theorem g_VMl {M M2 : Mm} (f : Fr VMl M M2) : Fr (fun i _ => 69 ≤ i) M M2 := f.mono (fun i j v => (lm_VMl i j v).2)
theorem nq_VMt : ∀ i j, VMt i j → Vq i j := fun i j h => by have := (lm_VMt i j h).2; unfold Vq; omega
theorem g_VMt {M M2 : Mm} (f : Fr VMt M M2) : Fr (fun i _ => 69 ≤ i) M M2 := f.mono (fun i j v => (lm_VMt i j v).2)
theorem nq_VMo : ∀ i j, VMo i j → Vq i j := fun i j h => by have := (lm_VMo i j h).2; unfold Vq; omega
theorem g_VMo {M M2 : Mm} (f : Fr VMo M M2) : Fr (fun i _ => 69 ≤ i) M M2 := f.mono (fun i j v => (lm_VMo i j v).2)
theorem nq_VMp : ∀ i j, VMp i j → Vq i j := fun i j h => by have := (lm_VMp i j h).2; unfold Vq; omega
theorem g_VMp {M M2 : Mm} (f : Fr VMp M M2) : Fr (fun i _ => 69 ≤ i) M M2 := f.mono (fun i j v => (lm_VMp i j v).2)
theorem nq_VMy : ∀ i j, VMy i j → Vq i j := fun i j h => by have := (lm_VMy i j h).2; unfold Vq; omega
theorem g_VMy {M M2 : Mm} (f : Fr VMy M M2) : Fr (fun i _ => 69 ≤ i) M M2 := f.mono (fun i j v => (lm_VMy i j v).2)
theorem SQ.of {M : Mm} {sq : Int} (h : SQ0 M ∧ M 52 5 ≤ sq) (hs : sq ≤ 100000) : SQ M := ⟨h.1.1, by have := h.2; omega, h.1.2⟩
theorem sq_1 {M M1 M2 : Mm} {sq : Int} (h : SQ0 M ∧ M 52 5 ≤ sq) (h1 : SQ1 M M1 1) (f : Fr Vq M1 M2) : SQ0 M2 ∧ M2 52 5 ≤ sq + 20 := by
  have e1 : M2 52 5 = M1 52 5 := f 52 5 (by unfold Vq; omega)
  have e2 : ∀ c, M2 55 c = M1 55 c := fun c => f 55 c (by unfold Vq; omega)
  refine ⟨⟨by rw [e1, h1.1]; have := h.1.1; omega, fun c hc => ?_⟩, by rw [e1, h1.1]; have := h.2; omega⟩
  rw [e1, e2]
  exact h1.2 c hc
theorem sq_n {M M1 M2 : Mm} {sq : Int} (h : SQ0 M ∧ M 52 5 ≤ sq) (h1 : SQn M M1 10) (f : Fr Vq M1 M2) : SQ0 M2 ∧ M2 52 5 ≤ sq + 20 := by
  have e1 : M2 52 5 = M1 52 5 := f 52 5 (by unfold Vq; omega)
  have e2 : ∀ c, M2 55 c = M1 55 c := fun c => f 55 c (by unfold Vq; omega)
  refine ⟨⟨by rw [e1]; have := h.1.1; have := h1.1; omega, fun c hc => ?_⟩, by rw [e1]; have := h.2; have := h1.2.1; omega⟩
  rw [e1, e2]
  exact h1.2.2 c hc
theorem sq_0 {M M2 : Mm} {sq : Int} (h : SQ0 M ∧ M 52 5 ≤ sq) (f : Fr Vq M M2) : SQ0 M2 ∧ M2 52 5 ≤ sq + 20 := SQ0.fr h f (fun i j v => v)
theorem IV.le {M : Mm} {A K : Ls} {B : Mm} {sq sq' : Int} (h : IV M A K B sq) (hs : sq ≤ sq') : IV M A K B sq' := by
  obtain ⟨a1, a2, a3, a4, a5, a6, a7, a8, a9⟩ := h
  exact ⟨a1, a2, a3, a4, a5, a6, a7, a8, by omega⟩
set_option maxRecDepth 20000 in
set_option maxHeartbeats 4000000 in
theorem op_told {l : Launch} {g : Gw} {d : Nat} (hd : 100 ≤ d) (hL3 : g.2.2.2.2.1 100 ≤ 3072) {i : Nat} (hi : i + 6 ≤ g.2.2.2.2.1 100) {M : Mm} {A K : Ls} {B : Mm} {sq : Int} (hV : IV M A K B sq) (hsq : sq ≤ 100000) {Q : Option Wd → Mm → Prop} (hk : ∀ M2 A2 K2 B2, IV M2 A2 K2 B2 (sq + 20) → Wp l g d 0 0 90 m_L_law 968 [] [(2, 1015), (2, 1), (2, 69), (0, (i : Int))] M2 Q) : Wp l g d 0 0 90 m_L_law 232 [] [(2, 1015), (2, 1), (2, 69), (0, (i : Int))] M Q := by
  obtain ⟨x1, hx1⟩ : ∃ x, x = (scI g ((i : Int) + 1).toNat).toInt := ⟨_, rfl⟩
  obtain ⟨x2, hx2⟩ : ∃ x, x = (scI g ((i : Int) + 2).toNat).toInt := ⟨_, rfl⟩
  obtain ⟨x3, hx3⟩ : ∃ x, x = (scI g ((i : Int) + 3).toNat).toInt := ⟨_, rfl⟩
  obtain ⟨x4, hx4⟩ : ∃ x, x = (scI g ((i : Int) + 4).toNat).toInt := ⟨_, rfl⟩
  obtain ⟨x5, hx5⟩ : ∃ x, x = (scI g ((i : Int) + 5).toNat).toInt := ⟨_, rfl⟩
  have hr1 := sc_r g ((i : Int) + 1).toNat
  have hr2 := sc_r g ((i : Int) + 2).toNat
  have hr3 := sc_r g ((i : Int) + 3).toNat
  have hr4 := sc_r g ((i : Int) + 4).toNat
  have hr5 := sc_r g ((i : Int) + 5).toNat
  rw [← hx1] at hr1
  rw [← hx2] at hr2
  rw [← hx3] at hr3
  rw [← hx4] at hr4
  rw [← hx5] at hr5
  obtain ⟨hC, hJ, h0, hIm, h25, hTp, ⟨hBs, hBm, hBw⟩, hSq⟩ := id hV
  obtain ⟨hR, hX, hA, hW, hr⟩ := id hC
  refine wp_aload_n dL_law_232 rfl rfl ?_
  refine wp_aload_n dL_law_233 rfl rfl ?_
  refine wp_iload_n dL_law_234 rfl rfl ?_
  refine wp_iconst dL_law_235 (by decide) ?_
  refine wp_iadd dL_law_236 (by omega) ?_
  refine wp_sld ⟨by omega, by omega⟩ dL_law_237 ?_
  rw [← hx1]
  refine wp_aload_n dL_law_238 rfl rfl ?_
  refine wp_iload_n dL_law_239 rfl rfl ?_
  refine wp_iconst dL_law_240 (by decide) ?_
  refine wp_iadd dL_law_241 (by omega) ?_
  refine wp_sld ⟨by omega, by omega⟩ dL_law_242 ?_
  rw [← hx2]
  refine wp_callV0 (d' := d - 1) cv_RL_23 1 rfl [(0, x1), (0, x2)] [] rfl rfl (Or.inl ⟨_, _, rfl, by decide, rfl, by omega, by omega⟩) (by omega) (Nat.le_of_ble_eq_true rfl) dL_law_243 rfl (Nat.le_of_ble_eq_true rfl) (by omega) (loc1 := [(2, 1), (0, x1), (0, x2), (9, 0)]) rfl ?_
  refine cs_told (by decide) (by omega) hC x1 x2 (fun M1 F1 R1 => ?_)
  have J1 := hV.mj (F1.mono (fun i j v => (lm_VX i j v).2)) R1
  have C1 : CJ M1 A := hC.fr F1 R1 cj_VX
  refine wp_aload_n dL_law_246 rfl rfl ?_
  refine wp_aload_n dL_law_247 rfl rfl ?_
  refine wp_iload_n dL_law_248 rfl rfl ?_
  refine wp_iconst dL_law_249 (by decide) ?_
  refine wp_iadd dL_law_250 (by omega) ?_
  refine wp_sld ⟨by omega, by omega⟩ dL_law_251 ?_
  rw [← hx1]
  refine wp_aload_n dL_law_252 rfl rfl ?_
  refine wp_iload_n dL_law_253 rfl rfl ?_
  refine wp_iconst dL_law_254 (by decide) ?_
  refine wp_iadd dL_law_255 (by omega) ?_
  refine wp_sld ⟨by omega, by omega⟩ dL_law_256 ?_
  rw [← hx2]
  refine wp_callV0 (d' := d - 1) cv_RL_26 69 rfl [(0, x1), (0, x2)] [(0, (toldA (evC M) A x1 x2))] rfl rfl (Or.inl ⟨_, _, rfl, by decide, rfl, by omega, by omega⟩) (by omega) (Nat.le_of_ble_eq_true rfl) dL_law_257 rfl (Nat.le_of_ble_eq_true rfl) (by omega) (loc1 := [(2, 69), (0, x1), (0, x2)]) rfl ?_
  refine cm_told (by decide) J1 (by omega) x1 x2 (fun M2 F2 => ?_)
  refine wp_icmp_eq (tgt := 968) dL_law_260 (by decide) (fun _ => ?_) (fun h => absurd rfl h)
  have J2 := J1.frs F2
  have FL : Fr VLm M M2 := (F1.mono (fun i j v => (lm_VX i j v).1)).tr (F2.mono (fun i j v => (lm_VMs i j v).1))
  have C2 : CJ M2 A := C1.mdl (g_VMs F2) J2.1
  exact hk M2 A K B (hV.land FL C2 J2 h0 (Int.le_refl _) (fun _ _ => rfl) (sq_0 hSq ((F1.mono nq_VX).tr (F2.mono nq_VMs))))
set_option maxRecDepth 20000 in
set_option maxHeartbeats 4000000 in
theorem op_first {l : Launch} {g : Gw} {d : Nat} (hd : 100 ≤ d) (hL3 : g.2.2.2.2.1 100 ≤ 3072) {i : Nat} (hi : i + 6 ≤ g.2.2.2.2.1 100) {M : Mm} {A K : Ls} {B : Mm} {sq : Int} (hV : IV M A K B sq) (hsq : sq ≤ 100000) {Q : Option Wd → Mm → Prop} (hk : ∀ M2 A2 K2 B2, IV M2 A2 K2 B2 (sq + 20) → Wp l g d 0 0 90 m_L_law 968 [] [(2, 1015), (2, 1), (2, 69), (0, (i : Int))] M2 Q) : Wp l g d 0 0 90 m_L_law 324 [] [(2, 1015), (2, 1), (2, 69), (0, (i : Int))] M Q := by
  obtain ⟨x1, hx1⟩ : ∃ x, x = (scI g ((i : Int) + 1).toNat).toInt := ⟨_, rfl⟩
  obtain ⟨x2, hx2⟩ : ∃ x, x = (scI g ((i : Int) + 2).toNat).toInt := ⟨_, rfl⟩
  obtain ⟨x3, hx3⟩ : ∃ x, x = (scI g ((i : Int) + 3).toNat).toInt := ⟨_, rfl⟩
  obtain ⟨x4, hx4⟩ : ∃ x, x = (scI g ((i : Int) + 4).toNat).toInt := ⟨_, rfl⟩
  obtain ⟨x5, hx5⟩ : ∃ x, x = (scI g ((i : Int) + 5).toNat).toInt := ⟨_, rfl⟩
  have hr1 := sc_r g ((i : Int) + 1).toNat
  have hr2 := sc_r g ((i : Int) + 2).toNat
  have hr3 := sc_r g ((i : Int) + 3).toNat
  have hr4 := sc_r g ((i : Int) + 4).toNat
  have hr5 := sc_r g ((i : Int) + 5).toNat
  rw [← hx1] at hr1
  rw [← hx2] at hr2
  rw [← hx3] at hr3
  rw [← hx4] at hr4
  rw [← hx5] at hr5
  obtain ⟨hC, hJ, h0, hIm, h25, hTp, ⟨hBs, hBm, hBw⟩, hSq⟩ := id hV
  obtain ⟨hR, hX, hA, hW, hr⟩ := id hC
  refine wp_aload_n dL_law_324 rfl rfl ?_
  refine wp_aload_n dL_law_325 rfl rfl ?_
  refine wp_iload_n dL_law_326 rfl rfl ?_
  refine wp_iconst dL_law_327 (by decide) ?_
  refine wp_iadd dL_law_328 (by omega) ?_
  refine wp_sld ⟨by omega, by omega⟩ dL_law_329 ?_
  rw [← hx1]
  refine wp_callV0 (d' := d - 1) cv_RL_41 1 rfl [(0, x1)] [] rfl rfl (Or.inl ⟨_, _, rfl, by decide, rfl, by omega, by omega⟩) (by omega) (Nat.le_of_ble_eq_true rfl) dL_law_330 rfl (Nat.le_of_ble_eq_true rfl) (by omega) (loc1 := [(2, 1), (0, x1)]) rfl ?_
  refine cs_first (by decide) (by omega) hC x1 (fun c1 => ?_) (fun c1 c2 => ?_) (fun c1 c2 => ?_)
  · refine wp_aload_n dL_law_333 rfl rfl ?_
    refine wp_aload_n dL_law_334 rfl rfl ?_
    refine wp_iload_n dL_law_335 rfl rfl ?_
    refine wp_iconst dL_law_336 (by decide) ?_
    refine wp_iadd dL_law_337 (by omega) ?_
    refine wp_sld ⟨by omega, by omega⟩ dL_law_338 ?_
    rw [← hx1]
    refine wp_callV0 (d' := d - 1) cv_RL_44 69 rfl [(0, x1)] [(0, (-2))] rfl rfl (Or.inl ⟨_, _, rfl, by decide, rfl, by omega, by omega⟩) (by omega) (Nat.le_of_ble_eq_true rfl) dL_law_339 rfl (Nat.le_of_ble_eq_true rfl) (by omega) (loc1 := [(2, 69), (0, x1)]) rfl ?_
    refine cm_first (by decide) hJ (by omega) x1 (fun _ => ?_) (fun h => absurd h (by omega)) (fun h => absurd h (by omega))
    refine wp_icmp_eq (tgt := 968) dL_law_342 (by decide) (fun _ => ?_) (fun h => absurd h (by decide))
    exact hk M A K B (hV.le (by omega))
  · refine wp_aload_n dL_law_333 rfl rfl ?_
    refine wp_aload_n dL_law_334 rfl rfl ?_
    refine wp_iload_n dL_law_335 rfl rfl ?_
    refine wp_iconst dL_law_336 (by decide) ?_
    refine wp_iadd dL_law_337 (by omega) ?_
    refine wp_sld ⟨by omega, by omega⟩ dL_law_338 ?_
    rw [← hx1]
    refine wp_callV0 (d' := d - 1) cv_RL_44 69 rfl [(0, x1)] [(0, (-1))] rfl rfl (Or.inl ⟨_, _, rfl, by decide, rfl, by omega, by omega⟩) (by omega) (Nat.le_of_ble_eq_true rfl) dL_law_339 rfl (Nat.le_of_ble_eq_true rfl) (by omega) (loc1 := [(2, 69), (0, x1)]) rfl ?_
    refine cm_first (by decide) hJ (by omega) x1 (fun h => absurd c1 h) (fun _ _ => ?_) (fun _ h => absurd h (by omega))
    refine wp_icmp_eq (tgt := 968) dL_law_342 (by decide) (fun _ => ?_) (fun h => absurd h (by decide))
    exact hk M A K B (hV.le (by omega))
  · refine wp_aload_n dL_law_333 rfl rfl ?_
    refine wp_aload_n dL_law_334 rfl rfl ?_
    refine wp_iload_n dL_law_335 rfl rfl ?_
    refine wp_iconst dL_law_336 (by decide) ?_
    refine wp_iadd dL_law_337 (by omega) ?_
    refine wp_sld ⟨by omega, by omega⟩ dL_law_338 ?_
    rw [← hx1]
    refine wp_callV0 (d' := d - 1) cv_RL_44 69 rfl [(0, x1)] [(0, (A.2 5 x1.toNat))] rfl rfl (Or.inl ⟨_, _, rfl, by decide, rfl, by omega, by omega⟩) (by omega) (Nat.le_of_ble_eq_true rfl) dL_law_339 rfl (Nat.le_of_ble_eq_true rfl) (by omega) (loc1 := [(2, 69), (0, x1)]) rfl ?_
    refine cm_first (by decide) hJ (by omega) x1 (fun h => absurd c1 h) (fun _ h => absurd h (by omega)) (fun _ _ => ?_)
    refine wp_icmp_eq (tgt := 968) dL_law_342 (by decide) (fun _ => ?_) (fun h => absurd rfl h)
    exact hk M A K B (hV.le (by omega))
set_option maxRecDepth 20000 in
set_option maxHeartbeats 4000000 in
theorem op_taken {l : Launch} {g : Gw} {d : Nat} (hd : 100 ≤ d) (hL3 : g.2.2.2.2.1 100 ≤ 3072) {i : Nat} (hi : i + 6 ≤ g.2.2.2.2.1 100) {M : Mm} {A K : Ls} {B : Mm} {sq : Int} (hV : IV M A K B sq) (hsq : sq ≤ 100000) {Q : Option Wd → Mm → Prop} (hk : ∀ M2 A2 K2 B2, IV M2 A2 K2 B2 (sq + 20) → Wp l g d 0 0 90 m_L_law 968 [] [(2, 1015), (2, 1), (2, 69), (0, (i : Int))] M2 Q) : Wp l g d 0 0 90 m_L_law 935 [] [(2, 1015), (2, 1), (2, 69), (0, (i : Int))] M Q := by
  obtain ⟨x1, hx1⟩ : ∃ x, x = (scI g ((i : Int) + 1).toNat).toInt := ⟨_, rfl⟩
  obtain ⟨x2, hx2⟩ : ∃ x, x = (scI g ((i : Int) + 2).toNat).toInt := ⟨_, rfl⟩
  obtain ⟨x3, hx3⟩ : ∃ x, x = (scI g ((i : Int) + 3).toNat).toInt := ⟨_, rfl⟩
  obtain ⟨x4, hx4⟩ : ∃ x, x = (scI g ((i : Int) + 4).toNat).toInt := ⟨_, rfl⟩
  obtain ⟨x5, hx5⟩ : ∃ x, x = (scI g ((i : Int) + 5).toNat).toInt := ⟨_, rfl⟩
  have hr1 := sc_r g ((i : Int) + 1).toNat
  have hr2 := sc_r g ((i : Int) + 2).toNat
  have hr3 := sc_r g ((i : Int) + 3).toNat
  have hr4 := sc_r g ((i : Int) + 4).toNat
  have hr5 := sc_r g ((i : Int) + 5).toNat
  rw [← hx1] at hr1
  rw [← hx2] at hr2
  rw [← hx3] at hr3
  rw [← hx4] at hr4
  rw [← hx5] at hr5
  obtain ⟨hC, hJ, h0, hIm, h25, hTp, ⟨hBs, hBm, hBw⟩, hSq⟩ := id hV
  obtain ⟨hR, hX, hA, hW, hr⟩ := id hC
  refine wp_aload_n dL_law_935 rfl rfl ?_
  refine wp_aload_n dL_law_936 rfl rfl ?_
  refine wp_iload_n dL_law_937 rfl rfl ?_
  refine wp_iconst dL_law_938 (by decide) ?_
  refine wp_iadd dL_law_939 (by omega) ?_
  refine wp_sld ⟨by omega, by omega⟩ dL_law_940 ?_
  rw [← hx1]
  refine wp_aload_n dL_law_941 rfl rfl ?_
  refine wp_iload_n dL_law_942 rfl rfl ?_
  refine wp_iconst dL_law_943 (by decide) ?_
  refine wp_iadd dL_law_944 (by omega) ?_
  refine wp_sld ⟨by omega, by omega⟩ dL_law_945 ?_
  rw [← hx2]
  refine wp_callV0 (d' := d - 1) cv_RL_124 1 rfl [(0, x1), (0, x2)] [] rfl rfl (Or.inl ⟨_, _, rfl, by decide, rfl, by omega, by omega⟩) (by omega) (Nat.le_of_ble_eq_true rfl) dL_law_946 rfl (Nat.le_of_ble_eq_true rfl) (by omega) (loc1 := [(2, 1), (0, x1), (0, x2)]) rfl ?_
  refine cs_taken (by decide) (by omega) hC x1 x2 ?_
  refine wp_aload_n dL_law_949 rfl rfl ?_
  refine wp_aload_n dL_law_950 rfl rfl ?_
  refine wp_iload_n dL_law_951 rfl rfl ?_
  refine wp_iconst dL_law_952 (by decide) ?_
  refine wp_iadd dL_law_953 (by omega) ?_
  refine wp_sld ⟨by omega, by omega⟩ dL_law_954 ?_
  rw [← hx1]
  refine wp_aload_n dL_law_955 rfl rfl ?_
  refine wp_iload_n dL_law_956 rfl rfl ?_
  refine wp_iconst dL_law_957 (by decide) ?_
  refine wp_iadd dL_law_958 (by omega) ?_
  refine wp_sld ⟨by omega, by omega⟩ dL_law_959 ?_
  rw [← hx2]
  refine wp_callV0 (d' := d - 1) cv_RL_127 69 rfl [(0, x1), (0, x2)] [(0, (tknA A x1 x2))] rfl rfl (Or.inl ⟨_, _, rfl, by decide, rfl, by omega, by omega⟩) (by omega) (Nat.le_of_ble_eq_true rfl) dL_law_960 rfl (Nat.le_of_ble_eq_true rfl) (by omega) (loc1 := [(2, 69), (0, x1), (0, x2), (9, 0)]) rfl ?_
  refine cm_taken (by decide) hJ (by omega) x1 x2 ?_
  refine wp_icmp_eq (tgt := 968) dL_law_963 (by decide) (fun _ => ?_) (fun h => absurd rfl h)
  exact hk M A K B (hV.le (by omega))
set_option maxRecDepth 20000 in
set_option maxHeartbeats 4000000 in
theorem op_count {l : Launch} {g : Gw} {d : Nat} (hd : 100 ≤ d) (hL3 : g.2.2.2.2.1 100 ≤ 3072) {i : Nat} (hi : i + 6 ≤ g.2.2.2.2.1 100) {M : Mm} {A K : Ls} {B : Mm} {sq : Int} (hV : IV M A K B sq) (hsq : sq ≤ 100000) {Q : Option Wd → Mm → Prop} (hk : ∀ M2 A2 K2 B2, IV M2 A2 K2 B2 (sq + 20) → Wp l g d 0 0 90 m_L_law 968 [] [(2, 1015), (2, 1), (2, 69), (0, (i : Int))] M2 Q) : Wp l g d 0 0 90 m_L_law 710 [] [(2, 1015), (2, 1), (2, 69), (0, (i : Int))] M Q := by
  obtain ⟨x1, hx1⟩ : ∃ x, x = (scI g ((i : Int) + 1).toNat).toInt := ⟨_, rfl⟩
  obtain ⟨x2, hx2⟩ : ∃ x, x = (scI g ((i : Int) + 2).toNat).toInt := ⟨_, rfl⟩
  obtain ⟨x3, hx3⟩ : ∃ x, x = (scI g ((i : Int) + 3).toNat).toInt := ⟨_, rfl⟩
  obtain ⟨x4, hx4⟩ : ∃ x, x = (scI g ((i : Int) + 4).toNat).toInt := ⟨_, rfl⟩
  obtain ⟨x5, hx5⟩ : ∃ x, x = (scI g ((i : Int) + 5).toNat).toInt := ⟨_, rfl⟩
  have hr1 := sc_r g ((i : Int) + 1).toNat
  have hr2 := sc_r g ((i : Int) + 2).toNat
  have hr3 := sc_r g ((i : Int) + 3).toNat
  have hr4 := sc_r g ((i : Int) + 4).toNat
  have hr5 := sc_r g ((i : Int) + 5).toNat
  rw [← hx1] at hr1
  rw [← hx2] at hr2
  rw [← hx3] at hr3
  rw [← hx4] at hr4
  rw [← hx5] at hr5
  obtain ⟨hC, hJ, h0, hIm, h25, hTp, ⟨hBs, hBm, hBw⟩, hSq⟩ := id hV
  obtain ⟨hR, hX, hA, hW, hr⟩ := id hC
  refine wp_aload_n dL_law_710 rfl rfl ?_
  refine wp_aload_n dL_law_711 rfl rfl ?_
  refine wp_iload_n dL_law_712 rfl rfl ?_
  refine wp_iconst dL_law_713 (by decide) ?_
  refine wp_iadd dL_law_714 (by omega) ?_
  refine wp_sld ⟨by omega, by omega⟩ dL_law_715 ?_
  rw [← hx1]
  refine wp_callV0 (d' := d - 1) cv_RL_102 1 rfl [(0, x1)] [] rfl rfl (Or.inl ⟨_, _, rfl, by decide, rfl, by omega, by omega⟩) (by omega) (Nat.le_of_ble_eq_true rfl) dL_law_716 rfl (Nat.le_of_ble_eq_true rfl) (by omega) (loc1 := [(2, 1), (0, x1)]) rfl ?_
  refine cs_count (by decide) (by omega) hR x1 ?_
  refine wp_aload_n dL_law_719 rfl rfl ?_
  refine wp_aload_n dL_law_720 rfl rfl ?_
  refine wp_iload_n dL_law_721 rfl rfl ?_
  refine wp_iconst dL_law_722 (by decide) ?_
  refine wp_iadd dL_law_723 (by omega) ?_
  refine wp_sld ⟨by omega, by omega⟩ dL_law_724 ?_
  rw [← hx1]
  refine wp_callV0 (d' := d - 1) cv_RL_105 69 rfl [(0, x1)] [(0, (cntC M x1))] rfl rfl (Or.inl ⟨_, _, rfl, by decide, rfl, by omega, by omega⟩) (by omega) (Nat.le_of_ble_eq_true rfl) dL_law_725 rfl (Nat.le_of_ble_eq_true rfl) (by omega) (loc1 := [(2, 69), (0, x1)]) rfl ?_
  refine cm_count (by decide) (by omega) hR x1 ?_
  rw [show cntM M x1 = cntC M x1 by unfold cntM cntC; rw [hA.1, hA.2.1, hA.2.2.1, hA.2.2.2.1, hJ.2.1.1, hJ.2.1.2.1, hJ.2.1.2.2.1, hJ.2.1.2.2.2.1, h25, hTp.1]]
  refine wp_icmp_eq (tgt := 968) dL_law_728 (by decide) (fun _ => ?_) (fun h => absurd rfl h)
  exact hk M A K B (hV.le (by omega))
set_option maxRecDepth 20000 in
set_option maxHeartbeats 4000000 in
theorem op_orders {l : Launch} {g : Gw} {d : Nat} (hd : 100 ≤ d) (hL3 : g.2.2.2.2.1 100 ≤ 3072) {i : Nat} (hi : i + 6 ≤ g.2.2.2.2.1 100) {M : Mm} {A K : Ls} {B : Mm} {sq : Int} (hV : IV M A K B sq) (hsq : sq ≤ 100000) {Q : Option Wd → Mm → Prop} (hk : ∀ M2 A2 K2 B2, IV M2 A2 K2 B2 (sq + 20) → Wp l g d 0 0 90 m_L_law 968 [] [(2, 1015), (2, 1), (2, 69), (0, (i : Int))] M2 Q) : Wp l g d 0 0 90 m_L_law 419 [] [(2, 1015), (2, 1), (2, 69), (0, (i : Int))] M Q := by
  obtain ⟨x1, hx1⟩ : ∃ x, x = (scI g ((i : Int) + 1).toNat).toInt := ⟨_, rfl⟩
  obtain ⟨x2, hx2⟩ : ∃ x, x = (scI g ((i : Int) + 2).toNat).toInt := ⟨_, rfl⟩
  obtain ⟨x3, hx3⟩ : ∃ x, x = (scI g ((i : Int) + 3).toNat).toInt := ⟨_, rfl⟩
  obtain ⟨x4, hx4⟩ : ∃ x, x = (scI g ((i : Int) + 4).toNat).toInt := ⟨_, rfl⟩
  obtain ⟨x5, hx5⟩ : ∃ x, x = (scI g ((i : Int) + 5).toNat).toInt := ⟨_, rfl⟩
  have hr1 := sc_r g ((i : Int) + 1).toNat
  have hr2 := sc_r g ((i : Int) + 2).toNat
  have hr3 := sc_r g ((i : Int) + 3).toNat
  have hr4 := sc_r g ((i : Int) + 4).toNat
  have hr5 := sc_r g ((i : Int) + 5).toNat
  rw [← hx1] at hr1
  rw [← hx2] at hr2
  rw [← hx3] at hr3
  rw [← hx4] at hr4
  rw [← hx5] at hr5
  obtain ⟨hC, hJ, h0, hIm, h25, hTp, ⟨hBs, hBm, hBw⟩, hSq⟩ := id hV
  obtain ⟨hR, hX, hA, hW, hr⟩ := id hC
  refine wp_aload_n dL_law_419 rfl rfl ?_
  refine wp_aload_n dL_law_420 rfl rfl ?_
  refine wp_iload_n dL_law_421 rfl rfl ?_
  refine wp_iconst dL_law_422 (by decide) ?_
  refine wp_iadd dL_law_423 (by omega) ?_
  refine wp_sld ⟨by omega, by omega⟩ dL_law_424 ?_
  rw [← hx1]
  refine wp_callV0 (d' := d - 1) cv_RL_61 1 rfl [(0, x1)] [] rfl rfl (Or.inl ⟨_, _, rfl, by decide, rfl, by omega, by omega⟩) (by omega) (Nat.le_of_ble_eq_true rfl) dL_law_425 rfl (Nat.le_of_ble_eq_true rfl) (by omega) (loc1 := [(2, 1), (0, x1)]) rfl ?_
  refine cs_orders (by decide) (by omega) hC (SQ.of hSq hsq) x1 (fun c1 => ?_) (fun c1 M1 F1 R1 S1 => ?_)
  · refine wp_aload_n dL_law_428 rfl rfl ?_
    refine wp_aload_n dL_law_429 rfl rfl ?_
    refine wp_iload_n dL_law_430 rfl rfl ?_
    refine wp_iconst dL_law_431 (by decide) ?_
    refine wp_iadd dL_law_432 (by omega) ?_
    refine wp_sld ⟨by omega, by omega⟩ dL_law_433 ?_
    rw [← hx1]
    refine wp_callV0 (d' := d - 1) cv_RL_64 69 rfl [(0, x1)] [(0, (-2))] rfl rfl (Or.inl ⟨_, _, rfl, by decide, rfl, by omega, by omega⟩) (by omega) (Nat.le_of_ble_eq_true rfl) dL_law_434 rfl (Nat.le_of_ble_eq_true rfl) (by omega) (loc1 := [(2, 69), (0, x1), (9, 0)]) rfl ?_
    refine cm_orders (by decide) hJ (by omega) x1 (fun _ => ?_) (fun h => absurd h c1)
    refine wp_icmp_eq (tgt := 968) dL_law_437 (by decide) (fun _ => ?_) (fun h => absurd h (by decide))
    exact hk M A K B (hV.le (by omega))
  · have J1 := hV.mj (F1.mono (fun i j v => (lm_VI i j v).2)) R1
    have C1 : CJ M1 A := hC.fr F1 R1 cj_VI
    refine wp_aload_n dL_law_428 rfl rfl ?_
    refine wp_aload_n dL_law_429 rfl rfl ?_
    refine wp_iload_n dL_law_430 rfl rfl ?_
    refine wp_iconst dL_law_431 (by decide) ?_
    refine wp_iadd dL_law_432 (by omega) ?_
    refine wp_sld ⟨by omega, by omega⟩ dL_law_433 ?_
    rw [← hx1]
    refine wp_callV0 (d' := d - 1) cv_RL_64 69 rfl [(0, x1)] [(0, (ordA (evC M) A x1))] rfl rfl (Or.inl ⟨_, _, rfl, by decide, rfl, by omega, by omega⟩) (by omega) (Nat.le_of_ble_eq_true rfl) dL_law_434 rfl (Nat.le_of_ble_eq_true rfl) (by omega) (loc1 := [(2, 69), (0, x1), (9, 0)]) rfl ?_
    refine cm_orders (by decide) J1 (by omega) x1 (fun h => absurd c1 h) (fun _ M2 J2 F2 => ?_)
    refine wp_icmp_eq (tgt := 968) dL_law_437 (by decide) (fun _ => ?_) (fun h => absurd rfl h)
    have FL : Fr VLm M M2 := (F1.mono (fun i j v => (lm_VI i j v).1)).tr (F2.mono (fun i j v => (lm_VMo i j v).1))
    have C2 : CJ M2 A := C1.mdl (g_VMo F2) J2.1
    exact hk M2 A K B (hV.land FL C2 J2 h0 (Int.le_refl _) (fun _ _ => rfl) (sq_1 hSq S1 (F2.mono nq_VMo)))
set_option maxRecDepth 20000 in
set_option maxHeartbeats 4000000 in
theorem op_fewest {l : Launch} {g : Gw} {d : Nat} (hd : 100 ≤ d) (hL3 : g.2.2.2.2.1 100 ≤ 3072) {i : Nat} (hi : i + 6 ≤ g.2.2.2.2.1 100) {M : Mm} {A K : Ls} {B : Mm} {sq : Int} (hV : IV M A K B sq) (hsq : sq ≤ 100000) {Q : Option Wd → Mm → Prop} (hk : ∀ M2 A2 K2 B2, IV M2 A2 K2 B2 (sq + 20) → Wp l g d 0 0 90 m_L_law 968 [] [(2, 1015), (2, 1), (2, 69), (0, (i : Int))] M2 Q) : Wp l g d 0 0 90 m_L_law 442 [] [(2, 1015), (2, 1), (2, 69), (0, (i : Int))] M Q := by
  obtain ⟨x1, hx1⟩ : ∃ x, x = (scI g ((i : Int) + 1).toNat).toInt := ⟨_, rfl⟩
  obtain ⟨x2, hx2⟩ : ∃ x, x = (scI g ((i : Int) + 2).toNat).toInt := ⟨_, rfl⟩
  obtain ⟨x3, hx3⟩ : ∃ x, x = (scI g ((i : Int) + 3).toNat).toInt := ⟨_, rfl⟩
  obtain ⟨x4, hx4⟩ : ∃ x, x = (scI g ((i : Int) + 4).toNat).toInt := ⟨_, rfl⟩
  obtain ⟨x5, hx5⟩ : ∃ x, x = (scI g ((i : Int) + 5).toNat).toInt := ⟨_, rfl⟩
  have hr1 := sc_r g ((i : Int) + 1).toNat
  have hr2 := sc_r g ((i : Int) + 2).toNat
  have hr3 := sc_r g ((i : Int) + 3).toNat
  have hr4 := sc_r g ((i : Int) + 4).toNat
  have hr5 := sc_r g ((i : Int) + 5).toNat
  rw [← hx1] at hr1
  rw [← hx2] at hr2
  rw [← hx3] at hr3
  rw [← hx4] at hr4
  rw [← hx5] at hr5
  obtain ⟨hC, hJ, h0, hIm, h25, hTp, ⟨hBs, hBm, hBw⟩, hSq⟩ := id hV
  obtain ⟨hR, hX, hA, hW, hr⟩ := id hC
  refine wp_aload_n dL_law_442 rfl rfl ?_
  refine wp_aload_n dL_law_443 rfl rfl ?_
  refine wp_iload_n dL_law_444 rfl rfl ?_
  refine wp_iconst dL_law_445 (by decide) ?_
  refine wp_iadd dL_law_446 (by omega) ?_
  refine wp_sld ⟨by omega, by omega⟩ dL_law_447 ?_
  rw [← hx1]
  refine wp_callV0 (d' := d - 1) cv_RL_65 1 rfl [(0, x1)] [] rfl rfl (Or.inl ⟨_, _, rfl, by decide, rfl, by omega, by omega⟩) (by omega) (Nat.le_of_ble_eq_true rfl) dL_law_448 rfl (Nat.le_of_ble_eq_true rfl) (by omega) (loc1 := [(2, 1), (0, x1)]) rfl ?_
  refine cs_fewest (by decide) (by omega) hC (SQ.of hSq hsq) x1 (fun c1 => ?_) (fun c1 M1 F1 R1 S1 => ?_)
  · refine wp_aload_n dL_law_451 rfl rfl ?_
    refine wp_aload_n dL_law_452 rfl rfl ?_
    refine wp_iload_n dL_law_453 rfl rfl ?_
    refine wp_iconst dL_law_454 (by decide) ?_
    refine wp_iadd dL_law_455 (by omega) ?_
    refine wp_sld ⟨by omega, by omega⟩ dL_law_456 ?_
    rw [← hx1]
    refine wp_callV0 (d' := d - 1) cv_RL_68 69 rfl [(0, x1)] [(0, (-2))] rfl rfl (Or.inl ⟨_, _, rfl, by decide, rfl, by omega, by omega⟩) (by omega) (Nat.le_of_ble_eq_true rfl) dL_law_457 rfl (Nat.le_of_ble_eq_true rfl) (by omega) (loc1 := [(2, 69), (0, x1), (9, 0)]) rfl ?_
    refine cm_fewest (by decide) hJ (by omega) x1 (fun _ => ?_) (fun h => absurd h (by omega))
    refine wp_icmp_eq (tgt := 968) dL_law_460 (by decide) (fun _ => ?_) (fun h => absurd h (by decide))
    exact hk M A K B (hV.le (by omega))
  · have J1 := hV.mj (F1.mono (fun i j v => (lm_VI i j v).2)) R1
    have C1 : CJ M1 A := hC.fr F1 R1 cj_VI
    refine wp_aload_n dL_law_451 rfl rfl ?_
    refine wp_aload_n dL_law_452 rfl rfl ?_
    refine wp_iload_n dL_law_453 rfl rfl ?_
    refine wp_iconst dL_law_454 (by decide) ?_
    refine wp_iadd dL_law_455 (by omega) ?_
    refine wp_sld ⟨by omega, by omega⟩ dL_law_456 ?_
    rw [← hx1]
    refine wp_callV0 (d' := d - 1) cv_RL_68 69 rfl [(0, x1)] [(0, (fwA (evC M) A x1 (flA (evC M) A).length 0))] rfl rfl (Or.inl ⟨_, _, rfl, by decide, rfl, by omega, by omega⟩) (by omega) (Nat.le_of_ble_eq_true rfl) dL_law_457 rfl (Nat.le_of_ble_eq_true rfl) (by omega) (loc1 := [(2, 69), (0, x1), (9, 0)]) rfl ?_
    refine cm_fewest (by decide) J1 (by omega) x1 (fun h => absurd h (by omega)) (fun _ M2 J2 F2 => ?_)
    refine wp_icmp_eq (tgt := 968) dL_law_460 (by decide) (fun _ => ?_) (fun h => absurd rfl h)
    have FL : Fr VLm M M2 := (F1.mono (fun i j v => (lm_VI i j v).1)).tr (F2.mono (fun i j v => (lm_VMo i j v).1))
    have C2 : CJ M2 A := C1.mdl (g_VMo F2) J2.1
    exact hk M2 A K B (hV.land FL C2 J2 h0 (Int.le_refl _) (fun _ _ => rfl) (sq_1 hSq S1 (F2.mono nq_VMo)))
set_option maxRecDepth 20000 in
set_option maxHeartbeats 4000000 in
theorem op_run {l : Launch} {g : Gw} {d : Nat} (hd : 100 ≤ d) (hL3 : g.2.2.2.2.1 100 ≤ 3072) {i : Nat} (hi : i + 6 ≤ g.2.2.2.2.1 100) {M : Mm} {A K : Ls} {B : Mm} {sq : Int} (hV : IV M A K B sq) (hsq : sq ≤ 100000) {Q : Option Wd → Mm → Prop} (hk : ∀ M2 A2 K2 B2, IV M2 A2 K2 B2 (sq + 20) → Wp l g d 0 0 90 m_L_law 968 [] [(2, 1015), (2, 1), (2, 69), (0, (i : Int))] M2 Q) : Wp l g d 0 0 90 m_L_law 498 [] [(2, 1015), (2, 1), (2, 69), (0, (i : Int))] M Q := by
  obtain ⟨x1, hx1⟩ : ∃ x, x = (scI g ((i : Int) + 1).toNat).toInt := ⟨_, rfl⟩
  obtain ⟨x2, hx2⟩ : ∃ x, x = (scI g ((i : Int) + 2).toNat).toInt := ⟨_, rfl⟩
  obtain ⟨x3, hx3⟩ : ∃ x, x = (scI g ((i : Int) + 3).toNat).toInt := ⟨_, rfl⟩
  obtain ⟨x4, hx4⟩ : ∃ x, x = (scI g ((i : Int) + 4).toNat).toInt := ⟨_, rfl⟩
  obtain ⟨x5, hx5⟩ : ∃ x, x = (scI g ((i : Int) + 5).toNat).toInt := ⟨_, rfl⟩
  have hr1 := sc_r g ((i : Int) + 1).toNat
  have hr2 := sc_r g ((i : Int) + 2).toNat
  have hr3 := sc_r g ((i : Int) + 3).toNat
  have hr4 := sc_r g ((i : Int) + 4).toNat
  have hr5 := sc_r g ((i : Int) + 5).toNat
  rw [← hx1] at hr1
  rw [← hx2] at hr2
  rw [← hx3] at hr3
  rw [← hx4] at hr4
  rw [← hx5] at hr5
  obtain ⟨hC, hJ, h0, hIm, h25, hTp, ⟨hBs, hBm, hBw⟩, hSq⟩ := id hV
  obtain ⟨hR, hX, hA, hW, hr⟩ := id hC
  refine wp_aload_n dL_law_498 rfl rfl ?_
  refine wp_aload_n dL_law_499 rfl rfl ?_
  refine wp_iload_n dL_law_500 rfl rfl ?_
  refine wp_iconst dL_law_501 (by decide) ?_
  refine wp_iadd dL_law_502 (by omega) ?_
  refine wp_sld ⟨by omega, by omega⟩ dL_law_503 ?_
  rw [← hx1]
  refine wp_aload_n dL_law_504 rfl rfl ?_
  refine wp_iload_n dL_law_505 rfl rfl ?_
  refine wp_iconst dL_law_506 (by decide) ?_
  refine wp_iadd dL_law_507 (by omega) ?_
  refine wp_sld ⟨by omega, by omega⟩ dL_law_508 ?_
  rw [← hx2]
  refine wp_callV0 (d' := d - 1) cv_RL_73 1 rfl [(0, x1), (0, x2)] [] rfl rfl (Or.inl ⟨_, _, rfl, by decide, rfl, by omega, by omega⟩) (by omega) (Nat.le_of_ble_eq_true rfl) dL_law_509 rfl (Nat.le_of_ble_eq_true rfl) (by omega) (loc1 := [(2, 1), (0, x1), (0, x2), (9, 0), (9, 0)]) rfl ?_
  refine cs_run (by decide) (by omega) hC x1 x2 hr2 (fun c1 => ?_) (fun c1 M1 F1 R1 => ?_)
  · refine wp_aload_n dL_law_512 rfl rfl ?_
    refine wp_aload_n dL_law_513 rfl rfl ?_
    refine wp_iload_n dL_law_514 rfl rfl ?_
    refine wp_iconst dL_law_515 (by decide) ?_
    refine wp_iadd dL_law_516 (by omega) ?_
    refine wp_sld ⟨by omega, by omega⟩ dL_law_517 ?_
    rw [← hx1]
    refine wp_aload_n dL_law_518 rfl rfl ?_
    refine wp_iload_n dL_law_519 rfl rfl ?_
    refine wp_iconst dL_law_520 (by decide) ?_
    refine wp_iadd dL_law_521 (by omega) ?_
    refine wp_sld ⟨by omega, by omega⟩ dL_law_522 ?_
    rw [← hx2]
    refine wp_callV0 (d' := d - 1) cv_RL_76 69 rfl [(0, x1), (0, x2)] [(0, (-2))] rfl rfl (Or.inl ⟨_, _, rfl, by decide, rfl, by omega, by omega⟩) (by omega) (Nat.le_of_ble_eq_true rfl) dL_law_523 rfl (Nat.le_of_ble_eq_true rfl) (by omega) (loc1 := [(2, 69), (0, x1), (0, x2), (9, 0), (9, 0)]) rfl ?_
    refine cm_run (by decide) hJ (by omega) x1 x2 hr2 (fun _ => ?_) (fun h => absurd h c1)
    refine wp_icmp_eq (tgt := 968) dL_law_526 (by decide) (fun _ => ?_) (fun h => absurd h (by decide))
    exact hk M A K B (hV.le (by omega))
  · have J1 := hV.mj (F1.mono (fun i j v => (lm_VW i j v).2)) R1
    have C1 : CJ M1 A := hC.fr F1 R1 cj_VW
    refine wp_aload_n dL_law_512 rfl rfl ?_
    refine wp_aload_n dL_law_513 rfl rfl ?_
    refine wp_iload_n dL_law_514 rfl rfl ?_
    refine wp_iconst dL_law_515 (by decide) ?_
    refine wp_iadd dL_law_516 (by omega) ?_
    refine wp_sld ⟨by omega, by omega⟩ dL_law_517 ?_
    rw [← hx1]
    refine wp_aload_n dL_law_518 rfl rfl ?_
    refine wp_iload_n dL_law_519 rfl rfl ?_
    refine wp_iconst dL_law_520 (by decide) ?_
    refine wp_iadd dL_law_521 (by omega) ?_
    refine wp_sld ⟨by omega, by omega⟩ dL_law_522 ?_
    rw [← hx2]
    refine wp_callV0 (d' := d - 1) cv_RL_76 69 rfl [(0, x1), (0, x2)] [(0, (runA (evC M) A x1 x2))] rfl rfl (Or.inl ⟨_, _, rfl, by decide, rfl, by omega, by omega⟩) (by omega) (Nat.le_of_ble_eq_true rfl) dL_law_523 rfl (Nat.le_of_ble_eq_true rfl) (by omega) (loc1 := [(2, 69), (0, x1), (0, x2), (9, 0), (9, 0)]) rfl ?_
    refine cm_run (by decide) J1 (by omega) x1 x2 hr2 (fun h => absurd c1 h) (fun _ M2 J2 F2 => ?_)
    refine wp_icmp_eq (tgt := 968) dL_law_526 (by decide) (fun _ => ?_) (fun h => absurd rfl h)
    have FL : Fr VLm M M2 := (F1.mono (fun i j v => (lm_VW i j v).1)).tr (F2.mono (fun i j v => (lm_VMt i j v).1))
    have C2 : CJ M2 A := C1.mdl (g_VMt F2) J2.1
    exact hk M2 A K B (hV.land FL C2 J2 h0 (Int.le_refl _) (fun _ _ => rfl) (sq_0 hSq ((F1.mono nq_VW).tr (F2.mono nq_VMt))))
set_option maxRecDepth 20000 in
set_option maxHeartbeats 4000000 in
theorem op_chance {l : Launch} {g : Gw} {d : Nat} (hd : 100 ≤ d) (hL3 : g.2.2.2.2.1 100 ≤ 3072) {i : Nat} (hi : i + 6 ≤ g.2.2.2.2.1 100) {M : Mm} {A K : Ls} {B : Mm} {sq : Int} (hV : IV M A K B sq) (hsq : sq ≤ 100000) {Q : Option Wd → Mm → Prop} (hk : ∀ M2 A2 K2 B2, IV M2 A2 K2 B2 (sq + 20) → Wp l g d 0 0 90 m_L_law 968 [] [(2, 1015), (2, 1), (2, 69), (0, (i : Int))] M2 Q) : Wp l g d 0 0 90 m_L_law 630 [] [(2, 1015), (2, 1), (2, 69), (0, (i : Int))] M Q := by
  obtain ⟨x1, hx1⟩ : ∃ x, x = (scI g ((i : Int) + 1).toNat).toInt := ⟨_, rfl⟩
  obtain ⟨x2, hx2⟩ : ∃ x, x = (scI g ((i : Int) + 2).toNat).toInt := ⟨_, rfl⟩
  obtain ⟨x3, hx3⟩ : ∃ x, x = (scI g ((i : Int) + 3).toNat).toInt := ⟨_, rfl⟩
  obtain ⟨x4, hx4⟩ : ∃ x, x = (scI g ((i : Int) + 4).toNat).toInt := ⟨_, rfl⟩
  obtain ⟨x5, hx5⟩ : ∃ x, x = (scI g ((i : Int) + 5).toNat).toInt := ⟨_, rfl⟩
  have hr1 := sc_r g ((i : Int) + 1).toNat
  have hr2 := sc_r g ((i : Int) + 2).toNat
  have hr3 := sc_r g ((i : Int) + 3).toNat
  have hr4 := sc_r g ((i : Int) + 4).toNat
  have hr5 := sc_r g ((i : Int) + 5).toNat
  rw [← hx1] at hr1
  rw [← hx2] at hr2
  rw [← hx3] at hr3
  rw [← hx4] at hr4
  rw [← hx5] at hr5
  obtain ⟨hC, hJ, h0, hIm, h25, hTp, ⟨hBs, hBm, hBw⟩, hSq⟩ := id hV
  obtain ⟨hR, hX, hA, hW, hr⟩ := id hC
  refine wp_aload_n dL_law_630 rfl rfl ?_
  refine wp_aload_n dL_law_631 rfl rfl ?_
  refine wp_iload_n dL_law_632 rfl rfl ?_
  refine wp_iconst dL_law_633 (by decide) ?_
  refine wp_iadd dL_law_634 (by omega) ?_
  refine wp_sld ⟨by omega, by omega⟩ dL_law_635 ?_
  rw [← hx1]
  refine wp_aload_n dL_law_636 rfl rfl ?_
  refine wp_iload_n dL_law_637 rfl rfl ?_
  refine wp_iconst dL_law_638 (by decide) ?_
  refine wp_iadd dL_law_639 (by omega) ?_
  refine wp_sld ⟨by omega, by omega⟩ dL_law_640 ?_
  rw [← hx2]
  refine wp_aload_n dL_law_641 rfl rfl ?_
  refine wp_iload_n dL_law_642 rfl rfl ?_
  refine wp_iconst dL_law_643 (by decide) ?_
  refine wp_iadd dL_law_644 (by omega) ?_
  refine wp_sld ⟨by omega, by omega⟩ dL_law_645 ?_
  rw [← hx3]
  refine wp_aload_n dL_law_646 rfl rfl ?_
  refine wp_iload_n dL_law_647 rfl rfl ?_
  refine wp_iconst dL_law_648 (by decide) ?_
  refine wp_iadd dL_law_649 (by omega) ?_
  refine wp_sld ⟨by omega, by omega⟩ dL_law_650 ?_
  rw [← hx4]
  refine wp_callV0 (d' := d - 1) cv_RL_89 1 rfl [(0, x1), (0, x2), (0, x3), (0, x4)] [] rfl rfl (Or.inl ⟨_, _, rfl, by decide, rfl, by omega, by omega⟩) (by omega) (Nat.le_of_ble_eq_true rfl) dL_law_651 rfl (Nat.le_of_ble_eq_true rfl) (by omega) (loc1 := [(2, 1), (0, x1), (0, x2), (0, x3), (0, x4), (9, 0), (9, 0), (9, 0)]) rfl ?_
  refine cs_chance (by decide) (by omega) hC hSq.1 (by have := hSq.2; omega) x1 x2 x3 x4 (fun c1 => ?_) (fun c1 M1 F1 R1 S1 => ?_)
  · refine wp_aload_n dL_law_654 rfl rfl ?_
    refine wp_aload_n dL_law_655 rfl rfl ?_
    refine wp_iload_n dL_law_656 rfl rfl ?_
    refine wp_iconst dL_law_657 (by decide) ?_
    refine wp_iadd dL_law_658 (by omega) ?_
    refine wp_sld ⟨by omega, by omega⟩ dL_law_659 ?_
    rw [← hx1]
    refine wp_aload_n dL_law_660 rfl rfl ?_
    refine wp_iload_n dL_law_661 rfl rfl ?_
    refine wp_iconst dL_law_662 (by decide) ?_
    refine wp_iadd dL_law_663 (by omega) ?_
    refine wp_sld ⟨by omega, by omega⟩ dL_law_664 ?_
    rw [← hx2]
    refine wp_aload_n dL_law_665 rfl rfl ?_
    refine wp_iload_n dL_law_666 rfl rfl ?_
    refine wp_iconst dL_law_667 (by decide) ?_
    refine wp_iadd dL_law_668 (by omega) ?_
    refine wp_sld ⟨by omega, by omega⟩ dL_law_669 ?_
    rw [← hx3]
    refine wp_aload_n dL_law_670 rfl rfl ?_
    refine wp_iload_n dL_law_671 rfl rfl ?_
    refine wp_iconst dL_law_672 (by decide) ?_
    refine wp_iadd dL_law_673 (by omega) ?_
    refine wp_sld ⟨by omega, by omega⟩ dL_law_674 ?_
    rw [← hx4]
    refine wp_callV0 (d' := d - 1) cv_RL_93 69 rfl [(0, x1), (0, x2), (0, x3), (0, x4)] [(1, (-4611686018427387904))] rfl rfl (Or.inl ⟨_, _, rfl, by decide, rfl, by omega, by omega⟩) (by omega) (Nat.le_of_ble_eq_true rfl) dL_law_675 rfl (Nat.le_of_ble_eq_true rfl) (by omega) (loc1 := [(2, 69), (0, x1), (0, x2), (0, x3), (0, x4), (9, 0), (9, 0), (9, 0), (9, 0), (9, 0), (9, 0), (9, 0), (9, 0)]) rfl ?_
    refine cm_chance (by decide) hJ (by omega) x1 x2 x3 x4 (fun _ => ?_) (fun h => absurd h c1)
    refine wp_lcmp dL_law_678 ?_
    change Wp _ _ _ _ _ _ _ _ ((0, 0) :: _) _ _ _
    refine wp_if_eq (tgt := 968) dL_law_679 (by decide) (fun _ => ?_) (fun h => absurd h (by decide))
    exact hk M A K B (hV.le (by omega))
  · have J1 := hV.mj (F1.mono (fun i j v => (lm_VU i j v).2)) R1
    have C1 : CJ M1 A := hC.fr F1 R1 cj_VU
    refine wp_aload_n dL_law_654 rfl rfl ?_
    refine wp_aload_n dL_law_655 rfl rfl ?_
    refine wp_iload_n dL_law_656 rfl rfl ?_
    refine wp_iconst dL_law_657 (by decide) ?_
    refine wp_iadd dL_law_658 (by omega) ?_
    refine wp_sld ⟨by omega, by omega⟩ dL_law_659 ?_
    rw [← hx1]
    refine wp_aload_n dL_law_660 rfl rfl ?_
    refine wp_iload_n dL_law_661 rfl rfl ?_
    refine wp_iconst dL_law_662 (by decide) ?_
    refine wp_iadd dL_law_663 (by omega) ?_
    refine wp_sld ⟨by omega, by omega⟩ dL_law_664 ?_
    rw [← hx2]
    refine wp_aload_n dL_law_665 rfl rfl ?_
    refine wp_iload_n dL_law_666 rfl rfl ?_
    refine wp_iconst dL_law_667 (by decide) ?_
    refine wp_iadd dL_law_668 (by omega) ?_
    refine wp_sld ⟨by omega, by omega⟩ dL_law_669 ?_
    rw [← hx3]
    refine wp_aload_n dL_law_670 rfl rfl ?_
    refine wp_iload_n dL_law_671 rfl rfl ?_
    refine wp_iconst dL_law_672 (by decide) ?_
    refine wp_iadd dL_law_673 (by omega) ?_
    refine wp_sld ⟨by omega, by omega⟩ dL_law_674 ?_
    rw [← hx4]
    refine wp_callV0 (d' := d - 1) cv_RL_93 69 rfl [(0, x1), (0, x2), (0, x3), (0, x4)] [(1, (rsC (chA (evC M) A x1 x3 x2.toNat 0 0) x2 x4))] rfl rfl (Or.inl ⟨_, _, rfl, by decide, rfl, by omega, by omega⟩) (by omega) (Nat.le_of_ble_eq_true rfl) dL_law_675 rfl (Nat.le_of_ble_eq_true rfl) (by omega) (loc1 := [(2, 69), (0, x1), (0, x2), (0, x3), (0, x4), (9, 0), (9, 0), (9, 0), (9, 0), (9, 0), (9, 0), (9, 0), (9, 0)]) rfl ?_
    refine cm_chance (by decide) J1 (by omega) x1 x2 x3 x4 (fun h => absurd c1 h) (fun _ M2 J2 F2 => ?_)
    refine wp_lcmp dL_law_678 ?_
    rw [show lcp (rsC (chA (evC M) A x1 x3 x2.toNat 0 0) x2 x4) (rsC (chA (evC M) A x1 x3 x2.toNat 0 0) x2 x4) = 0 from lcp_eq.mpr rfl]
    refine wp_if_eq (tgt := 968) dL_law_679 (by decide) (fun _ => ?_) (fun h => absurd h (by decide))
    have FL : Fr VLm M M2 := (F1.mono (fun i j v => (lm_VU i j v).1)).tr (F2.mono (fun i j v => (lm_VMy i j v).1))
    have C2 : CJ M2 A := C1.mdl (g_VMy F2) J2.1
    exact hk M2 A K B (hV.land FL C2 J2 h0 (Int.le_refl _) (fun _ _ => rfl) (sq_n hSq S1 (F2.mono nq_VMy)))
set_option maxRecDepth 20000 in
set_option maxHeartbeats 4000000 in
theorem op_drawn {l : Launch} {g : Gw} {d : Nat} (hd : 100 ≤ d) (hL3 : g.2.2.2.2.1 100 ≤ 3072) {i : Nat} (hi : i + 6 ≤ g.2.2.2.2.1 100) {M : Mm} {A K : Ls} {B : Mm} {sq : Int} (hV : IV M A K B sq) (hsq : sq ≤ 100000) {Q : Option Wd → Mm → Prop} (hk : ∀ M2 A2 K2 B2, IV M2 A2 K2 B2 (sq + 20) → Wp l g d 0 0 90 m_L_law 968 [] [(2, 1015), (2, 1), (2, 69), (0, (i : Int))] M2 Q) : Wp l g d 0 0 90 m_L_law 607 [] [(2, 1015), (2, 1), (2, 69), (0, (i : Int))] M Q := by
  obtain ⟨x1, hx1⟩ : ∃ x, x = (scI g ((i : Int) + 1).toNat).toInt := ⟨_, rfl⟩
  obtain ⟨x2, hx2⟩ : ∃ x, x = (scI g ((i : Int) + 2).toNat).toInt := ⟨_, rfl⟩
  obtain ⟨x3, hx3⟩ : ∃ x, x = (scI g ((i : Int) + 3).toNat).toInt := ⟨_, rfl⟩
  obtain ⟨x4, hx4⟩ : ∃ x, x = (scI g ((i : Int) + 4).toNat).toInt := ⟨_, rfl⟩
  obtain ⟨x5, hx5⟩ : ∃ x, x = (scI g ((i : Int) + 5).toNat).toInt := ⟨_, rfl⟩
  have hr1 := sc_r g ((i : Int) + 1).toNat
  have hr2 := sc_r g ((i : Int) + 2).toNat
  have hr3 := sc_r g ((i : Int) + 3).toNat
  have hr4 := sc_r g ((i : Int) + 4).toNat
  have hr5 := sc_r g ((i : Int) + 5).toNat
  rw [← hx1] at hr1
  rw [← hx2] at hr2
  rw [← hx3] at hr3
  rw [← hx4] at hr4
  rw [← hx5] at hr5
  obtain ⟨hC, hJ, h0, hIm, h25, hTp, ⟨hBs, hBm, hBw⟩, hSq⟩ := id hV
  obtain ⟨hR, hX, hA, hW, hr⟩ := id hC
  refine wp_aload_n dL_law_607 rfl rfl ?_
  refine wp_aload_n dL_law_608 rfl rfl ?_
  refine wp_iload_n dL_law_609 rfl rfl ?_
  refine wp_iconst dL_law_610 (by decide) ?_
  refine wp_iadd dL_law_611 (by omega) ?_
  refine wp_sld ⟨by omega, by omega⟩ dL_law_612 ?_
  rw [← hx1]
  refine wp_callV0 (d' := d - 1) cv_RL_85 1 rfl [(0, x1)] [] rfl rfl (Or.inl ⟨_, _, rfl, by decide, rfl, by omega, by omega⟩) (by omega) (Nat.le_of_ble_eq_true rfl) dL_law_613 rfl (Nat.le_of_ble_eq_true rfl) (by omega) (loc1 := [(2, 1), (0, x1)]) rfl ?_
  refine cs_drawn (by decide) (by omega) hC (SQ.of hSq hsq) x1 (fun M1 F1 R1 S1 => ?_)
  have J1 := hV.mj (F1.mono (fun i j v => (lm_VU i j v).2)) R1
  have C1 : CJ M1 A := hC.fr F1 R1 cj_VU
  refine wp_aload_n dL_law_616 rfl rfl ?_
  refine wp_aload_n dL_law_617 rfl rfl ?_
  refine wp_iload_n dL_law_618 rfl rfl ?_
  refine wp_iconst dL_law_619 (by decide) ?_
  refine wp_iadd dL_law_620 (by omega) ?_
  refine wp_sld ⟨by omega, by omega⟩ dL_law_621 ?_
  rw [← hx1]
  refine wp_callV0 (d' := d - 1) cv_RL_88 69 rfl [(0, x1)] [(0, ((flA (evC M) (drwA A x1)).length : Int))] rfl rfl (Or.inl ⟨_, _, rfl, by decide, rfl, by omega, by omega⟩) (by omega) (Nat.le_of_ble_eq_true rfl) dL_law_622 rfl (Nat.le_of_ble_eq_true rfl) (by omega) (loc1 := [(2, 69), (0, x1)]) rfl ?_
  refine cm_drawn (by decide) J1 (by omega) x1 (fun M2 J2 F2 => ?_)
  refine wp_icmp_eq (tgt := 968) dL_law_625 (by decide) (fun _ => ?_) (fun h => absurd rfl h)
  have FL : Fr VLm M M2 := (F1.mono (fun i j v => (lm_VU i j v).1)).tr (F2.mono (fun i j v => (lm_VMy i j v).1))
  have C2 : CJ M2 A := C1.mdl (g_VMy F2) J2.1
  exact hk M2 A K B (hV.land FL C2 J2 h0 (Int.le_refl _) (fun _ _ => rfl) (sq_1 hSq S1 (F2.mono nq_VMy)))
set_option maxRecDepth 20000 in
set_option maxHeartbeats 4000000 in
theorem op_ahead {l : Launch} {g : Gw} {d : Nat} (hd : 100 ≤ d) (hL3 : g.2.2.2.2.1 100 ≤ 3072) {i : Nat} (hi : i + 6 ≤ g.2.2.2.2.1 100) {M : Mm} {A K : Ls} {B : Mm} {sq : Int} (hV : IV M A K B sq) (hsq : sq ≤ 100000) {Q : Option Wd → Mm → Prop} (hk : ∀ M2 A2 K2 B2, IV M2 A2 K2 B2 (sq + 20) → Wp l g d 0 0 90 m_L_law 968 [] [(2, 1015), (2, 1), (2, 69), (0, (i : Int))] M2 Q) : Wp l g d 0 0 90 m_L_law 465 [] [(2, 1015), (2, 1), (2, 69), (0, (i : Int))] M Q := by
  obtain ⟨x1, hx1⟩ : ∃ x, x = (scI g ((i : Int) + 1).toNat).toInt := ⟨_, rfl⟩
  obtain ⟨x2, hx2⟩ : ∃ x, x = (scI g ((i : Int) + 2).toNat).toInt := ⟨_, rfl⟩
  obtain ⟨x3, hx3⟩ : ∃ x, x = (scI g ((i : Int) + 3).toNat).toInt := ⟨_, rfl⟩
  obtain ⟨x4, hx4⟩ : ∃ x, x = (scI g ((i : Int) + 4).toNat).toInt := ⟨_, rfl⟩
  obtain ⟨x5, hx5⟩ : ∃ x, x = (scI g ((i : Int) + 5).toNat).toInt := ⟨_, rfl⟩
  have hr1 := sc_r g ((i : Int) + 1).toNat
  have hr2 := sc_r g ((i : Int) + 2).toNat
  have hr3 := sc_r g ((i : Int) + 3).toNat
  have hr4 := sc_r g ((i : Int) + 4).toNat
  have hr5 := sc_r g ((i : Int) + 5).toNat
  rw [← hx1] at hr1
  rw [← hx2] at hr2
  rw [← hx3] at hr3
  rw [← hx4] at hr4
  rw [← hx5] at hr5
  obtain ⟨hC, hJ, h0, hIm, h25, hTp, ⟨hBs, hBm, hBw⟩, hSq⟩ := id hV
  obtain ⟨hR, hX, hA, hW, hr⟩ := id hC
  refine wp_aload_n dL_law_465 rfl rfl ?_
  refine wp_aload_n dL_law_466 rfl rfl ?_
  refine wp_iload_n dL_law_467 rfl rfl ?_
  refine wp_iconst dL_law_468 (by decide) ?_
  refine wp_iadd dL_law_469 (by omega) ?_
  refine wp_sld ⟨by omega, by omega⟩ dL_law_470 ?_
  rw [← hx1]
  refine wp_aload_n dL_law_471 rfl rfl ?_
  refine wp_iload_n dL_law_472 rfl rfl ?_
  refine wp_iconst dL_law_473 (by decide) ?_
  refine wp_iadd dL_law_474 (by omega) ?_
  refine wp_sld ⟨by omega, by omega⟩ dL_law_475 ?_
  rw [← hx2]
  refine wp_callV0 (d' := d - 1) cv_RL_69 1 rfl [(0, x1), (0, x2)] [] rfl rfl (Or.inl ⟨_, _, rfl, by decide, rfl, by omega, by omega⟩) (by omega) (Nat.le_of_ble_eq_true rfl) dL_law_476 rfl (Nat.le_of_ble_eq_true rfl) (by omega) (loc1 := [(2, 1), (0, x1), (0, x2), (9, 0)]) rfl ?_
  refine cs_ahead (by decide) (by omega) hC hSq.1 (by have := hSq.2; omega) x1 x2 (fun c1 => ?_) (fun c1 c2 => ?_) (fun c1 c2 M1 F1 R1 S1 => ?_)
  · refine wp_aload_n dL_law_479 rfl rfl ?_
    refine wp_aload_n dL_law_480 rfl rfl ?_
    refine wp_iload_n dL_law_481 rfl rfl ?_
    refine wp_iconst dL_law_482 (by decide) ?_
    refine wp_iadd dL_law_483 (by omega) ?_
    refine wp_sld ⟨by omega, by omega⟩ dL_law_484 ?_
    rw [← hx1]
    refine wp_aload_n dL_law_485 rfl rfl ?_
    refine wp_iload_n dL_law_486 rfl rfl ?_
    refine wp_iconst dL_law_487 (by decide) ?_
    refine wp_iadd dL_law_488 (by omega) ?_
    refine wp_sld ⟨by omega, by omega⟩ dL_law_489 ?_
    rw [← hx2]
    refine wp_callV0 (d' := d - 1) cv_RL_72 69 rfl [(0, x1), (0, x2)] [(0, (-2))] rfl rfl (Or.inl ⟨_, _, rfl, by decide, rfl, by omega, by omega⟩) (by omega) (Nat.le_of_ble_eq_true rfl) dL_law_490 rfl (Nat.le_of_ble_eq_true rfl) (by omega) (loc1 := [(2, 69), (0, x1), (0, x2)]) rfl ?_
    refine cm_ahead (by decide) hJ (by omega) x1 x2 (fun _ => ?_) (fun h => absurd h c1) (fun h => absurd h c1)
    refine wp_icmp_eq (tgt := 968) dL_law_493 (by decide) (fun _ => ?_) (fun h => absurd h (by decide))
    exact hk M A K B (hV.le (by omega))
  · refine wp_aload_n dL_law_479 rfl rfl ?_
    refine wp_aload_n dL_law_480 rfl rfl ?_
    refine wp_iload_n dL_law_481 rfl rfl ?_
    refine wp_iconst dL_law_482 (by decide) ?_
    refine wp_iadd dL_law_483 (by omega) ?_
    refine wp_sld ⟨by omega, by omega⟩ dL_law_484 ?_
    rw [← hx1]
    refine wp_aload_n dL_law_485 rfl rfl ?_
    refine wp_iload_n dL_law_486 rfl rfl ?_
    refine wp_iconst dL_law_487 (by decide) ?_
    refine wp_iadd dL_law_488 (by omega) ?_
    refine wp_sld ⟨by omega, by omega⟩ dL_law_489 ?_
    rw [← hx2]
    refine wp_callV0 (d' := d - 1) cv_RL_72 69 rfl [(0, x1), (0, x2)] [(0, (-1))] rfl rfl (Or.inl ⟨_, _, rfl, by decide, rfl, by omega, by omega⟩) (by omega) (Nat.le_of_ble_eq_true rfl) dL_law_490 rfl (Nat.le_of_ble_eq_true rfl) (by omega) (loc1 := [(2, 69), (0, x1), (0, x2)]) rfl ?_
    refine cm_ahead (by decide) hJ (by omega) x1 x2 (fun h => absurd c1 h) (fun _ _ M2 J2 F2 => ?_) (fun _ h => absurd c2 h)
    refine wp_icmp_eq (tgt := 968) dL_law_493 (by decide) (fun _ => ?_) (fun h => absurd h (by decide))
    have F1 : Fr VX M M := Fr.rf
    have C1 := hC
    have FL : Fr VLm M M2 := (F1.mono (fun i j v => (lm_VX i j v).1)).tr (F2.mono (fun i j v => (lm_VMp i j v).1))
    have C2 : CJ M2 A := C1.mdl (g_VMp F2) J2.1
    exact hk M2 A K B (hV.land FL C2 J2 h0 (Int.le_refl _) (fun _ _ => rfl) (sq_0 hSq ((F1.mono nq_VX).tr (F2.mono nq_VMp))))
  · have J1 := hV.mj (F1.mono (fun i j v => (lm_VU i j v).2)) R1
    have C1 : CJ M1 A := hC.fr F1 R1 cj_VU
    refine wp_aload_n dL_law_479 rfl rfl ?_
    refine wp_aload_n dL_law_480 rfl rfl ?_
    refine wp_iload_n dL_law_481 rfl rfl ?_
    refine wp_iconst dL_law_482 (by decide) ?_
    refine wp_iadd dL_law_483 (by omega) ?_
    refine wp_sld ⟨by omega, by omega⟩ dL_law_484 ?_
    rw [← hx1]
    refine wp_aload_n dL_law_485 rfl rfl ?_
    refine wp_iload_n dL_law_486 rfl rfl ?_
    refine wp_iconst dL_law_487 (by decide) ?_
    refine wp_iadd dL_law_488 (by omega) ?_
    refine wp_sld ⟨by omega, by omega⟩ dL_law_489 ?_
    rw [← hx2]
    refine wp_callV0 (d' := d - 1) cv_RL_72 69 rfl [(0, x1), (0, x2)] [(0, (ahdA (evC M) A x1 x2))] rfl rfl (Or.inl ⟨_, _, rfl, by decide, rfl, by omega, by omega⟩) (by omega) (Nat.le_of_ble_eq_true rfl) dL_law_490 rfl (Nat.le_of_ble_eq_true rfl) (by omega) (loc1 := [(2, 69), (0, x1), (0, x2)]) rfl ?_
    refine cm_ahead (by decide) J1 (by omega) x1 x2 (fun h => absurd c1 h) (fun _ h => absurd h c2) (fun _ _ M2 J2 F2 => ?_)
    refine wp_icmp_eq (tgt := 968) dL_law_493 (by decide) (fun _ => ?_) (fun h => absurd rfl h)
    have FL : Fr VLm M M2 := (F1.mono (fun i j v => (lm_VU i j v).1)).tr (F2.mono (fun i j v => (lm_VMp i j v).1))
    have C2 : CJ M2 A := C1.mdl (g_VMp F2) J2.1
    exact hk M2 A K B (hV.land FL C2 J2 h0 (Int.le_refl _) (fun _ _ => rfl) (sq_n hSq S1 (F2.mono nq_VMp)))
