/-! ===== the law: text ===== -/
theorem ltA_cg {f f' : Nat → Int} {z : Int} (h : ∀ i : Nat, (i : Int) < z → f i = f' i) : ltA f z = ltA f' z := by
  funext x
  unfold ltA
  by_cases c : 0 ≤ x ∧ x < z
  · rw [if_pos c, if_pos c]
    exact h x.toNat (by omega)
  · rw [if_neg c, if_neg c]
theorem skp_cg {P : Int → Bool} {f f' : Nat → Int} {z : Int} (e : ltA f z = ltA f' z) : ∀ m x : Nat, skp P f z m x = skp P f' z m x
  | 0, _ => rfl
  | m + 1, x => by
    unfold skp
    rw [e, skp_cg e m (x + 1)]
theorem nmr_cg {f f' : Nat → Int} {z : Int} (e : ltA f z = ltA f' z) : ∀ (m x : Nat) (v : Int), nmr f z m x v = nmr f' z m x v
  | 0, _, _ => rfl
  | m + 1, x, v => by
    unfold nmr
    rw [e, nmr_cg e m (x + 1)]
theorem wmB_cg {f f' : Nat → Int} {z : Int} (h : ∀ i : Nat, (i : Int) < z → f i = f' i) {x y : Nat} (hy : (y : Int) ≤ z) (k : Nat) : wmB k f x y = wmB k f' x y := by
  unfold wmB
  refine decide_eq_decide.mpr ⟨fun q => ⟨q.1, fun i hi => ?_⟩, fun q => ⟨q.1, fun i hi => ?_⟩⟩
  · rw [← h (x + i) (by have := q.1; omega)]
    exact q.2 i hi
  · rw [h (x + i) (by have := q.1; omega)]
    exact q.2 i hi
theorem wdT_cg {f f' : Nat → Int} {z : Int} (h : ∀ i : Nat, (i : Int) < z → f i = f' i) {x y : Nat} (hy : (y : Int) ≤ z) : ∀ k : Nat, wdT f x y k = wdT f' x y k
  | 0 => rfl
  | k + 1 => by
    unfold wdT
    rw [wmB_cg h hy, wdT_cg h hy k]
theorem lxA_cg {f f' : Nat → Int} {z : Int} (e : ltA f z = ltA f' z) : lxA f z = lxA f' z := funext fun x => skp_cg e 160 x
theorem lxN_cg {f f' : Nat → Int} {z : Int} (e : ltA f z = ltA f' z) : lxN f z = lxN f' z := by
  funext x
  unfold lxN
  rw [lxA_cg e, e, skp_cg e, nmr_cg e]
theorem lxV_cg {f f' : Nat → Int} {z : Int} (e : ltA f z = ltA f' z) : lxV f z = lxV f' z := by
  funext x
  unfold lxV
  rw [lxA_cg e, nmr_cg e]
theorem lxT_cg {f f' : Nat → Int} {z : Int} (h : ∀ i : Nat, (i : Int) < z → f i = f' i) : lxT f z = lxT f' z := by
  have e := ltA_cg h
  funext x
  unfold lxT
  rw [lxA_cg e, e, skp_cg e, nmr_cg e]
  by_cases c1 : ltA f' z (lxA f' z x) = -1
  · rw [if_pos c1, if_pos c1]
  · rw [if_neg c1, if_neg c1]
    by_cases c2 : ltr (ltA f' z (lxA f' z x)) = true
    · rw [if_pos c2, if_pos c2]
      have c3 := ltA_lt (P := ltr) (by decide) c2
      exact wdT_cg h (skp_le (P := ltr) (by decide) (f := f') (z := z) 160 (lxA f' z x) (by omega)).1 12
    · rw [if_neg c2, if_neg c2]
theorem gL_cg {f f' : Nat → Int} {z : Int} (eT : lxT f z = lxT f' z) (eN : lxN f z = lxN f' z) {op : Int → Int} {sub : Nat → PR} : ∀ (m x : Nat) (c : List Int) (v : Vl), gL f z op sub m x c v = gL f' z op sub m x c v
  | 0, _, _, _ => rfl
  | m + 1, x, c, v => by
    unfold gL
    rw [eT, eN]
    have ih : ∀ (y : Nat) (c' : List Int) (v' : Vl), gL f z op sub m y (c ++ c' ++ [op (lxT f' z x)]) (fun e => jn (op (lxT f' z x)) (v e) (v' e)) = gL f' z op sub m y (c ++ c' ++ [op (lxT f' z x)]) (fun e => jn (op (lxT f' z x)) (v e) (v' e)) := fun y c' v' => gL_cg eT eN m y _ _
    simp only [ih]
theorem gBn_cg {f f' : Nat → Int} {z : Int} (eT : lxT f z = lxT f' z) (eN : lxN f z = lxN f' z) (op : Int → Int) (m : Nat) : gBn f z op m = gBn f' z op m := by
  funext sub x
  unfold gBn
  have ih : ∀ (y : Nat) (c' : List Int) (v' : Vl), gL f z op sub m y c' v' = gL f' z op sub m y c' v' := fun y c' v' => gL_cg eT eN m y _ _
  simp only [ih]
theorem oneP_cg {f f' : Nat → Int} {z : Int} (eA : lxA f z = lxA f' z) (eT : lxT f z = lxT f' z) (eN : lxN f z = lxN f' z) (eV : lxV f z = lxV f' z) (o : Option P3) : oneP f z o = oneP f' z o := by
  funext x
  unfold oneP
  rw [eT, eN, eA, eV]
theorem notP_cg {f f' : Nat → Int} {z : Int} (eA : lxA f z = lxA f' z) (eT : lxT f z = lxT f' z) (eN : lxN f z = lxN f' z) (o : Option P3) : notP f z o = notP f' z o := by
  funext c x
  unfold notP
  rw [eT, eN, eA]
theorem bld_cg {f f' : Nat → Int} {z : Int} (eA : lxA f z = lxA f' z) (eT : lxT f z = lxT f' z) (eN : lxN f z = lxN f' z) (eV : lxV f z = lxV f' z) (o : Option P3) : bld f z o = bld f' z o := by
  unfold bld cmpP
  rw [oneP_cg eA eT eN eV, notP_cg eA eT eN]
  simp only [gBn_cg eT eN]
theorem lv_cg {f f' : Nat → Int} {z : Int} (eA : lxA f z = lxA f' z) (eT : lxT f z = lxT f' z) (eN : lxN f z = lxN f' z) (eV : lxV f z = lxV f' z) : ∀ k, lv f z k = lv f' z k
  | 0 => bld_cg eA eT eN eV none
  | k + 1 => by
    unfold lv
    rw [lv_cg eA eT eN eV k]
    exact bld_cg eA eT eN eV _
theorem prtP_cg {f f' : Nat → Int} {z : Int} (eA : lxA f z = lxA f' z) (eT : lxT f z = lxT f' z) (eN : lxN f z = lxN f' z) (eV : lxV f z = lxV f' z) : prtP f z = prtP f' z := by
  funext key x
  unfold prtP
  rw [lv_cg eA eT eN eV, eT, eN, eA]
theorem txtP_cg {f f' : Nat → Int} {z : Int} (h : ∀ i : Nat, (i : Int) < z → f i = f' i) : txtP f z = txtP f' z := by
  have e := ltA_cg h
  have eA := lxA_cg e
  have eT := lxT_cg h
  unfold txtP
  rw [prtP_cg eA eT (lxN_cg e) (lxV_cg e), eT, eA]
/-! a text that is written -/
theorem vex_1 {s : Nat} (hs : s < 6) : ∀ i j, VEx (27 + 4 * s) i j → VCl i j ∧ ¬ ((i = 2 ∧ j < 4) ∨ (2 < i ∧ i ≤ 8)) ∧ Vq i j ∧ ¬ VS i j ∧ ¬ VMh i j ∧ ¬ VIm i j := by
  intro i j h
  unfold VEx VE at h
  unfold VCl Vq VS VMh VIm VMk
  omega
theorem vtm_1 {s : Nat} : ∀ i j, VTm s i j → 69 ≤ i ∧ Vq i j ∧ ¬ VS i j ∧ ¬ VMh i j ∧ ¬ VIm i j ∧ VN i j := by
  intro i j h
  unfold VTm V70 at h
  unfold Vq VS VMh VN VIm VMk
  omega
theorem VEx.sr {s : Nat} (hs : s < 6) {M M' : Mm} (h : Fr (VEx (27 + 4 * s)) M M') (hR : SR M) : SR M' := by
  have c : s = 0 ∨ s = 1 ∨ s = 2 ∨ s = 3 ∨ s = 4 ∨ s = 5 := by omega
  rcases c with c | c | c | c | c | c
  · subst c; exact hR.frL h (by unfold VEx VE; decide +kernel)
  · subst c; exact hR.frL h (by unfold VEx VE; decide +kernel)
  · subst c; exact hR.frL h (by unfold VEx VE; decide +kernel)
  · subst c; exact hR.frL h (by unfold VEx VE; decide +kernel)
  · subst c; exact hR.frL h (by unfold VEx VE; decide +kernel)
  · subst c; exact hR.frL h (by unfold VEx VE; decide +kernel)
theorem evC_ne {M M' : Mm} {s t : Nat} (hs : s < 6) (ht : t ≠ s) (f : Fr (VEx (27 + 4 * s)) M M') : evC M' t = evC M t := by
  have e1 : M' (27 + 4 * t + 1) = M (27 + 4 * t + 1) := funext fun j => f _ j (by unfold VEx VE; omega)
  have e2 : M' (27 + 4 * t + 2) = M (27 + 4 * t + 2) := funext fun j => f _ j (by unfold VEx VE; omega)
  unfold evC
  rw [e1, e2]
theorem tx_ne {M M' : Mm} {s t : Nat} (hs : s < 6) (ht : t ≠ s) (f : Fr (VEx (27 + 4 * s)) M M') (k : Nat) : M' (27 + 4 * t + 2) k = M (27 + 4 * t + 2) k := f _ k (by unfold VEx VE; omega)
/-- the texts of the model before the new one -/
theorem TXM.nx {M M' : Mm} {s t : Nat} {f : Nat → Int} {z : Int} (h : TXM M t f z) (ht : t ≠ s) (g : Fr (VTm s) M M') : TXM M' t f z := by
  obtain ⟨h1, h2, h3, h4⟩ := h
  exact ⟨(g 71 t (by unfold VTm V70; omega)).trans h1, h2, h3, fun i hi => (g 70 _ (by unfold VTm V70; omega)).trans (h4 i hi)⟩
theorem Rm.tx {M M' : Mm} {A : Ls} {s : Nat} (h : Rm M A) (g : Fr (VTm s) M M') : Rm M' A :=
  h.fr (g 69 7 (by unfold VTm V70; omega)) (g 69 4 (by unfold VTm V70; omega)) (g 69 10 (by unfold VTm V70; omega)) (g 69 12 (by unfold VTm V70; omega)) (fun j => g 73 j (by unfold VTm V70; omega)) (fun j => g 74 j (by unfold VTm V70; omega)) (fun j => g 75 j (by unfold VTm V70; omega))
theorem IV.text {M M1 M2 : Mm} {A K : Ls} {B : Mm} {sq : Int} {s : Nat} (hV : IV M A K B sq) (hs : s < 6) (h25 : M 25 1 = (s : Int)) (F1 : Fr (VEx (27 + 4 * s)) M M1) (F2 : Fr (VTm s) M1 M2) (z1 : M1 23 1 = 0) (z2 : M2 69 6 = 0)
    (h : (M1 25 1 = (s : Int) ∧ M2 69 3 = (s : Int)) ∨ (M1 25 1 = (s : Int) + 1 ∧ M2 69 3 = (s : Int) + 1 ∧ ∃ f z q, TXC M1 (27 + 4 * s) q ∧ TXM M2 s f z ∧ BT f z ∧ txtP f z = .inr q)) : IV M2 A K B (sq + 20) := by
  obtain ⟨hC, hJ, h0, hIm, h3, hTp, ⟨hBs, hBm, hBw⟩, hSq⟩ := hV
  obtain ⟨hR, hX, hA, hW, hr⟩ := hC
  obtain ⟨_, hM, _, _, hT⟩ := hJ
  have R1 : SR M1 := VEx.sr hs F1 hR
  have R2 : SR M2 := VTm.sr F2 R1
  have F1v := fun i j v => vex_1 (s := s) hs i j v
  have F2v := fun i j v => vtm_1 (s := s) i j v
  have e251 : M2 25 1 = M1 25 1 := F2 25 1 (by unfold VTm V70; omega)
  have hM2 : Rm M2 A := (hM.fr (F1 69 7 (by unfold VEx VE; omega)) (F1 69 4 (by unfold VEx VE; omega)) (F1 69 10 (by unfold VEx VE; omega)) (F1 69 12 (by unfold VEx VE; omega)) (fun j => F1 73 j (by unfold VEx VE; omega)) (fun j => F1 74 j (by unfold VEx VE; omega)) (fun j => F1 75 j (by unfold VEx VE; omega))).tx F2
  have hA2 : Rc M2 2 A := (hA.frV F1 (fun i j v => (F1v i j v).2.1)).frV F2 (fun i j v => by have := (F2v i j v).1; omega)
  have ev : evC M2 = evC M1 := evC_frN (F2.mono (fun i j v => (F2v i j v).2.2.2.2.2))
  have eo : ∀ t : Nat, t ≠ s → evC M2 t = evC M t := fun t ht => by rw [ev, evC_ne hs ht F1]
  have tl : ∀ t : Nat, (t : Int) < (s : Int) → ∃ f z q, TXM M2 t f z ∧ BT f z ∧ txtP f z = .inr q ∧ (∀ e, evC M2 t 0 e = q.1.2 e) ∧ (∀ e, evC M2 t 1 e = q.2.1.2 e) ∧ ∀ e, evC M2 t 2 e = q.2.2.2 e := by
    intro t ht
    obtain ⟨f, z, q, a1, a2⟩ := hT.2.2 t (by rw [← h3, h25]; exact ht)
    rw [eo t (by omega)]
    exact ⟨f, z, q, (a1.fr (fun j => F1 70 j (by unfold VEx VE; omega)) (fun j => F1 71 j (by unfold VEx VE; omega))).nx (by omega) F2, a2⟩
  have s1 : 1 ≤ (s : Int) := by rw [← h25, h3]; exact hT.1
  have txo : ∀ t : Nat, (t : Int) < (s : Int) → 0 ≤ M2 (27 + 4 * t + 2) 0 ∧ M2 (27 + 4 * t + 2) 0 ≤ M2 (27 + 4 * t + 2) 1 ∧ M2 (27 + 4 * t + 2) 1 ≤ M2 (27 + 4 * t + 2) 2 ∧ M2 (27 + 4 * t + 2) 2 ≤ 160 := by
    intro t ht
    have e : ∀ k, M2 (27 + 4 * t + 2) k = M (27 + 4 * t + 2) k := fun k => (F2 _ k (by unfold VTm V70; omega)).trans (tx_ne hs (by omega) F1 k)
    rw [e 0, e 1, e 2]
    exact hX.2.2 t (by rw [h25]; exact ht)
  have I2 : ∀ (h : (s : Int) ≤ M1 25 1), IMG M2 A K := fun h => (hIm.fr F1 (fun i j v => (F1v i j v).2.2.2.2.2) (by omega)).fr F2 (fun i j v => (F2v i j v).2.2.2.2.1) (by omega)
  have T2 : TPE M2 := by
    have e1 : M2 23 1 = 0 := (F2 23 1 (by unfold VTm V70; omega)).trans z1
    exact ⟨by rw [e1, z2], by rw [e1]; decide, by rw [e1]; decide, fun i hi => by rw [e1] at hi; omega⟩
  have B2 : Rs M2 B ∧ Rms M2 B ∧ Ws B := ⟨(hBs.fr F1 (fun i j v => (F1v i j v).2.2.2.1)).fr F2 (fun i j v => (F2v i j v).2.2.1), (hBm.fr F1 (fun i j v => (F1v i j v).2.2.2.2.1)).fr F2 (fun i j v => (F2v i j v).2.2.2.1), hBw⟩
  have Q2 := sq_0 hSq ((F1.mono (fun i j v => (F1v i j v).2.2.1)).tr (F2.mono (fun i j v => (F2v i j v).2.1)))
  rcases h with ⟨a1, a2⟩ | ⟨a1, a2, f, z, q, b1, b2, b3, b4⟩
  · refine ⟨⟨R2, ⟨by rw [e251, a1]; exact s1, by rw [e251, a1]; omega, fun t ht => txo t (by rw [e251, a1] at ht; exact ht)⟩, hA2, hW, hr.1, by rw [e251, a1, ← h25]; exact hr.2⟩, ⟨R2, hM2, hW, ⟨hr.1, by rw [a2, ← h25]; exact hr.2⟩, by rw [a2]; exact s1, by rw [a2]; omega, fun t ht => tl t (by rw [a2] at ht; exact ht)⟩, h0, I2 (by omega), by rw [e251, a1, a2], T2, B2, Q2⟩
  · have qv := txt_QV b2.2.1 b4
    have b1' : TXC M2 (27 + 4 * s) q := b1.frm (fun i j u v _ => F2 i j (by unfold VTm V70; omega))
    have ee := evC_txt hs b1' qv.1
    refine ⟨⟨R2, ⟨by rw [e251, a1]; omega, by rw [e251, a1]; omega, fun t ht => ?_⟩, hA2, hW, hr.1, by rw [e251, a1]; have := hr.2; omega⟩, ⟨R2, hM2, hW, ⟨hr.1, by rw [a2]; have := hr.2; omega⟩, by rw [a2]; omega, by rw [a2]; omega, fun t ht => ?_⟩, h0, I2 (by omega), by rw [e251, a1, a2], T2, B2, Q2⟩
    · rw [e251, a1] at ht
      by_cases c : t = s
      · subst c
        obtain ⟨_, l0, l1, l2⟩ := b1'
        have ql := qv.2
        have z160 := b2.2.2.1
        rw [l0, l1, l2]
        simp only [List.length_append] at ql ⊢
        omega
      · exact txo t (by omega)
    · rw [a2] at ht
      by_cases c : t = s
      · subst c
        exact ⟨f, z, q, b2, b3, b4, ee⟩
      · exact tl t (by omega)
set_option maxRecDepth 20000 in
set_option maxHeartbeats 4000000 in
theorem op_text {l : Launch} {g : Gw} {d : Nat} (hd : 100 ≤ d) (hL3 : g.2.2.2.2.1 100 ≤ 3072) {i : Nat} (hi : i + 6 ≤ g.2.2.2.2.1 100) {M : Mm} {A K : Ls} {B : Mm} {sq : Int} (hV : IV M A K B sq) (hsq : sq ≤ 100000) {Q : Option Wd → Mm → Prop} (hk : ∀ M2 A2 K2 B2, IV M2 A2 K2 B2 (sq + 20) → Wp l g d 0 0 90 m_L_law 968 [] [(2, 1015), (2, 1), (2, 69), (0, (i : Int))] M2 Q) : Wp l g d 0 0 90 m_L_law 288 [] [(2, 1015), (2, 1), (2, 69), (0, (i : Int))] M Q := by
  obtain ⟨x1, hx1⟩ : ∃ x, x = (scI g ((i : Int) + 1).toNat).toInt := ⟨_, rfl⟩
  obtain ⟨x2, hx2⟩ : ∃ x, x = (scI g ((i : Int) + 2).toNat).toInt := ⟨_, rfl⟩
  obtain ⟨x3, hx3⟩ : ∃ x, x = (scI g ((i : Int) + 3).toNat).toInt := ⟨_, rfl⟩
  obtain ⟨x4, hx4⟩ : ∃ x, x = (scI g ((i : Int) + 4).toNat).toInt := ⟨_, rfl⟩
  obtain ⟨x5, hx5⟩ : ∃ x, x = (scI g ((i : Int) + 5).toNat).toInt := ⟨_, rfl⟩
  have hr1 := sc_r g ((i : Int) + 1).toNat
  have hr2 := sc_r g ((i : Int) + 2).toNat
  have hr3 := sc_r g ((i : Int) + 3).toNat
  have hr4 := sc_r g ((i : Int) + 4).toNat
  have hr5 := sc_r g ((i : Int) + 5).toNat
  rw [← hx1] at hr1
  rw [← hx2] at hr2
  rw [← hx3] at hr3
  rw [← hx4] at hr4
  rw [← hx5] at hr5
  obtain ⟨hC, hJ, h0, hIm, h25, hTp, ⟨hBs, hBm, hBw⟩, hSq⟩ := id hV
  obtain ⟨hR, hX, hA, hW, hr⟩ := id hC
  refine wp_aload_n dL_law_288 rfl rfl ?_
  refine wp_callV0 (d' := d - 1) cv_RL_32 1 rfl [] [] rfl rfl (Or.inl ⟨_, _, rfl, by decide, rfl, by omega, by omega⟩) (by omega) (Nat.le_of_ble_eq_true rfl) dL_law_289 rfl (Nat.le_of_ble_eq_true rfl) (by omega) (loc1 := [(2, 1), (9, 0)]) rfl ?_
  obtain ⟨s, hs⟩ : ∃ s : Nat, M 25 1 = (s : Int) := ⟨(M 25 1).toNat, by have := hX.1; omega⟩
  have hs6 : s ≤ 6 := by have := hX.2.1; omega
  have hB1 : BT (M 24) (M 23 1) := fun i hi => (hTp.2.2.2 i hi).2
  refine cs_text (by decide) (by omega) (f := M 24) (z := M 23 1) ⟨hR.r, rfl, rfl, hTp.2.1, hTp.2.2.1⟩ hB1 hs hs6 (fun c1 => ?_) (fun c1 p M1 tq F0 z1 => ?_) (fun c1 q M1 tq F1 z1 s1 xc => ?_)
  · refine wp_aload_n dL_law_292 rfl rfl ?_
    refine wp_callV0 (d' := d - 1) cv_RL_36 69 rfl [] [(0, (-4))] rfl rfl (Or.inl ⟨_, _, rfl, by decide, rfl, by omega, by omega⟩) (by omega) (Nat.le_of_ble_eq_true rfl) dL_law_293 rfl (Nat.le_of_ble_eq_true rfl) (by omega) (loc1 := [(2, 69), (9, 0)]) rfl ?_
    refine cm_text (by decide) (by omega) hR (s := s) (N := (M 23 1).toNat) (h25.symm.trans hs) hs6 (hTp.1.symm.trans (by have := hTp.2.1; omega)) (by have := hTp.2.2.1; omega) (by rw [show ((M 23 1).toNat : Int) = M 23 1 by have := hTp.2.1; omega]; exact fun i hi => by rw [← (hTp.2.2.2 i hi).1]; exact (hTp.2.2.2 i hi).2) (fun _ => ?_) (fun h => False.elim (by omega)) (fun h => False.elim (by omega))
    refine wp_icmp_eq (tgt := 968) dL_law_296 (by decide) (fun _ => ?_) (fun h => absurd h (by decide))
    exact hk M A K B (hV.le (by omega))
  · have F1 : Fr (VEx (27 + 4 * s)) M M1 := F0.mono VE.x
    have R1 : SR M1 := VEx.sr c1 F1 hR
    have e3 : M1 69 3 = (s : Int) := (F1 69 3 (by unfold VEx VE; omega)).trans (h25.symm.trans hs)
    have e6 : M1 69 6 = ((M 23 1).toNat : Int) := (F1 69 6 (by unfold VEx VE; omega)).trans (hTp.1.symm.trans (by have := hTp.2.1; omega))
    have e72 : M1 72 = M 72 := funext fun j => F1 72 j (by unfold VEx VE; omega)
    have ez : ((M 23 1).toNat : Int) = M 23 1 := by have := hTp.2.1; omega
    have cg : txtP (M 24) (M 23 1) = txtP (M1 72) ((M 23 1).toNat : Int) := by rw [e72, ez]; exact txtP_cg (fun i hi => (hTp.2.2.2 i hi).1)
    have hB2 : BT (M1 72) ((M 23 1).toNat : Int) := by rw [e72, ez]; exact fun i hi => by rw [← (hTp.2.2.2 i hi).1]; exact (hTp.2.2.2 i hi).2
    rw [cg] at tq
    refine wp_aload_n dL_law_292 rfl rfl ?_
    refine wp_callV0 (d' := d - 1) cv_RL_36 69 rfl [] [(0, (wrap (-100 - (p : Int))))] rfl rfl (Or.inl ⟨_, _, rfl, by decide, rfl, by omega, by omega⟩) (by omega) (Nat.le_of_ble_eq_true rfl) dL_law_293 rfl (Nat.le_of_ble_eq_true rfl) (by omega) (loc1 := [(2, 69), (9, 0)]) rfl ?_
    refine cm_text (by decide) (by omega) R1 (s := s) (N := (M 23 1).toNat) e3 hs6 e6 (by have := hTp.2.2.1; omega) hB2 (fun h => False.elim (by omega)) (fun _ p2 M2 tq2 F2 z2 n3 => ?_) (fun _ q2 M2 tq2 => by rw [tq] at tq2; cases tq2)
    obtain rfl : p = p2 := by rw [tq] at tq2; exact Sum.inl.inj tq2
    refine wp_icmp_eq (tgt := 968) dL_law_296 (by decide) (fun _ => ?_) (fun h => absurd rfl h)
    exact hk M2 A K B (hV.text c1 hs F1 F2 z1 z2 (Or.inl ⟨(F0 25 1 (by unfold VE; omega)).trans hs, n3⟩))
  · have R1 : SR M1 := VEx.sr c1 F1 hR
    have e3 : M1 69 3 = (s : Int) := (F1 69 3 (by unfold VEx VE; omega)).trans (h25.symm.trans hs)
    have e6 : M1 69 6 = ((M 23 1).toNat : Int) := (F1 69 6 (by unfold VEx VE; omega)).trans (hTp.1.symm.trans (by have := hTp.2.1; omega))
    have e72 : M1 72 = M 72 := funext fun j => F1 72 j (by unfold VEx VE; omega)
    have ez : ((M 23 1).toNat : Int) = M 23 1 := by have := hTp.2.1; omega
    have cg : txtP (M 24) (M 23 1) = txtP (M1 72) ((M 23 1).toNat : Int) := by rw [e72, ez]; exact txtP_cg (fun i hi => (hTp.2.2.2 i hi).1)
    have hB2 : BT (M1 72) ((M 23 1).toNat : Int) := by rw [e72, ez]; exact fun i hi => by rw [← (hTp.2.2.2 i hi).1]; exact (hTp.2.2.2 i hi).2
    rw [cg] at tq
    refine wp_aload_n dL_law_292 rfl rfl ?_
    refine wp_callV0 (d' := d - 1) cv_RL_36 69 rfl [] [(0, (s : Int))] rfl rfl (Or.inl ⟨_, _, rfl, by decide, rfl, by omega, by omega⟩) (by omega) (Nat.le_of_ble_eq_true rfl) dL_law_293 rfl (Nat.le_of_ble_eq_true rfl) (by omega) (loc1 := [(2, 69), (9, 0)]) rfl ?_
    refine cm_text (by decide) (by omega) R1 (s := s) (N := (M 23 1).toNat) e3 hs6 e6 (by have := hTp.2.2.1; omega) hB2 (fun h => False.elim (by omega)) (fun _ p2 M2 tq2 => by rw [tq] at tq2; cases tq2) (fun _ q2 M2 tq2 F2 z2 s2 xm => ?_)
    obtain rfl : q = q2 := by rw [tq] at tq2; exact Sum.inr.inj tq2
    refine wp_icmp_eq (tgt := 968) dL_law_296 (by decide) (fun _ => ?_) (fun h => absurd rfl h)
    exact hk M2 A K B (hV.text c1 hs F1 F2 z1 z2 (Or.inr ⟨s1, s2, _, _, q, xc, xm, hB2, tq⟩))
