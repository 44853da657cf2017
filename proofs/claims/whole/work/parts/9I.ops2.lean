/-! ===== the law: calls that change the land ===== -/
theorem sr_V2 {M M1 : Mm} (f : Fr V2 M M1) (hR : SR M) : SR M1 := hR.frL f (by unfold V2; decide +kernel)
theorem Rc.com {M : Mm} {A : Ls} {x : Int} (h : Rc M 2 A) : Rc (mu (mu (mu M 7 x.toNat 0) 8 (M 2 3).toNat x) 2 3 (M 2 3 + 1)) 2 (comA A x) := by
  obtain ⟨h0, h1, h2, h3, hr, hl⟩ := h
  refine ⟨h0, h1, h2, ?_, fun r i a b => ?_, fun q hq => ?_⟩
  · show M 2 3 + 1 = A.1 3 + 1
    rw [h3]
  · have b : (i : Int) < A.1 2 := b
    show mu (mu (mu M 7 x.toNat 0) 8 (M 2 3).toNat x) 2 3 (M 2 3 + 1) (3 + r) i = mu (mu A.2 4 x.toNat 0) 5 (A.1 3).toNat x r i
    rw [mu_ne (mu A.2 4 x.toNat 0) _ _ (show r ≠ 5 by omega), mu_ne _ _ _ (show 3 + r ≠ 2 by omega), mu_ne _ _ _ (show 3 + r ≠ 8 by omega)]
    by_cases c : r = 4
    · subst c
      by_cases c2 : i = x.toNat
      · subst c2
        rw [mu_self]
        exact (mu_self _ _ _ _).symm
      · rw [mu_nj A.2 _ _ c2]
        exact (mu_nj _ _ _ c2).trans (hr 4 i (by omega) b)
    · rw [mu_ne A.2 _ _ c, mu_ne _ _ _ (show 3 + r ≠ 7 by omega)]
      exact hr r i a b
  · have hq : (q : Int) < A.1 3 + 1 := hq
    show mu (mu M 7 x.toNat 0) 8 (M 2 3).toNat x 8 q = mu (mu A.2 4 x.toNat 0) 5 (A.1 3).toNat x 5 q
    rw [h3]
    by_cases c : q = (A.1 3).toNat
    · subst c
      rw [mu_self, mu_self]
    · rw [mu_nj _ _ _ c, mu_nj _ _ _ c]
      exact hl q (by omega)
set_option maxRecDepth 20000 in
set_option maxHeartbeats 4000000 in
theorem op_set {l : Launch} {g : Gw} {d : Nat} (hd : 100 ≤ d) (hL3 : g.2.2.2.2.1 100 ≤ 3072) {i : Nat} (hi : i + 6 ≤ g.2.2.2.2.1 100) {M : Mm} {A K : Ls} {B : Mm} {sq : Int} (hV : IV M A K B sq) (hsq : sq ≤ 100000) {Q : Option Wd → Mm → Prop} (hk : ∀ M2 A2 K2 B2, IV M2 A2 K2 B2 (sq + 20) → Wp l g d 0 0 90 m_L_law 968 [] [(2, 1015), (2, 1), (2, 69), (0, (i : Int))] M2 Q) : Wp l g d 0 0 90 m_L_law 156 [] [(2, 1015), (2, 1), (2, 69), (0, (i : Int))] M Q := by
  obtain ⟨x1, hx1⟩ : ∃ x, x = (scI g ((i : Int) + 1).toNat).toInt := ⟨_, rfl⟩
  obtain ⟨x2, hx2⟩ : ∃ x, x = (scI g ((i : Int) + 2).toNat).toInt := ⟨_, rfl⟩
  obtain ⟨x3, hx3⟩ : ∃ x, x = (scI g ((i : Int) + 3).toNat).toInt := ⟨_, rfl⟩
  obtain ⟨x4, hx4⟩ : ∃ x, x = (scI g ((i : Int) + 4).toNat).toInt := ⟨_, rfl⟩
  obtain ⟨x5, hx5⟩ : ∃ x, x = (scI g ((i : Int) + 5).toNat).toInt := ⟨_, rfl⟩
  have hr1 := sc_r g ((i : Int) + 1).toNat
  have hr2 := sc_r g ((i : Int) + 2).toNat
  have hr3 := sc_r g ((i : Int) + 3).toNat
  have hr4 := sc_r g ((i : Int) + 4).toNat
  have hr5 := sc_r g ((i : Int) + 5).toNat
  rw [← hx1] at hr1
  rw [← hx2] at hr2
  rw [← hx3] at hr3
  rw [← hx4] at hr4
  rw [← hx5] at hr5
  obtain ⟨hC, hJ, h0, hIm, h25, hTp, ⟨hBs, hBm, hBw⟩, hSq⟩ := id hV
  obtain ⟨hR, hX, hA, hW, hr⟩ := id hC
  refine wp_aload_n dL_law_156 rfl rfl ?_
  refine wp_aload_n dL_law_157 rfl rfl ?_
  refine wp_iload_n dL_law_158 rfl rfl ?_
  refine wp_iconst dL_law_159 (by decide) ?_
  refine wp_iadd dL_law_160 (by omega) ?_
  refine wp_sld ⟨by omega, by omega⟩ dL_law_161 ?_
  rw [← hx1]
  refine wp_aload_n dL_law_162 rfl rfl ?_
  refine wp_iload_n dL_law_163 rfl rfl ?_
  refine wp_iconst dL_law_164 (by decide) ?_
  refine wp_iadd dL_law_165 (by omega) ?_
  refine wp_sld ⟨by omega, by omega⟩ dL_law_166 ?_
  rw [← hx2]
  refine wp_aload_n dL_law_167 rfl rfl ?_
  refine wp_iload_n dL_law_168 rfl rfl ?_
  refine wp_iconst dL_law_169 (by decide) ?_
  refine wp_iadd dL_law_170 (by omega) ?_
  refine wp_sld ⟨by omega, by omega⟩ dL_law_171 ?_
  rw [← hx3]
  refine wp_callV0 (d' := d - 1) cv_RL_13 1 rfl [(0, x1), (0, x2), (0, x3)] [] rfl rfl (Or.inl ⟨_, _, rfl, by decide, rfl, by omega, by omega⟩) (by omega) (Nat.le_of_ble_eq_true rfl) dL_law_172 rfl (Nat.le_of_ble_eq_true rfl) (by omega) (loc1 := [(2, 1), (0, x1), (0, x2), (0, x3), (9, 0), (9, 0)]) rfl ?_
  refine cs_set (by decide) (by omega) hC x1 x2 x3 (fun c1 => ?_) (fun c1 c2 => ?_) (fun r h1 h4 c1 c2 => ?_)
  · refine wp_aload_n dL_law_175 rfl rfl ?_
    refine wp_aload_n dL_law_176 rfl rfl ?_
    refine wp_iload_n dL_law_177 rfl rfl ?_
    refine wp_iconst dL_law_178 (by decide) ?_
    refine wp_iadd dL_law_179 (by omega) ?_
    refine wp_sld ⟨by omega, by omega⟩ dL_law_180 ?_
    rw [← hx1]
    refine wp_aload_n dL_law_181 rfl rfl ?_
    refine wp_iload_n dL_law_182 rfl rfl ?_
    refine wp_iconst dL_law_183 (by decide) ?_
    refine wp_iadd dL_law_184 (by omega) ?_
    refine wp_sld ⟨by omega, by omega⟩ dL_law_185 ?_
    rw [← hx2]
    refine wp_aload_n dL_law_186 rfl rfl ?_
    refine wp_iload_n dL_law_187 rfl rfl ?_
    refine wp_iconst dL_law_188 (by decide) ?_
    refine wp_iadd dL_law_189 (by omega) ?_
    refine wp_sld ⟨by omega, by omega⟩ dL_law_190 ?_
    rw [← hx3]
    refine wp_callV0 (d' := d - 1) cv_RL_17 69 rfl [(0, x1), (0, x2), (0, x3)] [(0, (-2))] rfl rfl (Or.inl ⟨_, _, rfl, by decide, rfl, by omega, by omega⟩) (by omega) (Nat.le_of_ble_eq_true rfl) dL_law_191 rfl (Nat.le_of_ble_eq_true rfl) (by omega) (loc1 := [(2, 69), (0, x1), (0, x2), (0, x3), (9, 0)]) rfl ?_
    refine cm_set (by decide) hJ (by omega) x1 x2 x3 (fun _ => ?_) (fun h => absurd h c1)
    refine wp_icmp_eq (tgt := 968) dL_law_194 (by decide) (fun _ => ?_) (fun h => absurd h (by decide))
    exact hk M A K B (hV.le (by omega))
  · have F1 : Fr V2 M (mu M 2 0 x3) := Fr.rf.put (by unfold V2; omega)
    have R1 := sr_V2 F1 hR
    have C1 : CJ (mu M 2 0 x3) (setS A 0 x3) := hC.of F1 vn_V2 R1 (hA.setS (k := 0) (by omega)) (hW.setZ x3) hr
    have J1 := hV.mj (F1.mono (fun i j v => (lm_V2 i j v).2)) R1
    generalize mu M 2 0 x3 = M1 at F1 R1 C1 J1 ⊢
    have hok : okSet A x1 x2 x3 := Or.inl ⟨c1, c2⟩
    refine wp_aload_n dL_law_175 rfl rfl ?_
    refine wp_aload_n dL_law_176 rfl rfl ?_
    refine wp_iload_n dL_law_177 rfl rfl ?_
    refine wp_iconst dL_law_178 (by decide) ?_
    refine wp_iadd dL_law_179 (by omega) ?_
    refine wp_sld ⟨by omega, by omega⟩ dL_law_180 ?_
    rw [← hx1]
    refine wp_aload_n dL_law_181 rfl rfl ?_
    refine wp_iload_n dL_law_182 rfl rfl ?_
    refine wp_iconst dL_law_183 (by decide) ?_
    refine wp_iadd dL_law_184 (by omega) ?_
    refine wp_sld ⟨by omega, by omega⟩ dL_law_185 ?_
    rw [← hx2]
    refine wp_aload_n dL_law_186 rfl rfl ?_
    refine wp_iload_n dL_law_187 rfl rfl ?_
    refine wp_iconst dL_law_188 (by decide) ?_
    refine wp_iadd dL_law_189 (by omega) ?_
    refine wp_sld ⟨by omega, by omega⟩ dL_law_190 ?_
    rw [← hx3]
    refine wp_callV0 (d' := d - 1) cv_RL_17 69 rfl [(0, x1), (0, x2), (0, x3)] [(0, (A.1 0))] rfl rfl (Or.inl ⟨_, _, rfl, by decide, rfl, by omega, by omega⟩) (by omega) (Nat.le_of_ble_eq_true rfl) dL_law_191 rfl (Nat.le_of_ble_eq_true rfl) (by omega) (loc1 := [(2, 69), (0, x1), (0, x2), (0, x3), (9, 0)]) rfl ?_
    refine cm_set (by decide) J1 (by omega) x1 x2 x3 (fun h => absurd hok h) (fun _ M2 J2 F2 => ?_)
    rw [show wasA A x1 x2 = A.1 0 from if_pos c1]
    rw [show stA A x1 x2 x3 = setS A 0 x3 from if_pos c1] at J2
    refine wp_icmp_eq (tgt := 968) dL_law_194 (by decide) (fun _ => ?_) (fun h => absurd rfl h)
    have FL : Fr VLm M M2 := (F1.mono (fun i j v => (lm_V2 i j v).1)).tr (F2.mono (fun i j v => (lm_VMl i j v).1))
    have C2 : CJ M2 (setS A 0 x3) := C1.mdl (g_VMl F2) J2.1
    exact hk M2 _ K B (hV.land FL C2 J2 (show 0 ≤ x3 ∧ x3 ≤ 999 from c2) (Int.le_refl _) (fun _ _ => rfl) (sq_0 hSq ((F1.mono nq_V2).tr (F2.mono nq_VMl))))
  · have F1 : Fr V2 M (mu M (3 + r) x2.toNat x3) := Fr.rf.put (by unfold V2; omega)
    have R1 := sr_V2 F1 hR
    have C1 : CJ (mu M (3 + r) x2.toNat x3) (setA A r x2.toNat x3) := hC.of F1 vn_V2 R1 (show Rc (mu M (2 + 1 + r) x2.toNat x3) 2 _ from hA.setA (by omega)) (hW.aSet (by omega) (fun h => by omega)) hr
    have J1 := hV.mj (F1.mono (fun i j v => (lm_V2 i j v).2)) R1
    generalize mu M (3 + r) x2.toNat x3 = M1 at F1 R1 C1 J1 ⊢
    refine wp_aload_n dL_law_175 rfl rfl ?_
    refine wp_aload_n dL_law_176 rfl rfl ?_
    refine wp_iload_n dL_law_177 rfl rfl ?_
    refine wp_iconst dL_law_178 (by decide) ?_
    refine wp_iadd dL_law_179 (by omega) ?_
    refine wp_sld ⟨by omega, by omega⟩ dL_law_180 ?_
    rw [← hx1]
    refine wp_aload_n dL_law_181 rfl rfl ?_
    refine wp_iload_n dL_law_182 rfl rfl ?_
    refine wp_iconst dL_law_183 (by decide) ?_
    refine wp_iadd dL_law_184 (by omega) ?_
    refine wp_sld ⟨by omega, by omega⟩ dL_law_185 ?_
    rw [← hx2]
    refine wp_aload_n dL_law_186 rfl rfl ?_
    refine wp_iload_n dL_law_187 rfl rfl ?_
    refine wp_iconst dL_law_188 (by decide) ?_
    refine wp_iadd dL_law_189 (by omega) ?_
    refine wp_sld ⟨by omega, by omega⟩ dL_law_190 ?_
    rw [← hx3]
    refine wp_callV0 (d' := d - 1) cv_RL_17 69 rfl [(0, x1), (0, x2), (0, x3)] [(0, (A.2 r x2.toNat))] rfl rfl (Or.inl ⟨_, _, rfl, by decide, rfl, by omega, by omega⟩) (by omega) (Nat.le_of_ble_eq_true rfl) dL_law_191 rfl (Nat.le_of_ble_eq_true rfl) (by omega) (loc1 := [(2, 69), (0, x1), (0, x2), (0, x3), (9, 0)]) rfl ?_
    refine cm_set (by decide) J1 (by omega) x1 x2 x3 (fun h => absurd c2 h) (fun _ M2 J2 F2 => ?_)
    have er : x1.toNat = r := by omega
    rw [show wasA A x1 x2 = A.2 r x2.toNat from (if_neg (by omega)).trans (by rw [er])]
    rw [show stA A x1 x2 x3 = setA A r x2.toNat x3 from (if_neg (by omega)).trans (by rw [er])] at J2
    refine wp_icmp_eq (tgt := 968) dL_law_194 (by decide) (fun _ => ?_) (fun h => absurd rfl h)
    have FL : Fr VLm M M2 := (F1.mono (fun i j v => (lm_V2 i j v).1)).tr (F2.mono (fun i j v => (lm_VMl i j v).1))
    have C2 : CJ M2 (setA A r x2.toNat x3) := C1.mdl (g_VMl F2) J2.1
    exact hk M2 _ K B (hV.land FL C2 J2 (h0) (Int.le_refl _) (fun i hi => mu_ne _ _ _ (by omega) _) (sq_0 hSq ((F1.mono nq_V2).tr (F2.mono nq_VMl))))
set_option maxRecDepth 20000 in
set_option maxHeartbeats 4000000 in
theorem op_person {l : Launch} {g : Gw} {d : Nat} (hd : 100 ≤ d) (hL3 : g.2.2.2.2.1 100 ≤ 3072) {i : Nat} (hi : i + 6 ≤ g.2.2.2.2.1 100) {M : Mm} {A K : Ls} {B : Mm} {sq : Int} (hV : IV M A K B sq) (hsq : sq ≤ 100000) {Q : Option Wd → Mm → Prop} (hk : ∀ M2 A2 K2 B2, IV M2 A2 K2 B2 (sq + 20) → Wp l g d 0 0 90 m_L_law 968 [] [(2, 1015), (2, 1), (2, 69), (0, (i : Int))] M2 Q) : Wp l g d 0 0 90 m_L_law 199 [] [(2, 1015), (2, 1), (2, 69), (0, (i : Int))] M Q := by
  obtain ⟨x1, hx1⟩ : ∃ x, x = (scI g ((i : Int) + 1).toNat).toInt := ⟨_, rfl⟩
  obtain ⟨x2, hx2⟩ : ∃ x, x = (scI g ((i : Int) + 2).toNat).toInt := ⟨_, rfl⟩
  obtain ⟨x3, hx3⟩ : ∃ x, x = (scI g ((i : Int) + 3).toNat).toInt := ⟨_, rfl⟩
  obtain ⟨x4, hx4⟩ : ∃ x, x = (scI g ((i : Int) + 4).toNat).toInt := ⟨_, rfl⟩
  obtain ⟨x5, hx5⟩ : ∃ x, x = (scI g ((i : Int) + 5).toNat).toInt := ⟨_, rfl⟩
  have hr1 := sc_r g ((i : Int) + 1).toNat
  have hr2 := sc_r g ((i : Int) + 2).toNat
  have hr3 := sc_r g ((i : Int) + 3).toNat
  have hr4 := sc_r g ((i : Int) + 4).toNat
  have hr5 := sc_r g ((i : Int) + 5).toNat
  rw [← hx1] at hr1
  rw [← hx2] at hr2
  rw [← hx3] at hr3
  rw [← hx4] at hr4
  rw [← hx5] at hr5
  obtain ⟨hC, hJ, h0, hIm, h25, hTp, ⟨hBs, hBm, hBw⟩, hSq⟩ := id hV
  obtain ⟨hR, hX, hA, hW, hr⟩ := id hC
  refine wp_aload_n dL_law_199 rfl rfl ?_
  refine wp_aload_n dL_law_200 rfl rfl ?_
  refine wp_iload_n dL_law_201 rfl rfl ?_
  refine wp_iconst dL_law_202 (by decide) ?_
  refine wp_iadd dL_law_203 (by omega) ?_
  refine wp_sld ⟨by omega, by omega⟩ dL_law_204 ?_
  rw [← hx1]
  refine wp_aload_n dL_law_205 rfl rfl ?_
  refine wp_iload_n dL_law_206 rfl rfl ?_
  refine wp_iconst dL_law_207 (by decide) ?_
  refine wp_iadd dL_law_208 (by omega) ?_
  refine wp_sld ⟨by omega, by omega⟩ dL_law_209 ?_
  rw [← hx2]
  refine wp_callV0 (d' := d - 1) cv_RL_18 1 rfl [(0, x1), (0, x2)] [] rfl rfl (Or.inl ⟨_, _, rfl, by decide, rfl, by omega, by omega⟩) (by omega) (Nat.le_of_ble_eq_true rfl) dL_law_210 rfl (Nat.le_of_ble_eq_true rfl) (by omega) (loc1 := [(2, 1), (0, x1), (0, x2)]) rfl ?_
  refine cs_person2 (by decide) (by omega) hC x1 x2 (fun M1 C1 F1 => ?_)
  have R1 := C1.1
  have J1 := hV.mj (F1.mono (fun i j v => (lm_V2 i j v).2)) R1
  refine wp_aload_n dL_law_213 rfl rfl ?_
  refine wp_aload_n dL_law_214 rfl rfl ?_
  refine wp_iload_n dL_law_215 rfl rfl ?_
  refine wp_iconst dL_law_216 (by decide) ?_
  refine wp_iadd dL_law_217 (by omega) ?_
  refine wp_sld ⟨by omega, by omega⟩ dL_law_218 ?_
  rw [← hx1]
  refine wp_aload_n dL_law_219 rfl rfl ?_
  refine wp_iload_n dL_law_220 rfl rfl ?_
  refine wp_iconst dL_law_221 (by decide) ?_
  refine wp_iadd dL_law_222 (by omega) ?_
  refine wp_sld ⟨by omega, by omega⟩ dL_law_223 ?_
  rw [← hx2]
  refine wp_callV0 (d' := d - 1) cv_RL_22 69 rfl [(0, x1), (0, x2)] [(0, (prsA A x1 x2).2)] rfl rfl (Or.inl ⟨_, _, rfl, by decide, rfl, by omega, by omega⟩) (by omega) (Nat.le_of_ble_eq_true rfl) dL_law_224 rfl (Nat.le_of_ble_eq_true rfl) (by omega) (loc1 := [(2, 69), (0, x1), (0, x2)]) rfl ?_
  refine cm_person (by decide) J1 (by omega) x1 x2 (fun M2 J2 F2 => ?_)
  have hps := prs_same (x := x1) (y := x2) hW
  refine wp_icmp_eq (tgt := 968) dL_law_227 (by decide) (fun _ => ?_) (fun h => absurd rfl h)
  have FL : Fr VLm M M2 := (F1.mono (fun i j v => (lm_V2 i j v).1)).tr (F2.mono (fun i j v => (lm_VMl i j v).1))
  have C2 : CJ M2 ((prsA A x1 x2).1) := C1.mdl (g_VMl F2) J2.1
  exact hk M2 _ K B (hV.land FL C2 J2 (by rw [hps.1]; exact h0) (hps.2.2.1) (hps.2.2.2) (sq_0 hSq ((F1.mono nq_V2).tr (F2.mono nq_VMl))))
set_option maxRecDepth 20000 in
set_option maxHeartbeats 4000000 in
theorem op_pass {l : Launch} {g : Gw} {d : Nat} (hd : 100 ≤ d) (hL3 : g.2.2.2.2.1 100 ≤ 3072) {i : Nat} (hi : i + 6 ≤ g.2.2.2.2.1 100) {M : Mm} {A K : Ls} {B : Mm} {sq : Int} (hV : IV M A K B sq) (hsq : sq ≤ 100000) {Q : Option Wd → Mm → Prop} (hk : ∀ M2 A2 K2 B2, IV M2 A2 K2 B2 (sq + 20) → Wp l g d 0 0 90 m_L_law 968 [] [(2, 1015), (2, 1), (2, 69), (0, (i : Int))] M2 Q) : Wp l g d 0 0 90 m_L_law 347 [] [(2, 1015), (2, 1), (2, 69), (0, (i : Int))] M Q := by
  obtain ⟨x1, hx1⟩ : ∃ x, x = (scI g ((i : Int) + 1).toNat).toInt := ⟨_, rfl⟩
  obtain ⟨x2, hx2⟩ : ∃ x, x = (scI g ((i : Int) + 2).toNat).toInt := ⟨_, rfl⟩
  obtain ⟨x3, hx3⟩ : ∃ x, x = (scI g ((i : Int) + 3).toNat).toInt := ⟨_, rfl⟩
  obtain ⟨x4, hx4⟩ : ∃ x, x = (scI g ((i : Int) + 4).toNat).toInt := ⟨_, rfl⟩
  obtain ⟨x5, hx5⟩ : ∃ x, x = (scI g ((i : Int) + 5).toNat).toInt := ⟨_, rfl⟩
  have hr1 := sc_r g ((i : Int) + 1).toNat
  have hr2 := sc_r g ((i : Int) + 2).toNat
  have hr3 := sc_r g ((i : Int) + 3).toNat
  have hr4 := sc_r g ((i : Int) + 4).toNat
  have hr5 := sc_r g ((i : Int) + 5).toNat
  rw [← hx1] at hr1
  rw [← hx2] at hr2
  rw [← hx3] at hr3
  rw [← hx4] at hr4
  rw [← hx5] at hr5
  obtain ⟨hC, hJ, h0, hIm, h25, hTp, ⟨hBs, hBm, hBw⟩, hSq⟩ := id hV
  obtain ⟨hR, hX, hA, hW, hr⟩ := id hC
  refine wp_aload_n dL_law_347 rfl rfl ?_
  refine wp_aload_n dL_law_348 rfl rfl ?_
  refine wp_iload_n dL_law_349 rfl rfl ?_
  refine wp_iconst dL_law_350 (by decide) ?_
  refine wp_iadd dL_law_351 (by omega) ?_
  refine wp_sld ⟨by omega, by omega⟩ dL_law_352 ?_
  rw [← hx1]
  refine wp_callV0 (d' := d - 1) cv_RL_45 1 rfl [(0, x1)] [] rfl rfl (Or.inl ⟨_, _, rfl, by decide, rfl, by omega, by omega⟩) (by omega) (Nat.le_of_ble_eq_true rfl) dL_law_353 rfl (Nat.le_of_ble_eq_true rfl) (by omega) (loc1 := [(2, 1), (0, x1), (9, 0)]) rfl ?_
  refine cs_pass (by decide) (by omega) hC x1 (fun c1 => ?_) (fun c1 c2 M1 F1 R1 => ?_) (fun c1 c2 M1 A1 F1 R1 => ?_)
  · refine wp_aload_n dL_law_356 rfl rfl ?_
    refine wp_aload_n dL_law_357 rfl rfl ?_
    refine wp_iload_n dL_law_358 rfl rfl ?_
    refine wp_iconst dL_law_359 (by decide) ?_
    refine wp_iadd dL_law_360 (by omega) ?_
    refine wp_sld ⟨by omega, by omega⟩ dL_law_361 ?_
    rw [← hx1]
    refine wp_callV0 (d' := d - 1) cv_RL_48 69 rfl [(0, x1)] [(0, (-2))] rfl rfl (Or.inl ⟨_, _, rfl, by decide, rfl, by omega, by omega⟩) (by omega) (Nat.le_of_ble_eq_true rfl) dL_law_362 rfl (Nat.le_of_ble_eq_true rfl) (by omega) (loc1 := [(2, 69), (0, x1), (9, 0)]) rfl ?_
    refine cm_pass (by decide) hJ (by omega) x1 (fun _ => ?_) (fun h => absurd h c1) (fun h => absurd h c1)
    refine wp_icmp_eq (tgt := 968) dL_law_365 (by decide) (fun _ => ?_) (fun h => absurd h (by decide))
    exact hk M A K B (hV.le (by omega))
  · have J1 := hV.mj (F1.mono (fun i j v => (lm_VX i j v).2)) R1
    have C1 : CJ M1 A := hC.fr F1 R1 cj_VX
    refine wp_aload_n dL_law_356 rfl rfl ?_
    refine wp_aload_n dL_law_357 rfl rfl ?_
    refine wp_iload_n dL_law_358 rfl rfl ?_
    refine wp_iconst dL_law_359 (by decide) ?_
    refine wp_iadd dL_law_360 (by omega) ?_
    refine wp_sld ⟨by omega, by omega⟩ dL_law_361 ?_
    rw [← hx1]
    refine wp_callV0 (d' := d - 1) cv_RL_48 69 rfl [(0, x1)] [(0, (-3))] rfl rfl (Or.inl ⟨_, _, rfl, by decide, rfl, by omega, by omega⟩) (by omega) (Nat.le_of_ble_eq_true rfl) dL_law_362 rfl (Nat.le_of_ble_eq_true rfl) (by omega) (loc1 := [(2, 69), (0, x1), (9, 0)]) rfl ?_
    refine cm_pass (by decide) J1 (by omega) x1 (fun h => absurd c1 h) (fun _ _ M2 J2 F2 => ?_) (fun _ h => absurd h c2)
    refine wp_icmp_eq (tgt := 968) dL_law_365 (by decide) (fun _ => ?_) (fun h => absurd h (by decide))
    have FL : Fr VLm M M2 := (F1.mono (fun i j v => (lm_VX i j v).1)).tr (F2.mono (fun i j v => (lm_VMl i j v).1))
    have C2 : CJ M2 A := C1.mdl (g_VMl F2) J2.1
    exact hk M2 A K B (hV.land FL C2 J2 h0 (Int.le_refl _) (fun _ _ => rfl) (sq_0 hSq ((F1.mono nq_VX).tr (F2.mono nq_VMl))))
  · have J1 := hV.mj (F1.mono (fun i j v => (lm_VH i j v).2)) R1
    have C1 : CJ M1 (swapA A (plA A x1).toNat) := hC.of F1 vn_VH R1 A1 (hW.swap (by have := c2.1; omega) (by have := c2.1; have := c2.2.1; omega)) hr
    refine wp_aload_n dL_law_356 rfl rfl ?_
    refine wp_aload_n dL_law_357 rfl rfl ?_
    refine wp_iload_n dL_law_358 rfl rfl ?_
    refine wp_iconst dL_law_359 (by decide) ?_
    refine wp_iadd dL_law_360 (by omega) ?_
    refine wp_sld ⟨by omega, by omega⟩ dL_law_361 ?_
    rw [← hx1]
    refine wp_callV0 (d' := d - 1) cv_RL_48 69 rfl [(0, x1)] [(0, (plA A x1 - 1))] rfl rfl (Or.inl ⟨_, _, rfl, by decide, rfl, by omega, by omega⟩) (by omega) (Nat.le_of_ble_eq_true rfl) dL_law_362 rfl (Nat.le_of_ble_eq_true rfl) (by omega) (loc1 := [(2, 69), (0, x1), (9, 0)]) rfl ?_
    refine cm_pass (by decide) J1 (by omega) x1 (fun h => absurd c1 h) (fun _ h => absurd c2 h) (fun _ _ M2 J2 F2 => ?_)
    refine wp_icmp_eq (tgt := 968) dL_law_365 (by decide) (fun _ => ?_) (fun h => absurd rfl h)
    have FL : Fr VLm M M2 := (F1.mono (fun i j v => (lm_VH i j v).1)).tr (F2.mono (fun i j v => (lm_VMl i j v).1))
    have C2 : CJ M2 (swapA A (plA A x1).toNat) := C1.mdl (g_VMl F2) J2.1
    exact hk M2 _ K B (hV.land FL C2 J2 (h0) (Int.le_refl _) (fun _ _ => rfl) (sq_0 hSq ((F1.mono nq_VH).tr (F2.mono nq_VMl))))
set_option maxRecDepth 20000 in
set_option maxHeartbeats 4000000 in
theorem op_haste {l : Launch} {g : Gw} {d : Nat} (hd : 100 ≤ d) (hL3 : g.2.2.2.2.1 100 ≤ 3072) {i : Nat} (hi : i + 6 ≤ g.2.2.2.2.1 100) {M : Mm} {A K : Ls} {B : Mm} {sq : Int} (hV : IV M A K B sq) (hsq : sq ≤ 100000) {Q : Option Wd → Mm → Prop} (hk : ∀ M2 A2 K2 B2, IV M2 A2 K2 B2 (sq + 20) → Wp l g d 0 0 90 m_L_law 968 [] [(2, 1015), (2, 1), (2, 69), (0, (i : Int))] M2 Q) : Wp l g d 0 0 90 m_L_law 370 [] [(2, 1015), (2, 1), (2, 69), (0, (i : Int))] M Q := by
  obtain ⟨x1, hx1⟩ : ∃ x, x = (scI g ((i : Int) + 1).toNat).toInt := ⟨_, rfl⟩
  obtain ⟨x2, hx2⟩ : ∃ x, x = (scI g ((i : Int) + 2).toNat).toInt := ⟨_, rfl⟩
  obtain ⟨x3, hx3⟩ : ∃ x, x = (scI g ((i : Int) + 3).toNat).toInt := ⟨_, rfl⟩
  obtain ⟨x4, hx4⟩ : ∃ x, x = (scI g ((i : Int) + 4).toNat).toInt := ⟨_, rfl⟩
  obtain ⟨x5, hx5⟩ : ∃ x, x = (scI g ((i : Int) + 5).toNat).toInt := ⟨_, rfl⟩
  have hr1 := sc_r g ((i : Int) + 1).toNat
  have hr2 := sc_r g ((i : Int) + 2).toNat
  have hr3 := sc_r g ((i : Int) + 3).toNat
  have hr4 := sc_r g ((i : Int) + 4).toNat
  have hr5 := sc_r g ((i : Int) + 5).toNat
  rw [← hx1] at hr1
  rw [← hx2] at hr2
  rw [← hx3] at hr3
  rw [← hx4] at hr4
  rw [← hx5] at hr5
  obtain ⟨hC, hJ, h0, hIm, h25, hTp, ⟨hBs, hBm, hBw⟩, hSq⟩ := id hV
  obtain ⟨hR, hX, hA, hW, hr⟩ := id hC
  refine wp_aload_n dL_law_370 rfl rfl ?_
  refine wp_callV0 (d' := d - 1) cv_RL_49 1 rfl [] [] rfl rfl (Or.inl ⟨_, _, rfl, by decide, rfl, by omega, by omega⟩) (by omega) (Nat.le_of_ble_eq_true rfl) dL_law_371 rfl (Nat.le_of_ble_eq_true rfl) (by omega) (loc1 := [(2, 1)]) rfl ?_
  refine cs_haste (by decide) (by omega) hC (fun M1 A1 F1 R1 => ?_)
  have J1 := hV.mj (F1.mono (fun i j v => (lm_VH i j v).2)) R1
  refine wp_aload_n dL_law_374 rfl rfl ?_
  refine wp_callV0 (d' := d - 1) cv_RL_52 69 rfl [] [(0, (hstA (evC M) 4 1 A).2)] rfl rfl (Or.inl ⟨_, _, rfl, by decide, rfl, by omega, by omega⟩) (by omega) (Nat.le_of_ble_eq_true rfl) dL_law_375 rfl (Nat.le_of_ble_eq_true rfl) (by omega) (loc1 := [(2, 69), (9, 0), (9, 0)]) rfl ?_
  refine cm_haste (by decide) J1 (by omega) (fun M2 J2 F2 => ?_)
  have hs := hst_same (evC M) 4 1 A
  have C1 : CJ M1 (hstA (evC M) 4 1 A).1 := hC.of F1 vn_VH R1 A1 J2.2.2.1 (by rw [hs.1]; exact hr)
  refine wp_icmp_eq (tgt := 968) dL_law_378 (by decide) (fun _ => ?_) (fun h => absurd rfl h)
  have FL : Fr VLm M M2 := (F1.mono (fun i j v => (lm_VH i j v).1)).tr (F2.mono (fun i j v => (lm_VMl i j v).1))
  have C2 : CJ M2 ((hstA (evC M) 4 1 A).1) := C1.mdl (g_VMl F2) J2.1
  exact hk M2 _ K B (hV.land FL C2 J2 (by rw [hs.1]; exact h0) (by rw [hs.1]; exact Int.le_refl _) (fun i _ => congrFun hs.2 i) (sq_0 hSq ((F1.mono nq_VH).tr (F2.mono nq_VMl))))
set_option maxRecDepth 20000 in
set_option maxHeartbeats 4000000 in
theorem op_minute {l : Launch} {g : Gw} {d : Nat} (hd : 100 ≤ d) (hL3 : g.2.2.2.2.1 100 ≤ 3072) {i : Nat} (hi : i + 6 ≤ g.2.2.2.2.1 100) {M : Mm} {A K : Ls} {B : Mm} {sq : Int} (hV : IV M A K B sq) (hsq : sq ≤ 100000) {Q : Option Wd → Mm → Prop} (hk : ∀ M2 A2 K2 B2, IV M2 A2 K2 B2 (sq + 20) → Wp l g d 0 0 90 m_L_law 968 [] [(2, 1015), (2, 1), (2, 69), (0, (i : Int))] M2 Q) : Wp l g d 0 0 90 m_L_law 383 [] [(2, 1015), (2, 1), (2, 69), (0, (i : Int))] M Q := by
  obtain ⟨x1, hx1⟩ : ∃ x, x = (scI g ((i : Int) + 1).toNat).toInt := ⟨_, rfl⟩
  obtain ⟨x2, hx2⟩ : ∃ x, x = (scI g ((i : Int) + 2).toNat).toInt := ⟨_, rfl⟩
  obtain ⟨x3, hx3⟩ : ∃ x, x = (scI g ((i : Int) + 3).toNat).toInt := ⟨_, rfl⟩
  obtain ⟨x4, hx4⟩ : ∃ x, x = (scI g ((i : Int) + 4).toNat).toInt := ⟨_, rfl⟩
  obtain ⟨x5, hx5⟩ : ∃ x, x = (scI g ((i : Int) + 5).toNat).toInt := ⟨_, rfl⟩
  have hr1 := sc_r g ((i : Int) + 1).toNat
  have hr2 := sc_r g ((i : Int) + 2).toNat
  have hr3 := sc_r g ((i : Int) + 3).toNat
  have hr4 := sc_r g ((i : Int) + 4).toNat
  have hr5 := sc_r g ((i : Int) + 5).toNat
  rw [← hx1] at hr1
  rw [← hx2] at hr2
  rw [← hx3] at hr3
  rw [← hx4] at hr4
  rw [← hx5] at hr5
  obtain ⟨hC, hJ, h0, hIm, h25, hTp, ⟨hBs, hBm, hBw⟩, hSq⟩ := id hV
  obtain ⟨hR, hX, hA, hW, hr⟩ := id hC
  refine wp_aload_n dL_law_383 rfl rfl ?_
  refine wp_callV0 (d' := d - 1) cv_RL_53 1 rfl [] [] rfl rfl (Or.inl ⟨_, _, rfl, by decide, rfl, by omega, by omega⟩) (by omega) (Nat.le_of_ble_eq_true rfl) dL_law_384 rfl (Nat.le_of_ble_eq_true rfl) (by omega) (loc1 := [(2, 1)]) rfl ?_
  refine cs_minute (by decide) (by omega) hC (fun c1 => ?_) (fun c1 M1 A1 F1 R1 => ?_)
  · refine wp_aload_n dL_law_387 rfl rfl ?_
    refine wp_callV0 (d' := d - 1) cv_RL_56 69 rfl [] [(0, (-3))] rfl rfl (Or.inl ⟨_, _, rfl, by decide, rfl, by omega, by omega⟩) (by omega) (Nat.le_of_ble_eq_true rfl) dL_law_388 rfl (Nat.le_of_ble_eq_true rfl) (by omega) (loc1 := [(2, 69)]) rfl ?_
    refine cm_minute (by decide) hJ (by omega) (fun _ => ?_) (fun h => absurd (by omega) h)
    refine wp_icmp_eq (tgt := 968) dL_law_391 (by decide) (fun _ => ?_) (fun h => absurd h (by decide))
    exact hk M A K B (hV.le (by omega))
  · have J1 := hV.mj (F1.mono (fun i j v => (lm_VG2 i j v).2)) R1
    refine wp_aload_n dL_law_387 rfl rfl ?_
    refine wp_callV0 (d' := d - 1) cv_RL_56 69 rfl [] [(0, (tickA (evC M) A).2)] rfl rfl (Or.inl ⟨_, _, rfl, by decide, rfl, by omega, by omega⟩) (by omega) (Nat.le_of_ble_eq_true rfl) dL_law_388 rfl (Nat.le_of_ble_eq_true rfl) (by omega) (loc1 := [(2, 69)]) rfl ?_
    refine cm_minute (by decide) J1 (by omega) (fun h => absurd h (by omega)) (fun _ M2 J2 F2 => ?_)
    have hs := (SLa.rf (A := A)).tick (evC M)
    have ht := tick_0 (E := evC M) (A := A) ⟨h0.1, c1⟩
    have C1 : CJ M1 (tickA (evC M) A).1 := hC.of F1 vn_VG2 R1 A1 J2.2.2.1 (by rw [hs.1]; exact hr)
    refine wp_icmp_eq (tgt := 968) dL_law_391 (by decide) (fun _ => ?_) (fun h => absurd rfl h)
    have FL : Fr VLm M M2 := (F1.mono (fun i j v => (lm_VG2 i j v).1)).tr (F2.mono (fun i j v => (lm_VMl i j v).1))
    have C2 : CJ M2 ((tickA (evC M) A).1) := C1.mdl (g_VMl F2) J2.1
    exact hk M2 _ K B (hV.land FL C2 J2 (by rw [ht]; omega) (by rw [hs.2.1]; exact Int.le_refl _) (fun i _ => hs.2.2 i) (sq_0 hSq ((F1.mono nq_VG2).tr (F2.mono nq_VMl))))
set_option maxRecDepth 20000 in
set_option maxHeartbeats 4000000 in
theorem op_come {l : Launch} {g : Gw} {d : Nat} (hd : 100 ≤ d) (hL3 : g.2.2.2.2.1 100 ≤ 3072) {i : Nat} (hi : i + 6 ≤ g.2.2.2.2.1 100) {M : Mm} {A K : Ls} {B : Mm} {sq : Int} (hV : IV M A K B sq) (hsq : sq ≤ 100000) {Q : Option Wd → Mm → Prop} (hk : ∀ M2 A2 K2 B2, IV M2 A2 K2 B2 (sq + 20) → Wp l g d 0 0 90 m_L_law 968 [] [(2, 1015), (2, 1), (2, 69), (0, (i : Int))] M2 Q) : Wp l g d 0 0 90 m_L_law 396 [] [(2, 1015), (2, 1), (2, 69), (0, (i : Int))] M Q := by
  obtain ⟨x1, hx1⟩ : ∃ x, x = (scI g ((i : Int) + 1).toNat).toInt := ⟨_, rfl⟩
  obtain ⟨x2, hx2⟩ : ∃ x, x = (scI g ((i : Int) + 2).toNat).toInt := ⟨_, rfl⟩
  obtain ⟨x3, hx3⟩ : ∃ x, x = (scI g ((i : Int) + 3).toNat).toInt := ⟨_, rfl⟩
  obtain ⟨x4, hx4⟩ : ∃ x, x = (scI g ((i : Int) + 4).toNat).toInt := ⟨_, rfl⟩
  obtain ⟨x5, hx5⟩ : ∃ x, x = (scI g ((i : Int) + 5).toNat).toInt := ⟨_, rfl⟩
  have hr1 := sc_r g ((i : Int) + 1).toNat
  have hr2 := sc_r g ((i : Int) + 2).toNat
  have hr3 := sc_r g ((i : Int) + 3).toNat
  have hr4 := sc_r g ((i : Int) + 4).toNat
  have hr5 := sc_r g ((i : Int) + 5).toNat
  rw [← hx1] at hr1
  rw [← hx2] at hr2
  rw [← hx3] at hr3
  rw [← hx4] at hr4
  rw [← hx5] at hr5
  obtain ⟨hC, hJ, h0, hIm, h25, hTp, ⟨hBs, hBm, hBw⟩, hSq⟩ := id hV
  obtain ⟨hR, hX, hA, hW, hr⟩ := id hC
  refine wp_aload_n dL_law_396 rfl rfl ?_
  refine wp_aload_n dL_law_397 rfl rfl ?_
  refine wp_iload_n dL_law_398 rfl rfl ?_
  refine wp_iconst dL_law_399 (by decide) ?_
  refine wp_iadd dL_law_400 (by omega) ?_
  refine wp_sld ⟨by omega, by omega⟩ dL_law_401 ?_
  rw [← hx1]
  refine wp_callV0 (d' := d - 1) cv_RL_57 1 rfl [(0, x1)] [] rfl rfl (Or.inl ⟨_, _, rfl, by decide, rfl, by omega, by omega⟩) (by omega) (Nat.le_of_ble_eq_true rfl) dL_law_402 rfl (Nat.le_of_ble_eq_true rfl) (by omega) (loc1 := [(2, 1), (0, x1)]) rfl ?_
  refine cs_come (by decide) (by omega) hC x1 (fun c1 => ?_) (fun c1 c2 => ?_) (fun c1 c2 => ?_)
  · refine wp_aload_n dL_law_405 rfl rfl ?_
    refine wp_aload_n dL_law_406 rfl rfl ?_
    refine wp_iload_n dL_law_407 rfl rfl ?_
    refine wp_iconst dL_law_408 (by decide) ?_
    refine wp_iadd dL_law_409 (by omega) ?_
    refine wp_sld ⟨by omega, by omega⟩ dL_law_410 ?_
    rw [← hx1]
    refine wp_callV0 (d' := d - 1) cv_RL_60 69 rfl [(0, x1)] [(0, (-2))] rfl rfl (Or.inl ⟨_, _, rfl, by decide, rfl, by omega, by omega⟩) (by omega) (Nat.le_of_ble_eq_true rfl) dL_law_411 rfl (Nat.le_of_ble_eq_true rfl) (by omega) (loc1 := [(2, 69), (0, x1)]) rfl ?_
    refine cm_come (by decide) hJ (by omega) x1 (fun _ => ?_) (fun h => absurd h c1) (fun h => absurd h c1)
    refine wp_icmp_eq (tgt := 968) dL_law_414 (by decide) (fun _ => ?_) (fun h => absurd h (by decide))
    exact hk M A K B (hV.le (by omega))
  · refine wp_aload_n dL_law_405 rfl rfl ?_
    refine wp_aload_n dL_law_406 rfl rfl ?_
    refine wp_iload_n dL_law_407 rfl rfl ?_
    refine wp_iconst dL_law_408 (by decide) ?_
    refine wp_iadd dL_law_409 (by omega) ?_
    refine wp_sld ⟨by omega, by omega⟩ dL_law_410 ?_
    rw [← hx1]
    refine wp_callV0 (d' := d - 1) cv_RL_60 69 rfl [(0, x1)] [(0, (-3))] rfl rfl (Or.inl ⟨_, _, rfl, by decide, rfl, by omega, by omega⟩) (by omega) (Nat.le_of_ble_eq_true rfl) dL_law_411 rfl (Nat.le_of_ble_eq_true rfl) (by omega) (loc1 := [(2, 69), (0, x1)]) rfl ?_
    refine cm_come (by decide) hJ (by omega) x1 (fun h => absurd c1 h) (fun _ _ => ?_) (fun _ h => absurd h c2)
    refine wp_icmp_eq (tgt := 968) dL_law_414 (by decide) (fun _ => ?_) (fun h => absurd h (by decide))
    exact hk M A K B (hV.le (by omega))
  · have F1 : Fr V2 M (mu (mu (mu M 7 x1.toNat 0) 8 (M 2 3).toNat x1) 2 3 (M 2 3 + 1)) := ((Fr.rf.put (by unfold V2; omega)).put (by unfold V2; omega)).put (by unfold V2; omega)
    have R1 := sr_V2 F1 hR
    have C1 : CJ (mu (mu (mu M 7 x1.toNat 0) 8 (M 2 3).toNat x1) 2 3 (M 2 3 + 1)) (comA A x1) := hC.of F1 vn_V2 R1 hA.com (hW.com c1 c2) hr
    have J1 := hV.mj (F1.mono (fun i j v => (lm_V2 i j v).2)) R1
    rw [show M 2 3 + 1 - 1 = A.1 3 by rw [hA.2.2.2.1]; omega]
    generalize (mu (mu (mu M 7 x1.toNat 0) 8 (M 2 3).toNat x1) 2 3 (M 2 3 + 1)) = M1 at F1 R1 C1 J1 ⊢
    refine wp_aload_n dL_law_405 rfl rfl ?_
    refine wp_aload_n dL_law_406 rfl rfl ?_
    refine wp_iload_n dL_law_407 rfl rfl ?_
    refine wp_iconst dL_law_408 (by decide) ?_
    refine wp_iadd dL_law_409 (by omega) ?_
    refine wp_sld ⟨by omega, by omega⟩ dL_law_410 ?_
    rw [← hx1]
    refine wp_callV0 (d' := d - 1) cv_RL_60 69 rfl [(0, x1)] [(0, (A.1 3))] rfl rfl (Or.inl ⟨_, _, rfl, by decide, rfl, by omega, by omega⟩) (by omega) (Nat.le_of_ble_eq_true rfl) dL_law_411 rfl (Nat.le_of_ble_eq_true rfl) (by omega) (loc1 := [(2, 69), (0, x1)]) rfl ?_
    refine cm_come (by decide) J1 (by omega) x1 (fun h => absurd c1 h) (fun _ h => absurd c2 h) (fun _ _ M2 J2 F2 => ?_)
    refine wp_icmp_eq (tgt := 968) dL_law_414 (by decide) (fun _ => ?_) (fun h => absurd rfl h)
    have FL : Fr VLm M M2 := (F1.mono (fun i j v => (lm_V2 i j v).1)).tr (F2.mono (fun i j v => (lm_VMl i j v).1))
    have C2 : CJ M2 (comA A x1) := C1.mdl (g_VMl F2) J2.1
    exact hk M2 _ K B (hV.land FL C2 J2 (h0) (Int.le_refl _) (fun i hi => show mu (mu A.2 4 x1.toNat 0) 5 (A.1 3).toNat x1 0 i = A.2 0 i from (mu_ne _ _ _ (by decide) _).trans (mu_ne _ _ _ (by decide) _)) (sq_0 hSq ((F1.mono nq_V2).tr (F2.mono nq_VMl))))
set_option maxRecDepth 20000 in
set_option maxHeartbeats 4000000 in
theorem op_force {l : Launch} {g : Gw} {d : Nat} (hd : 100 ≤ d) (hL3 : g.2.2.2.2.1 100 ≤ 3072) {i : Nat} (hi : i + 6 ≤ g.2.2.2.2.1 100) {M : Mm} {A K : Ls} {B : Mm} {sq : Int} (hV : IV M A K B sq) (hsq : sq ≤ 100000) {Q : Option Wd → Mm → Prop} (hk : ∀ M2 A2 K2 B2, IV M2 A2 K2 B2 (sq + 20) → Wp l g d 0 0 90 m_L_law 968 [] [(2, 1015), (2, 1), (2, 69), (0, (i : Int))] M2 Q) : Wp l g d 0 0 90 m_L_law 301 [] [(2, 1015), (2, 1), (2, 69), (0, (i : Int))] M Q := by
  obtain ⟨x1, hx1⟩ : ∃ x, x = (scI g ((i : Int) + 1).toNat).toInt := ⟨_, rfl⟩
  obtain ⟨x2, hx2⟩ : ∃ x, x = (scI g ((i : Int) + 2).toNat).toInt := ⟨_, rfl⟩
  obtain ⟨x3, hx3⟩ : ∃ x, x = (scI g ((i : Int) + 3).toNat).toInt := ⟨_, rfl⟩
  obtain ⟨x4, hx4⟩ : ∃ x, x = (scI g ((i : Int) + 4).toNat).toInt := ⟨_, rfl⟩
  obtain ⟨x5, hx5⟩ : ∃ x, x = (scI g ((i : Int) + 5).toNat).toInt := ⟨_, rfl⟩
  have hr1 := sc_r g ((i : Int) + 1).toNat
  have hr2 := sc_r g ((i : Int) + 2).toNat
  have hr3 := sc_r g ((i : Int) + 3).toNat
  have hr4 := sc_r g ((i : Int) + 4).toNat
  have hr5 := sc_r g ((i : Int) + 5).toNat
  rw [← hx1] at hr1
  rw [← hx2] at hr2
  rw [← hx3] at hr3
  rw [← hx4] at hr4
  rw [← hx5] at hr5
  obtain ⟨hC, hJ, h0, hIm, h25, hTp, ⟨hBs, hBm, hBw⟩, hSq⟩ := id hV
  obtain ⟨hR, hX, hA, hW, hr⟩ := id hC
  refine wp_aload_n dL_law_301 rfl rfl ?_
  refine wp_aload_n dL_law_302 rfl rfl ?_
  refine wp_iload_n dL_law_303 rfl rfl ?_
  refine wp_iconst dL_law_304 (by decide) ?_
  refine wp_iadd dL_law_305 (by omega) ?_
  refine wp_sld ⟨by omega, by omega⟩ dL_law_306 ?_
  rw [← hx1]
  refine wp_callV0 (d' := d - 1) cv_RL_37 1 rfl [(0, x1)] [] rfl rfl (Or.inl ⟨_, _, rfl, by decide, rfl, by omega, by omega⟩) (by omega) (Nat.le_of_ble_eq_true rfl) dL_law_307 rfl (Nat.le_of_ble_eq_true rfl) (by omega) (loc1 := [(2, 1), (0, x1), (9, 0)]) rfl ?_
  refine cs_force (by decide) (by omega) hC x1 (fun c1 => ?_) (fun c1 => ?_)
  · refine wp_aload_n dL_law_310 rfl rfl ?_
    refine wp_aload_n dL_law_311 rfl rfl ?_
    refine wp_iload_n dL_law_312 rfl rfl ?_
    refine wp_iconst dL_law_313 (by decide) ?_
    refine wp_iadd dL_law_314 (by omega) ?_
    refine wp_sld ⟨by omega, by omega⟩ dL_law_315 ?_
    rw [← hx1]
    refine wp_callV0 (d' := d - 1) cv_RL_40 69 rfl [(0, x1)] [(0, (-2))] rfl rfl (Or.inl ⟨_, _, rfl, by decide, rfl, by omega, by omega⟩) (by omega) (Nat.le_of_ble_eq_true rfl) dL_law_316 rfl (Nat.le_of_ble_eq_true rfl) (by omega) (loc1 := [(2, 69), (0, x1), (9, 0)]) rfl ?_
    refine cm_force (by decide) hJ (by omega) x1 (fun _ => ?_) (fun h => absurd (by rw [h25]; exact h) c1)
    refine wp_icmp_eq (tgt := 968) dL_law_319 (by decide) (fun _ => ?_) (fun h => absurd h (by decide))
    exact hk M A K B (hV.le (by omega))
  · have F1 : Fr V2 M (mu M 2 1 x1) := Fr.rf.put (by unfold V2; omega)
    have R1 := sr_V2 F1 hR
    have C1 : CJ (mu M 2 1 x1) (setS A 1 x1) := hC.of F1 vn_V2 R1 (hA.setS (k := 1) (by omega)) (hW.sSet x1) c1
    have J1 := hV.mj (F1.mono (fun i j v => (lm_V2 i j v).2)) R1
    have e3 : mu M 2 1 x1 69 3 = M 25 1 := h25.symm
    generalize mu M 2 1 x1 = M1 at F1 R1 C1 J1 e3 ⊢
    refine wp_aload_n dL_law_310 rfl rfl ?_
    refine wp_aload_n dL_law_311 rfl rfl ?_
    refine wp_iload_n dL_law_312 rfl rfl ?_
    refine wp_iconst dL_law_313 (by decide) ?_
    refine wp_iadd dL_law_314 (by omega) ?_
    refine wp_sld ⟨by omega, by omega⟩ dL_law_315 ?_
    rw [← hx1]
    refine wp_callV0 (d' := d - 1) cv_RL_40 69 rfl [(0, x1)] [(0, (A.1 1))] rfl rfl (Or.inl ⟨_, _, rfl, by decide, rfl, by omega, by omega⟩) (by omega) (Nat.le_of_ble_eq_true rfl) dL_law_316 rfl (Nat.le_of_ble_eq_true rfl) (by omega) (loc1 := [(2, 69), (0, x1), (9, 0)]) rfl ?_
    refine cm_force (by decide) J1 (by omega) x1 (fun h => absurd (by rw [e3]; exact c1) h) (fun _ M2 J2 F2 => ?_)
    refine wp_icmp_eq (tgt := 968) dL_law_319 (by decide) (fun _ => ?_) (fun h => absurd rfl h)
    have FL : Fr VLm M M2 := (F1.mono (fun i j v => (lm_V2 i j v).1)).tr (F2.mono (fun i j v => (lm_VMl i j v).1))
    have C2 : CJ M2 (setS A 1 x1) := C1.mdl (g_VMl F2) J2.1
    exact hk M2 _ K B (hV.land FL C2 J2 (h0) (Int.le_refl _) (fun _ _ => rfl) (sq_0 hSq ((F1.mono nq_V2).tr (F2.mono nq_VMl))))
set_option maxRecDepth 20000 in
set_option maxHeartbeats 4000000 in
theorem op_people {l : Launch} {g : Gw} {d : Nat} (hd : 100 ≤ d) (hL3 : g.2.2.2.2.1 100 ≤ 3072) {i : Nat} (hi : i + 6 ≤ g.2.2.2.2.1 100) {M : Mm} {A K : Ls} {B : Mm} {sq : Int} (hV : IV M A K B sq) (hsq : sq ≤ 100000) {Q : Option Wd → Mm → Prop} (hk : ∀ M2 A2 K2 B2, IV M2 A2 K2 B2 (sq + 20) → Wp l g d 0 0 90 m_L_law 968 [] [(2, 1015), (2, 1), (2, 69), (0, (i : Int))] M2 Q) : Wp l g d 0 0 90 m_L_law 882 [] [(2, 1015), (2, 1), (2, 69), (0, (i : Int))] M Q := by
  obtain ⟨x1, hx1⟩ : ∃ x, x = (scI g ((i : Int) + 1).toNat).toInt := ⟨_, rfl⟩
  obtain ⟨x2, hx2⟩ : ∃ x, x = (scI g ((i : Int) + 2).toNat).toInt := ⟨_, rfl⟩
  obtain ⟨x3, hx3⟩ : ∃ x, x = (scI g ((i : Int) + 3).toNat).toInt := ⟨_, rfl⟩
  obtain ⟨x4, hx4⟩ : ∃ x, x = (scI g ((i : Int) + 4).toNat).toInt := ⟨_, rfl⟩
  obtain ⟨x5, hx5⟩ : ∃ x, x = (scI g ((i : Int) + 5).toNat).toInt := ⟨_, rfl⟩
  have hr1 := sc_r g ((i : Int) + 1).toNat
  have hr2 := sc_r g ((i : Int) + 2).toNat
  have hr3 := sc_r g ((i : Int) + 3).toNat
  have hr4 := sc_r g ((i : Int) + 4).toNat
  have hr5 := sc_r g ((i : Int) + 5).toNat
  rw [← hx1] at hr1
  rw [← hx2] at hr2
  rw [← hx3] at hr3
  rw [← hx4] at hr4
  rw [← hx5] at hr5
  obtain ⟨hC, hJ, h0, hIm, h25, hTp, ⟨hBs, hBm, hBw⟩, hSq⟩ := id hV
  obtain ⟨hR, hX, hA, hW, hr⟩ := id hC
  refine wp_aload_n dL_law_882 rfl rfl ?_
  refine wp_aload_n dL_law_883 rfl rfl ?_
  refine wp_iload_n dL_law_884 rfl rfl ?_
  refine wp_iconst dL_law_885 (by decide) ?_
  refine wp_iadd dL_law_886 (by omega) ?_
  refine wp_sld ⟨by omega, by omega⟩ dL_law_887 ?_
  rw [← hx1]
  refine wp_aload_n dL_law_888 rfl rfl ?_
  refine wp_iload_n dL_law_889 rfl rfl ?_
  refine wp_iconst dL_law_890 (by decide) ?_
  refine wp_iadd dL_law_891 (by omega) ?_
  refine wp_sld ⟨by omega, by omega⟩ dL_law_892 ?_
  rw [← hx2]
  refine wp_aload_n dL_law_893 rfl rfl ?_
  refine wp_iload_n dL_law_894 rfl rfl ?_
  refine wp_iconst dL_law_895 (by decide) ?_
  refine wp_iadd dL_law_896 (by omega) ?_
  refine wp_sld ⟨by omega, by omega⟩ dL_law_897 ?_
  rw [← hx3]
  refine wp_aload_n dL_law_898 rfl rfl ?_
  refine wp_iload_n dL_law_899 rfl rfl ?_
  refine wp_iconst dL_law_900 (by decide) ?_
  refine wp_iadd dL_law_901 (by omega) ?_
  refine wp_sld ⟨by omega, by omega⟩ dL_law_902 ?_
  rw [← hx4]
  refine wp_callV0 (d' := d - 1) cv_RL_119 1 rfl [(0, x1), (0, x2), (0, x3), (0, x4)] [] rfl rfl (Or.inl ⟨_, _, rfl, by decide, rfl, by omega, by omega⟩) (by omega) (Nat.le_of_ble_eq_true rfl) dL_law_903 rfl (Nat.le_of_ble_eq_true rfl) (by omega) (loc1 := [(2, 1), (0, x1), (0, x2), (0, x3), (0, x4), (9, 0), (9, 0), (9, 0), (9, 0)]) rfl ?_
  refine cs_people (by decide) (by omega) hC hBs hBw x1 x2 x3 x4 hr3 (fun c1 => ?_) (fun c1 c2 => ?_) (fun c1 c2 c3 => ?_) (fun c1 c2 M1 C1 F1 => ?_)
  · refine wp_aload_n dL_law_906 rfl rfl ?_
    refine wp_aload_n dL_law_907 rfl rfl ?_
    refine wp_iload_n dL_law_908 rfl rfl ?_
    refine wp_iconst dL_law_909 (by decide) ?_
    refine wp_iadd dL_law_910 (by omega) ?_
    refine wp_sld ⟨by omega, by omega⟩ dL_law_911 ?_
    rw [← hx1]
    refine wp_aload_n dL_law_912 rfl rfl ?_
    refine wp_iload_n dL_law_913 rfl rfl ?_
    refine wp_iconst dL_law_914 (by decide) ?_
    refine wp_iadd dL_law_915 (by omega) ?_
    refine wp_sld ⟨by omega, by omega⟩ dL_law_916 ?_
    rw [← hx2]
    refine wp_aload_n dL_law_917 rfl rfl ?_
    refine wp_iload_n dL_law_918 rfl rfl ?_
    refine wp_iconst dL_law_919 (by decide) ?_
    refine wp_iadd dL_law_920 (by omega) ?_
    refine wp_sld ⟨by omega, by omega⟩ dL_law_921 ?_
    rw [← hx3]
    refine wp_aload_n dL_law_922 rfl rfl ?_
    refine wp_iload_n dL_law_923 rfl rfl ?_
    refine wp_iconst dL_law_924 (by decide) ?_
    refine wp_iadd dL_law_925 (by omega) ?_
    refine wp_sld ⟨by omega, by omega⟩ dL_law_926 ?_
    rw [← hx4]
    refine wp_callV0 (d' := d - 1) cv_RL_123 69 rfl [(0, x1), (0, x2), (0, x3), (0, x4)] [(0, (-2))] rfl rfl (Or.inl ⟨_, _, rfl, by decide, rfl, by omega, by omega⟩) (by omega) (Nat.le_of_ble_eq_true rfl) dL_law_927 rfl (Nat.le_of_ble_eq_true rfl) (by omega) (loc1 := [(2, 69), (0, x1), (0, x2), (0, x3), (0, x4), (9, 0), (9, 0), (9, 0)]) rfl ?_
    refine cm_people (by decide) hJ (by omega) hBm hBw x1 x2 x3 x4 hr3 (fun _ => ?_) (fun h => absurd h c1) (fun h => absurd h c1) (fun h => absurd h c1)
    refine wp_icmp_eq (tgt := 968) dL_law_930 (by decide) (fun _ => ?_) (fun h => absurd h (by decide))
    exact hk M A K B (hV.le (by omega))
  · refine wp_aload_n dL_law_906 rfl rfl ?_
    refine wp_aload_n dL_law_907 rfl rfl ?_
    refine wp_iload_n dL_law_908 rfl rfl ?_
    refine wp_iconst dL_law_909 (by decide) ?_
    refine wp_iadd dL_law_910 (by omega) ?_
    refine wp_sld ⟨by omega, by omega⟩ dL_law_911 ?_
    rw [← hx1]
    refine wp_aload_n dL_law_912 rfl rfl ?_
    refine wp_iload_n dL_law_913 rfl rfl ?_
    refine wp_iconst dL_law_914 (by decide) ?_
    refine wp_iadd dL_law_915 (by omega) ?_
    refine wp_sld ⟨by omega, by omega⟩ dL_law_916 ?_
    rw [← hx2]
    refine wp_aload_n dL_law_917 rfl rfl ?_
    refine wp_iload_n dL_law_918 rfl rfl ?_
    refine wp_iconst dL_law_919 (by decide) ?_
    refine wp_iadd dL_law_920 (by omega) ?_
    refine wp_sld ⟨by omega, by omega⟩ dL_law_921 ?_
    rw [← hx3]
    refine wp_aload_n dL_law_922 rfl rfl ?_
    refine wp_iload_n dL_law_923 rfl rfl ?_
    refine wp_iconst dL_law_924 (by decide) ?_
    refine wp_iadd dL_law_925 (by omega) ?_
    refine wp_sld ⟨by omega, by omega⟩ dL_law_926 ?_
    rw [← hx4]
    refine wp_callV0 (d' := d - 1) cv_RL_123 69 rfl [(0, x1), (0, x2), (0, x3), (0, x4)] [(0, (-11))] rfl rfl (Or.inl ⟨_, _, rfl, by decide, rfl, by omega, by omega⟩) (by omega) (Nat.le_of_ble_eq_true rfl) dL_law_927 rfl (Nat.le_of_ble_eq_true rfl) (by omega) (loc1 := [(2, 69), (0, x1), (0, x2), (0, x3), (0, x4), (9, 0), (9, 0), (9, 0)]) rfl ?_
    refine cm_people (by decide) hJ (by omega) hBm hBw x1 x2 x3 x4 hr3 (fun h => absurd c1 h) (fun _ _ => ?_) (fun _ h => absurd c2 h) (fun h1 h => absurd c2 (by omega))
    refine wp_icmp_eq (tgt := 968) dL_law_930 (by decide) (fun _ => ?_) (fun h => absurd h (by decide))
    exact hk M A K B (hV.le (by omega))
  · refine wp_aload_n dL_law_906 rfl rfl ?_
    refine wp_aload_n dL_law_907 rfl rfl ?_
    refine wp_iload_n dL_law_908 rfl rfl ?_
    refine wp_iconst dL_law_909 (by decide) ?_
    refine wp_iadd dL_law_910 (by omega) ?_
    refine wp_sld ⟨by omega, by omega⟩ dL_law_911 ?_
    rw [← hx1]
    refine wp_aload_n dL_law_912 rfl rfl ?_
    refine wp_iload_n dL_law_913 rfl rfl ?_
    refine wp_iconst dL_law_914 (by decide) ?_
    refine wp_iadd dL_law_915 (by omega) ?_
    refine wp_sld ⟨by omega, by omega⟩ dL_law_916 ?_
    rw [← hx2]
    refine wp_aload_n dL_law_917 rfl rfl ?_
    refine wp_iload_n dL_law_918 rfl rfl ?_
    refine wp_iconst dL_law_919 (by decide) ?_
    refine wp_iadd dL_law_920 (by omega) ?_
    refine wp_sld ⟨by omega, by omega⟩ dL_law_921 ?_
    rw [← hx3]
    refine wp_aload_n dL_law_922 rfl rfl ?_
    refine wp_iload_n dL_law_923 rfl rfl ?_
    refine wp_iconst dL_law_924 (by decide) ?_
    refine wp_iadd dL_law_925 (by omega) ?_
    refine wp_sld ⟨by omega, by omega⟩ dL_law_926 ?_
    rw [← hx4]
    refine wp_callV0 (d' := d - 1) cv_RL_123 69 rfl [(0, x1), (0, x2), (0, x3), (0, x4)] [(0, (-13))] rfl rfl (Or.inl ⟨_, _, rfl, by decide, rfl, by omega, by omega⟩) (by omega) (Nat.le_of_ble_eq_true rfl) dL_law_927 rfl (Nat.le_of_ble_eq_true rfl) (by omega) (loc1 := [(2, 69), (0, x1), (0, x2), (0, x3), (0, x4), (9, 0), (9, 0), (9, 0)]) rfl ?_
    refine cm_people (by decide) hJ (by omega) hBm hBw x1 x2 x3 x4 hr3 (fun h => absurd c1 h) (fun _ h => absurd h c2) (fun _ _ _ => ?_) (fun _ h => absurd h c3)
    refine wp_icmp_eq (tgt := 968) dL_law_930 (by decide) (fun _ => ?_) (fun h => absurd h (by decide))
    exact hk M A K B (hV.le (by omega))
  · have R1 := C1.1
    have J1 := hV.mj (F1.mono (fun i j v => (lm_V2 i j v).2)) R1
    have B1 := hBm.fr (F1.mono (fun i j v => (lm_V2 i j v).2)) (fun i j v => by unfold VCl at v; unfold VMh; omega)
    refine wp_aload_n dL_law_906 rfl rfl ?_
    refine wp_aload_n dL_law_907 rfl rfl ?_
    refine wp_iload_n dL_law_908 rfl rfl ?_
    refine wp_iconst dL_law_909 (by decide) ?_
    refine wp_iadd dL_law_910 (by omega) ?_
    refine wp_sld ⟨by omega, by omega⟩ dL_law_911 ?_
    rw [← hx1]
    refine wp_aload_n dL_law_912 rfl rfl ?_
    refine wp_iload_n dL_law_913 rfl rfl ?_
    refine wp_iconst dL_law_914 (by decide) ?_
    refine wp_iadd dL_law_915 (by omega) ?_
    refine wp_sld ⟨by omega, by omega⟩ dL_law_916 ?_
    rw [← hx2]
    refine wp_aload_n dL_law_917 rfl rfl ?_
    refine wp_iload_n dL_law_918 rfl rfl ?_
    refine wp_iconst dL_law_919 (by decide) ?_
    refine wp_iadd dL_law_920 (by omega) ?_
    refine wp_sld ⟨by omega, by omega⟩ dL_law_921 ?_
    rw [← hx3]
    refine wp_aload_n dL_law_922 rfl rfl ?_
    refine wp_iload_n dL_law_923 rfl rfl ?_
    refine wp_iconst dL_law_924 (by decide) ?_
    refine wp_iadd dL_law_925 (by omega) ?_
    refine wp_sld ⟨by omega, by omega⟩ dL_law_926 ?_
    rw [← hx4]
    refine wp_callV0 (d' := d - 1) cv_RL_123 69 rfl [(0, x1), (0, x2), (0, x3), (0, x4)] [(0, (pplA (fun i => B x1.toNat (2 + i)) (B x1.toNat 1) x3 x4.toNat 0 A 0).2)] rfl rfl (Or.inl ⟨_, _, rfl, by decide, rfl, by omega, by omega⟩) (by omega) (Nat.le_of_ble_eq_true rfl) dL_law_927 rfl (Nat.le_of_ble_eq_true rfl) (by omega) (loc1 := [(2, 69), (0, x1), (0, x2), (0, x3), (0, x4), (9, 0), (9, 0), (9, 0)]) rfl ?_
    refine cm_people (by decide) J1 (by omega) B1 hBw x1 x2 x3 x4 hr3 (fun h => absurd c1 h) (fun _ h => absurd h (by omega)) (fun _ _ h => absurd c2 h) (fun _ _ M2 J2 F2 => ?_)
    have hps := ppl_same (f := fun i => B x1.toNat (2 + i)) (z := B x1.toNat 1) (at' := x3) x4.toNat 0 A 0 hW
    refine wp_icmp_eq (tgt := 968) dL_law_930 (by decide) (fun _ => ?_) (fun h => absurd rfl h)
    have FL : Fr VLm M M2 := (F1.mono (fun i j v => (lm_V2 i j v).1)).tr (F2.mono (fun i j v => (lm_VMl i j v).1))
    have C2 : CJ M2 ((pplA (fun i => B x1.toNat (2 + i)) (B x1.toNat 1) x3 x4.toNat 0 A 0).1) := C1.mdl (g_VMl F2) J2.1
    exact hk M2 _ K B (hV.land FL C2 J2 (by rw [hps.1]; exact h0) (hps.2.1) (hps.2.2) (sq_0 hSq ((F1.mono nq_V2).tr (F2.mono nq_VMl))))
set_option maxRecDepth 20000 in
set_option maxHeartbeats 4000000 in
theorem op_tells {l : Launch} {g : Gw} {d : Nat} (hd : 100 ≤ d) (hL3 : g.2.2.2.2.1 100 ≤ 3072) {i : Nat} (hi : i + 6 ≤ g.2.2.2.2.1 100) {M : Mm} {A K : Ls} {B : Mm} {sq : Int} (hV : IV M A K B sq) (hsq : sq ≤ 100000) {Q : Option Wd → Mm → Prop} (hk : ∀ M2 A2 K2 B2, IV M2 A2 K2 B2 (sq + 20) → Wp l g d 0 0 90 m_L_law 968 [] [(2, 1015), (2, 1), (2, 69), (0, (i : Int))] M2 Q) : Wp l g d 0 0 90 m_L_law 531 [] [(2, 1015), (2, 1), (2, 69), (0, (i : Int))] M Q := by
  obtain ⟨x1, hx1⟩ : ∃ x, x = (scI g ((i : Int) + 1).toNat).toInt := ⟨_, rfl⟩
  obtain ⟨x2, hx2⟩ : ∃ x, x = (scI g ((i : Int) + 2).toNat).toInt := ⟨_, rfl⟩
  obtain ⟨x3, hx3⟩ : ∃ x, x = (scI g ((i : Int) + 3).toNat).toInt := ⟨_, rfl⟩
  obtain ⟨x4, hx4⟩ : ∃ x, x = (scI g ((i : Int) + 4).toNat).toInt := ⟨_, rfl⟩
  obtain ⟨x5, hx5⟩ : ∃ x, x = (scI g ((i : Int) + 5).toNat).toInt := ⟨_, rfl⟩
  have hr1 := sc_r g ((i : Int) + 1).toNat
  have hr2 := sc_r g ((i : Int) + 2).toNat
  have hr3 := sc_r g ((i : Int) + 3).toNat
  have hr4 := sc_r g ((i : Int) + 4).toNat
  have hr5 := sc_r g ((i : Int) + 5).toNat
  rw [← hx1] at hr1
  rw [← hx2] at hr2
  rw [← hx3] at hr3
  rw [← hx4] at hr4
  rw [← hx5] at hr5
  obtain ⟨hC, hJ, h0, hIm, h25, hTp, ⟨hBs, hBm, hBw⟩, hSq⟩ := id hV
  obtain ⟨hR, hX, hA, hW, hr⟩ := id hC
  refine wp_aload_n dL_law_531 rfl rfl ?_
  refine wp_aload_n dL_law_532 rfl rfl ?_
  refine wp_iload_n dL_law_533 rfl rfl ?_
  refine wp_iconst dL_law_534 (by decide) ?_
  refine wp_iadd dL_law_535 (by omega) ?_
  refine wp_sld ⟨by omega, by omega⟩ dL_law_536 ?_
  rw [← hx1]
  refine wp_aload_n dL_law_537 rfl rfl ?_
  refine wp_iload_n dL_law_538 rfl rfl ?_
  refine wp_iconst dL_law_539 (by decide) ?_
  refine wp_iadd dL_law_540 (by omega) ?_
  refine wp_sld ⟨by omega, by omega⟩ dL_law_541 ?_
  rw [← hx2]
  refine wp_aload_n dL_law_542 rfl rfl ?_
  refine wp_iload_n dL_law_543 rfl rfl ?_
  refine wp_iconst dL_law_544 (by decide) ?_
  refine wp_iadd dL_law_545 (by omega) ?_
  refine wp_sld ⟨by omega, by omega⟩ dL_law_546 ?_
  rw [← hx3]
  refine wp_callV0 (d' := d - 1) cv_RL_77 1 rfl [(0, x1), (0, x2), (0, x3)] [] rfl rfl (Or.inl ⟨_, _, rfl, by decide, rfl, by omega, by omega⟩) (by omega) (Nat.le_of_ble_eq_true rfl) dL_law_547 rfl (Nat.le_of_ble_eq_true rfl) (by omega) (loc1 := [(2, 1), (0, x1), (0, x2), (0, x3), (9, 0), (9, 0), (9, 0)]) rfl ?_
  refine cs_tells (by decide) (by omega) hC hBs hBw x1 x2 x3 (fun c1 => ?_) (fun c1 c2 => ?_) (fun c1 c2 c3 M1 F1 R1 => ?_)
  · refine wp_aload_n dL_law_550 rfl rfl ?_
    refine wp_aload_n dL_law_551 rfl rfl ?_
    refine wp_iload_n dL_law_552 rfl rfl ?_
    refine wp_iconst dL_law_553 (by decide) ?_
    refine wp_iadd dL_law_554 (by omega) ?_
    refine wp_sld ⟨by omega, by omega⟩ dL_law_555 ?_
    rw [← hx1]
    refine wp_aload_n dL_law_556 rfl rfl ?_
    refine wp_iload_n dL_law_557 rfl rfl ?_
    refine wp_iconst dL_law_558 (by decide) ?_
    refine wp_iadd dL_law_559 (by omega) ?_
    refine wp_sld ⟨by omega, by omega⟩ dL_law_560 ?_
    rw [← hx2]
    refine wp_aload_n dL_law_561 rfl rfl ?_
    refine wp_iload_n dL_law_562 rfl rfl ?_
    refine wp_iconst dL_law_563 (by decide) ?_
    refine wp_iadd dL_law_564 (by omega) ?_
    refine wp_sld ⟨by omega, by omega⟩ dL_law_565 ?_
    rw [← hx3]
    refine wp_callV0 (d' := d - 1) cv_RL_80 69 rfl [(0, x1), (0, x2), (0, x3)] [(0, (-2))] rfl rfl (Or.inl ⟨_, _, rfl, by decide, rfl, by omega, by omega⟩) (by omega) (Nat.le_of_ble_eq_true rfl) dL_law_566 rfl (Nat.le_of_ble_eq_true rfl) (by omega) (loc1 := [(2, 69), (0, x1), (0, x2), (0, x3), (9, 0), (9, 0), (9, 0), (9, 0), (9, 0), (9, 0), (9, 0)]) rfl ?_
    refine cm_tells (by decide) hJ (by omega) hBm hBw x1 x2 x3 (fun _ => ?_) (fun h1 h2 => absurd c1 (fun c => c.elim (fun q => q h1) (fun q => q.2.1 h2))) (fun h1 h2 h3 => absurd c1 (fun c => c.elim (fun q => q h1) (fun q => by have := q.2.2; omega)))
    refine wp_icmp_eq (tgt := 968) dL_law_569 (by decide) (fun _ => ?_) (fun h => absurd h (by decide))
    exact hk M A K B (hV.le (by omega))
  · refine wp_aload_n dL_law_550 rfl rfl ?_
    refine wp_aload_n dL_law_551 rfl rfl ?_
    refine wp_iload_n dL_law_552 rfl rfl ?_
    refine wp_iconst dL_law_553 (by decide) ?_
    refine wp_iadd dL_law_554 (by omega) ?_
    refine wp_sld ⟨by omega, by omega⟩ dL_law_555 ?_
    rw [← hx1]
    refine wp_aload_n dL_law_556 rfl rfl ?_
    refine wp_iload_n dL_law_557 rfl rfl ?_
    refine wp_iconst dL_law_558 (by decide) ?_
    refine wp_iadd dL_law_559 (by omega) ?_
    refine wp_sld ⟨by omega, by omega⟩ dL_law_560 ?_
    rw [← hx2]
    refine wp_aload_n dL_law_561 rfl rfl ?_
    refine wp_iload_n dL_law_562 rfl rfl ?_
    refine wp_iconst dL_law_563 (by decide) ?_
    refine wp_iadd dL_law_564 (by omega) ?_
    refine wp_sld ⟨by omega, by omega⟩ dL_law_565 ?_
    rw [← hx3]
    refine wp_callV0 (d' := d - 1) cv_RL_80 69 rfl [(0, x1), (0, x2), (0, x3)] [(0, (-11))] rfl rfl (Or.inl ⟨_, _, rfl, by decide, rfl, by omega, by omega⟩) (by omega) (Nat.le_of_ble_eq_true rfl) dL_law_566 rfl (Nat.le_of_ble_eq_true rfl) (by omega) (loc1 := [(2, 69), (0, x1), (0, x2), (0, x3), (9, 0), (9, 0), (9, 0), (9, 0), (9, 0), (9, 0), (9, 0)]) rfl ?_
    refine cm_tells (by decide) hJ (by omega) hBm hBw x1 x2 x3 (fun h => absurd h (fun c => c.elim (fun q => q c1) (fun q => q.2.1 c2))) (fun _ _ => ?_) (fun _ h => absurd c2 h)
    refine wp_icmp_eq (tgt := 968) dL_law_569 (by decide) (fun _ => ?_) (fun h => absurd h (by decide))
    exact hk M A K B (hV.le (by omega))
  · have J1 := hV.mj (F1.mono (fun i j v => (lm_VW i j v).2)) R1
    have C1 : CJ M1 A := hC.fr F1 R1 cj_VW
    have B1 := hBm.fr (F1.mono (fun i j v => (lm_VW i j v).2)) (fun i j v => by unfold VCl at v; unfold VMh; omega)
    have e3 : M1 69 3 = M 25 1 := (F1 69 3 (by unfold VW VX; omega)).trans h25.symm
    refine wp_aload_n dL_law_550 rfl rfl ?_
    refine wp_aload_n dL_law_551 rfl rfl ?_
    refine wp_iload_n dL_law_552 rfl rfl ?_
    refine wp_iconst dL_law_553 (by decide) ?_
    refine wp_iadd dL_law_554 (by omega) ?_
    refine wp_sld ⟨by omega, by omega⟩ dL_law_555 ?_
    rw [← hx1]
    refine wp_aload_n dL_law_556 rfl rfl ?_
    refine wp_iload_n dL_law_557 rfl rfl ?_
    refine wp_iconst dL_law_558 (by decide) ?_
    refine wp_iadd dL_law_559 (by omega) ?_
    refine wp_sld ⟨by omega, by omega⟩ dL_law_560 ?_
    rw [← hx2]
    refine wp_aload_n dL_law_561 rfl rfl ?_
    refine wp_iload_n dL_law_562 rfl rfl ?_
    refine wp_iconst dL_law_563 (by decide) ?_
    refine wp_iadd dL_law_564 (by omega) ?_
    refine wp_sld ⟨by omega, by omega⟩ dL_law_565 ?_
    rw [← hx3]
    refine wp_callV0 (d' := d - 1) cv_RL_80 69 rfl [(0, x1), (0, x2), (0, x3)] [(0, (tlsA (evC M) (fun i => B x1.toNat (2 + i)) (B x1.toNat 1).toNat (M 25 1) A x2 x3))] rfl rfl (Or.inl ⟨_, _, rfl, by decide, rfl, by omega, by omega⟩) (by omega) (Nat.le_of_ble_eq_true rfl) dL_law_566 rfl (Nat.le_of_ble_eq_true rfl) (by omega) (loc1 := [(2, 69), (0, x1), (0, x2), (0, x3), (9, 0), (9, 0), (9, 0), (9, 0), (9, 0), (9, 0), (9, 0)]) rfl ?_
    refine cm_tells (by decide) J1 (by omega) B1 hBw x1 x2 x3 (fun h => absurd h (fun c => c.elim (fun q => q c1) (fun q => by have := q.2.2; omega))) (fun _ h => absurd h c2) (fun _ _ _ M2 J2 F2 => ?_)
    rw [e3]
    refine wp_icmp_eq (tgt := 968) dL_law_569 (by decide) (fun _ => ?_) (fun h => absurd rfl h)
    have FL : Fr VLm M M2 := (F1.mono (fun i j v => (lm_VW i j v).1)).tr (F2.mono (fun i j v => (lm_VMt i j v).1))
    have C2 : CJ M2 A := C1.mdl (g_VMt F2) J2.1
    exact hk M2 A K B (hV.land FL C2 J2 h0 (Int.le_refl _) (fun _ _ => rfl) (sq_0 hSq ((F1.mono nq_VW).tr (F2.mono nq_VMt))))
