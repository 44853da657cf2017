/-! ===== LIKES drawn ===== -/
def drZ (s : Int) : Nat → Int
  | 0 => s
  | p + 1 => wrap (wrap (drZ s p * 1103515245) + 12345)
def lkV (z s : Int) (p : Nat) : Int := bnd (Int.tmod (ush (drZ s (p + 1)) 9) 32) (bnd (wrap (shl 1 z - 1)) (bxr (shl 1 (p : Int)) (-1)))
def drwA (A : Ls) (s : Int) : Ls := (A.1, fun r i => if r = 2 then lkV (A.1 2) s i else A.2 r i)
theorem Wf.draw {A : Ls} (h : Wf A) (s : Int) : Wf (drwA A s) := h
theorem TJ.draw {M M' : Mm} {A : Ls} {E : Ev} (h : TJ M A E) {s : Int} (f : Fr (fun i _ => i = 19) M M') (hR : SR M') (hl : ∀ q : Nat, (q : Int) < A.1 2 → M' 19 q = lkV (A.1 2) s q) : TJ M' (drwA A s) E := by
  obtain ⟨h1, h2, h3, h4, h5, h6⟩ := h
  have fn : Fr VN M M' := f.mono (fun i j v => Or.inl (Or.inl (by have : i = 19 := v; omega)))
  have e : ∀ i j, ¬ i = 19 → M' i j = M i j := f
  obtain ⟨g0, g1, g2, g3, gr, gl⟩ := h3
  refine ⟨hR, h2.frN fn, ⟨(e _ _ (by omega)).trans g0, (e _ _ (by omega)).trans g1, (e _ _ (by omega)).trans g2, (e _ _ (by omega)).trans g3, fun r i a b => ?_, fun q hq => (e _ _ (by omega)).trans (gl q hq)⟩, h4.draw s, ?_, (evC_frN fn).trans h6⟩
  · show M' (16 + 1 + r) i = if r = 2 then lkV (A.1 2) s i else A.2 r i
    by_cases c : r = 2
    · subst c; rw [if_pos rfl]; exact hl i b
    · rw [if_neg c, e _ _ (by omega)]; exact gr r i a b
  · rw [fn 25 1 (by unfold VN VX; omega)]
    exact h5
def VU (i j : Nat) : Prop := VW i j ∨ VI i j
theorem VU.sr {M M' : Mm} (h : Fr VU M M') (hR : SR M) : SR M' := hR.frL h (by unfold VU VW VI VX VY; decide +kernel)
theorem VU.c : ∀ i j, VU i j → VN i j ∧ ¬ ((i = 2 ∧ j < 4) ∨ (2 < i ∧ i ≤ 8)) := by
  intro i j h
  rcases h with h | h
  · exact VW.c i j h
  · exact VI.c i j h
theorem VU.q : ∀ i j, VU i j → ¬ VS i j := by
  intro i j h
  rcases h with h | h
  · exact VW.q i j h
  · exact VI.q i j h
theorem SQ.fr {M M' : Mm} (h : SQ M) (f : Fr VW M M') : SQ M' := by
  have e : ∀ i j, ¬ VW i j → M' i j = M i j := f
  unfold SQ
  rw [e 52 5 (by unfold VW VX; omega)]
  refine ⟨h.1, h.2.1, fun c hc => ?_⟩
  rw [e 55 c (by unfold VW VX; omega)]
  exact h.2.2 c hc
set_option maxRecDepth 20000 in
set_option maxHeartbeats 4000000 in
theorem lp_draw  {l : Launch} {g : Gw} {d n : Nat} (hn : 60 ≤ n) {z s : Int} (h5 : z ≤ 5) {N : Nat} (hN : z = (N : Int)) : ∀ (m p : Nat) (M : Mm) (u : Wd) (Q : Option Wd → Mm → Prop), p + m = N → SR M → M 16 2 = z → (∀ q : Nat, q < p → M 19 q = lkV z s q) → (∀ M', Fr (fun i _ => i = 19) M M' → (∀ q : Nat, (q : Int) < z → M' 19 q = lkV z s q) → SR M' → Q none M') → Wp l g d 0 0 n m_X0_drawLikes 4 [] [(2, 16), (0, s), (0, drZ s p), (0, (p : Int)), u] M Q := by
  intro m
  induction m with
  | zero =>
    intro p M u Q hp hR hz h0 k
    refine wp_iload_n dX0_drawLikes_4 rfl rfl ?_
    refine wp_aload_n dX0_drawLikes_5 rfl rfl ?_
    refine wp_get 16 rfl fl_RX0_30 rfl ⟨by omega, by omega⟩ dX0_drawLikes_6 rfl (v := z) (hz) ?_
    refine wp_icmp_ge (tgt := 64) dX0_drawLikes_9 (by decide) (fun _ => ?_) (fun h => absurd h (by omega))
    refine wp_vret rfl dX0_drawLikes_64 ?_
    exact k M Fr.rf (fun q hq => h0 q (by omega)) hR
  | succ m ih =>
    intro p M u Q hp hR hz h0 k
    refine wp_iload_n dX0_drawLikes_4 rfl rfl ?_
    refine wp_aload_n dX0_drawLikes_5 rfl rfl ?_
    refine wp_get 16 rfl fl_RX0_30 rfl ⟨by omega, by omega⟩ dX0_drawLikes_6 rfl (v := z) (hz) ?_
    refine wp_icmp_ge (tgt := 64) dX0_drawLikes_9 (by decide) (fun h => absurd h (by omega)) (fun _ => ?_)
    refine wp_iload_n dX0_drawLikes_12 rfl rfl ?_
    refine wp_iconst dX0_drawLikes_13 (by decide) ?_
    refine wp_icmp_ge (tgt := 64) dX0_drawLikes_14 (by decide) (fun h => absurd h (by omega)) (fun _ => ?_)
    refine wp_iload_n dX0_drawLikes_17 rfl rfl ?_
    refine wp_ldc (x := 1103515245) dX0_drawLikes_18 kc_RX0_51 (by decide) (wr_i (by omega)) ?_
    refine wp_imulw dX0_drawLikes_20 ?_
    refine wp_sipush dX0_drawLikes_21 (by decide) (by decide) ?_
    refine wp_iaddw dX0_drawLikes_24 ?_
    refine wp_istore_n (loc' := [(2, 16), (0, s), (0, (wrap ((wrap ((drZ s p) * 1103515245)) + 12345))), (0, (p : Int)), u]) dX0_drawLikes_25 rfl (Nat.le_of_ble_eq_true rfl) rfl ?_
    refine wp_iconst dX0_drawLikes_26 (by decide) ?_
    refine wp_aload_n dX0_drawLikes_27 rfl rfl ?_
    refine wp_get 16 rfl fl_RX0_30 rfl ⟨by omega, by omega⟩ dX0_drawLikes_28 rfl (v := z) (hz) ?_
    refine wp_ishl dX0_drawLikes_31 ?_
    refine wp_iconst dX0_drawLikes_32 (by decide) ?_
    refine wp_isubw dX0_drawLikes_33 ?_
    refine wp_iconst dX0_drawLikes_34 (by decide) ?_
    refine wp_iload_n dX0_drawLikes_35 rfl rfl ?_
    refine wp_ishl dX0_drawLikes_36 ?_
    refine wp_iconst dX0_drawLikes_37 (by decide) ?_
    refine wp_ixor dX0_drawLikes_38 ?_
    refine wp_iand dX0_drawLikes_39 ?_
    refine wp_istore (loc' := [(2, 16), (0, s), (0, (wrap ((wrap ((drZ s p) * 1103515245)) + 12345))), (0, (p : Int)), (0, (bnd (wrap ((shl 1 z) - 1)) (bxr (shl 1 (p : Int)) (-1))))]) dX0_drawLikes_40 (Nat.le_of_ble_eq_true rfl) rfl ?_
    refine wp_aload_n dX0_drawLikes_42 rfl rfl ?_
    refine wp_get 16 rfl fl_RX0_18 rfl ⟨by omega, by omega⟩ dX0_drawLikes_43 rfl (v := 19) (sr_16_6 (M := M) hR) ?_
    refine wp_iload_n dX0_drawLikes_46 rfl rfl ?_
    refine wp_iload_n dX0_drawLikes_47 rfl rfl ?_
    refine wp_bipush dX0_drawLikes_48 (by decide) (by decide) ?_
    refine wp_iushr dX0_drawLikes_50 ?_
    refine wp_bipush dX0_drawLikes_51 (by decide) (by decide) ?_
    refine wp_irem dX0_drawLikes_53 (by omega) ?_
    refine wp_iload dX0_drawLikes_54 rfl ?_
    refine wp_iand dX0_drawLikes_56 ?_
    refine wp_iast 19 rfl rfl ⟨by omega, by omega⟩ ⟨by omega, by omega⟩ dX0_drawLikes_57 (jn := p) rfl ?_
    refine wp_iinc (loc' := [(2, 16), (0, s), (0, (wrap ((wrap ((drZ s p) * 1103515245)) + 12345))), (0, ((p : Int) + 1)), (0, (bnd (wrap ((shl 1 z) - 1)) (bxr (shl 1 (p : Int)) (-1))))]) dX0_drawLikes_58 rfl (by omega) rfl ?_
    refine wp_goto (tgt := 4) dX0_drawLikes_61 (by decide) ?_
    have f1 : Fr (fun i _ => i = 19) M (mu M 19 p (bnd (Int.tmod (ush (wrap ((wrap ((drZ s p) * 1103515245)) + 12345)) 9) 32) (bnd (wrap ((shl 1 z) - 1)) (bxr (shl 1 (p : Int)) (-1))))) := Fr.rf.put rfl
    refine ih (p + 1) _ _ Q (by omega) (SR.row (by decide) hR) hz (fun q hq => ?_) (fun M2 b1 b2 b3 => k M2 (f1.tr b1) b2 b3)
    by_cases c : q = p
    · subst c; exact mu_self _ _ _ _
    · rw [mu_nj _ _ _ c]; exact h0 q (by omega)
set_option maxRecDepth 20000 in
set_option maxHeartbeats 4000000 in
theorem sp_draw {l : Launch} {g : Gw} {d n : Nat} {M : Mm} {Q : Option Wd → Mm → Prop} (hn : 60 ≤ n) {A : Ls} {E : Ev} (hT : TJ M A E) (s : Int) (k : ∀ M', TJ M' (drwA A s) E → Fr VW M M' → Q none M') : Wp l g d 0 0 n m_X0_drawLikes 0 [] [(2, 16), (0, s), (9, 0), (9, 0), (9, 0)] M Q := by
  have hR := hT.1
  refine wp_iload_n dX0_drawLikes_0 rfl rfl ?_
  refine wp_istore_n (loc' := [(2, 16), (0, s), (0, s), (9, 0), (9, 0)]) dX0_drawLikes_1 rfl (Nat.le_of_ble_eq_true rfl) rfl ?_
  refine wp_iconst dX0_drawLikes_2 (by decide) ?_
  refine wp_istore_n (loc' := [(2, 16), (0, s), (0, s), (0, 0), (9, 0)]) dX0_drawLikes_3 rfl (Nat.le_of_ble_eq_true rfl) rfl ?_
  refine lp_draw hn (z := A.1 2) (N := (A.1 2).toNat) (by have := hT.2.2.2.1.2.1; omega) (by have := hT.2.2.2.1.1; omega) (A.1 2).toNat 0 M _ Q (by omega) hR hT.2.2.1.2.2.1 (fun q hq => by omega) (fun M1 f1 e1 hR1 => ?_)
  exact k M1 (hT.draw f1 hR1 e1) (f1.mono (fun i j h => Or.inr (Or.inr (by have : i = 19 := h; omega))))
set_option maxRecDepth 20000 in
set_option maxHeartbeats 4000000 in
theorem sp_findT {l : Launch} {g : Gw} {d n : Nat} {M : Mm} {Q : Option Wd → Mm → Prop} (hn : 60 ≤ n) (hd : 8 ≤ d) {A : Ls} {E : Ev} (hT : TJ M A E) (hq : SQ M) (k : ∀ M', FJ 16 M' A E → SQ1 M M' 1 → Fr VI M M' → Q none M') : Wp l g d 0 0 n m_X3_find 0 [] [(2, 52), (2, 16), (9, 0)] M Q := by
  obtain ⟨hR, hX, hA, hW, hr, rfl⟩ := hT
  exact sp_find_16 hn hd hR hX hA hW hr hq (fun M1 hJ q1 q2 f0 => k M1 hJ ⟨q1, q2⟩ f0)
set_option maxRecDepth 20000 in
set_option maxHeartbeats 4000000 in
theorem cs_drawn {l : Launch} {g : Gw} {d n : Nat} {M : Mm} {Q : Option Wd → Mm → Prop} (hn : 60 ≤ n) (hd : 12 ≤ d) {A : Ls} (hI : CJ M A) (hq : SQ M) (s : Int) (k : ∀ M', Fr VU M M' → SR M' → SQ1 M M' 1 → Q (some (0, ((flA (evC M) (drwA A s)).length : Int))) M') : Wp l g d 0 0 n m_X7_drawn 0 [] [(2, 1), (0, s)] M Q := by
  have hR := hI.1
  refine wp_aload_n dX7_drawn_0 rfl rfl ?_
  refine wp_get 1 rfl fl_RX7_19 rfl ⟨by omega, by omega⟩ dX7_drawn_1 rfl (v := 16) (sr_1_2 (M := M) hR) ?_
  refine wp_aload_n dX7_drawn_4 rfl rfl ?_
  refine wp_get 1 rfl fl_RX7_10 rfl ⟨by omega, by omega⟩ dX7_drawn_5 rfl (v := 2) (sr_1_0 (M := M) hR) ?_
  refine wp_callV0 (d' := d - 1) cv_RX7_203 16 rfl [(2, 2)] [] rfl rfl (Or.inl ⟨_, _, rfl, by decide, rfl, by omega, by omega⟩) (by omega) (Nat.le_of_ble_eq_true rfl) dX7_drawn_8 rfl (Nat.le_of_ble_eq_true rfl) (by omega) (loc1 := [(2, 16), (2, 2), (9, 0)]) rfl ?_
  refine sp_become_16_2 (by omega) hR ?_
  have hT := TJ.bec hI
  have hRb := hT.1
  have hFb := (becF_16_2 M).mono VW.b
  refine wp_aload_n dX7_drawn_11 rfl rfl ?_
  refine wp_get 1 rfl fl_RX7_19 rfl ⟨by omega, by omega⟩ dX7_drawn_12 rfl (v := 16) (sr_1_2 (M := (becM_16_2 M)) hRb) ?_
  refine wp_iload_n dX7_drawn_15 rfl rfl ?_
  refine wp_callV0 (d' := d - 1) cv_RX7_252 16 rfl [(0, s)] [] rfl rfl (Or.inl ⟨_, _, rfl, by decide, rfl, by omega, by omega⟩) (by omega) (Nat.le_of_ble_eq_true rfl) dX7_drawn_16 rfl (Nat.le_of_ble_eq_true rfl) (by omega) (loc1 := [(2, 16), (0, s), (9, 0), (9, 0), (9, 0)]) rfl ?_
  refine sp_draw (by omega) hT s (fun M1 hT1 f1 => ?_)
  have hR1 := hT1.1
  have hq1 := hq.fr (hFb.tr f1)
  refine wp_aload_n dX7_drawn_19 rfl rfl ?_
  refine wp_get 1 rfl fl_RX7_50 rfl ⟨by omega, by omega⟩ dX7_drawn_20 rfl (v := 52) (sr_1_7 (M := M1) hR1) ?_
  refine wp_aload_n dX7_drawn_23 rfl rfl ?_
  refine wp_get 1 rfl fl_RX7_19 rfl ⟨by omega, by omega⟩ dX7_drawn_24 rfl (v := 16) (sr_1_2 (M := M1) hR1) ?_
  refine wp_callV0 (d' := d - 1) cv_RX7_166 52 rfl [(2, 16)] [] rfl rfl (Or.inl ⟨_, _, rfl, by decide, rfl, by omega, by omega⟩) (by omega) (Nat.le_of_ble_eq_true rfl) dX7_drawn_27 rfl (Nat.le_of_ble_eq_true rfl) (by omega) (loc1 := [(2, 52), (2, 16), (9, 0)]) rfl ?_
  refine sp_findT (by omega) (by omega) hT1 hq1 (fun M2 hJ hQ2 f2 => ?_)
  have hR2 := hJ.sr
  have h3f : M2 52 3 = ((flA (evC M) (drwA A s)).length : Int) := hJ.2.1.1.1
  have e52 : M1 52 5 = M 52 5 := (hFb.tr f1) 52 5 (by unfold VW VX; omega)
  refine wp_aload_n dX7_drawn_30 rfl rfl ?_
  refine wp_get 1 rfl fl_RX7_50 rfl ⟨by omega, by omega⟩ dX7_drawn_31 rfl (v := 52) (sr_1_7 (M := M2) hR2) ?_
  refine wp_get 52 rfl fl_RX7_170 rfl ⟨by omega, by omega⟩ dX7_drawn_34 rfl (v := ((flA (evC M) (drwA A s)).length : Int)) (h3f) ?_
  refine wp_iret rfl dX7_drawn_37 ?_
  refine k M2 (((hFb.tr f1).mono (fun i j h => Or.inl h)).tr (f2.mono (fun i j h => Or.inr h))) hR2 ⟨by rw [hQ2.1, e52], hQ2.2⟩
