/-! ===== a minute ===== -/
theorem Rc.min {M : Mm} {L : Nat} {A : Ls} (h : Rc M L A) : Rc (mu M L 0 (wrap (M L 0 + 1))) L (minA A) := by
  obtain ⟨h0, h1, h2, h3, hr, hl⟩ := h
  refine ⟨by rw [mu_self, h0]; rfl, by rw [mu_nj _ _ _ (by omega)]; exact h1, by rw [mu_nj _ _ _ (by omega)]; exact h2, by rw [mu_nj _ _ _ (by omega)]; exact h3, fun r i a b => ?_, fun q hq => ?_⟩
  · rw [mu_ne _ _ _ (by omega)]; exact hr r i a b
  · rw [mu_ne _ _ _ (by omega)]; exact hl q hq
theorem Rc.serve {M : Mm} {L : Nat} {A : Ls} (h : Rc M L A) (p : Nat) (hp : (p : Int) < A.1 2) : Rc (mu M (L + 5) p (wrap (M (L + 5) p + 1))) L (serveA A p) := by
  obtain ⟨h0, h1, h2, h3, hr, hl⟩ := h
  refine ⟨by rw [mu_ne _ _ _ (by omega)]; exact h0, by rw [mu_ne _ _ _ (by omega)]; exact h1, by rw [mu_ne _ _ _ (by omega)]; exact h2, by rw [mu_ne _ _ _ (by omega)]; exact h3, fun r i a b => ?_, fun q hq => ?_⟩
  · show mu M (L + 5) p _ (L + 1 + r) i = mu A.2 4 p _ r i
    have e4 : M (L + 5) p = A.2 4 p := hr 4 p (by omega) hp
    rw [e4]
    by_cases e : r = 4
    · subst e
      rw [show L + 1 + 4 = L + 5 by omega]
      by_cases e2 : i = p
      · subst e2; rw [mu_self, mu_self]
      · rw [mu_nj _ _ _ e2, mu_nj _ _ _ e2]; exact hr 4 i a b
    · rw [mu_ne _ _ _ (by omega), mu_ne _ _ _ e]; exact hr r i a b
  · show mu M (L + 5) p (wrap (M (L + 5) p + 1)) (L + 6) q = mu A.2 4 p (wrap (A.2 4 p + 1)) 5 q
    rw [mu_ne _ _ _ (by omega), mu_ne _ _ _ (by omega)]; exact hl q hq
theorem Rc.drop {M M' : Mm} {L : Nat} {A : Ls} (h : Rc M L A) (f : Fr (VL L) M M') (e : M' L 3 = M L 3 - 1) (hq : ∀ q : Nat, (q : Int) + 1 < M L 3 → M' (L + 6) q = M (L + 6) (q + 1)) : Rc M' L (dropA A) := by
  obtain ⟨h0, h1, h2, h3, hr, hl⟩ := h
  have g : ∀ i j, ¬ (i = L + 6) → ¬ (i = L ∧ j = 3) → M' i j = M i j := fun i j a b => f i j (by unfold VL; omega)
  refine ⟨(g L 0 (by omega) (by omega)).trans h0, (g L 1 (by omega) (by omega)).trans h1, (g L 2 (by omega) (by omega)).trans h2, by rw [e, h3]; rfl, fun r i a b => ?_, fun q hq2 => ?_⟩
  · show M' (L + 1 + r) i = (if r = 5 then A.2 5 (i + 1) else A.2 r i)
    rw [if_neg (by omega), g _ _ (by omega) (by omega)]
    exact hr r i a b
  · have hq3 : (q : Int) < A.1 3 - 1 := hq2
    show M' (L + 6) q = (if 5 = 5 then A.2 5 (q + 1) else A.2 5 q)
    rw [if_pos rfl, hq q (by omega)]
    exact hl (q + 1) (by omega)
theorem tick_none {E : Ev} {A : Ls} (h : ¬ 0 < A.1 3) : tickA E A = (minA A, -1) := by unfold tickA; rw [if_neg h]
theorem tick_stay {E : Ev} {A : Ls} (h : 0 < A.1 3) (h2 : wrap (A.2 4 (A.2 5 0).toNat + 1) < lastsA E A (A.2 5 0)) : tickA E A = (minA (serveA A (A.2 5 0).toNat), -1) := by unfold tickA; rw [if_pos h, if_neg (by omega)]
theorem tick_go {E : Ev} {A : Ls} (h : 0 < A.1 3) (h2 : ¬ wrap (A.2 4 (A.2 5 0).toNat + 1) < lastsA E A (A.2 5 0)) : tickA E A = (minA (dropA (serveA A (A.2 5 0).toNat)), A.2 5 0) := by unfold tickA; rw [if_pos h, if_pos (by omega)]
set_option maxRecDepth 20000 in
set_option maxHeartbeats 4000000 in
theorem sp_goOn_2 {l : Launch} {g : Gw} {d n : Nat} {M : Mm} {Q : Option Wd → Mm → Prop} (hn : 60 ≤ n) (hd : 5 ≤ d) (hR : SR M) (hX : txOK M) {A : Ls} (hA : Rc M 2 A) (hW : Wf A) (hr : 0 ≤ A.1 1 ∧ A.1 1 < M 25 1) (k : ∀ M', Rc M' 2 (tickA (evC M) A).1 → Fr (VG 2) M M' → SR M' → Q (some (0, (tickA (evC M) A).2)) M') : Wp l g d 0 0 n m_X1_goOn 0 [] [(2, 51), (2, 2), (9, 0), (9, 0), (9, 0)] M Q := by
  obtain ⟨a0, a1, a2, a3, ar, al⟩ := id hA
  obtain ⟨w0, w1, w2, w3, w4, w5, w6⟩ := id hW
  have hX1 := hX.1
  have hX2 := hX.2.1
  refine wp_aload_n dX1_goOn_0 rfl rfl ?_
  refine wp_iconst dX1_goOn_1 (by decide) ?_
  refine wp_callV0 (d' := d - 1) cv_RX1_68 2 rfl [(0, 0)] [] rfl rfl (Or.inl ⟨_, _, rfl, by decide, rfl, by omega, by omega⟩) (by omega) (Nat.le_of_ble_eq_true rfl) dX1_goOn_2 rfl (Nat.le_of_ble_eq_true rfl) (by omega) (loc1 := [(2, 2), (0, 0)]) rfl ?_
  refine sp_at_2 hn hR 0 (fun hl => ?_) (fun hl => ?_)
  · have e0 : M 8 (0 : Int).toNat = A.2 5 0 := al 0 (by omega)
    rw [e0]
    have hv := w4 0 (by omega)
    refine wp_istore_n (loc' := [(2, 51), (2, 2), (0, (A.2 5 0)), (9, 0), (9, 0)]) dX1_goOn_5 rfl (Nat.le_of_ble_eq_true rfl) rfl ?_
    refine wp_iconst dX1_goOn_6 (by decide) ?_
    refine wp_istore_n (loc' := [(2, 51), (2, 2), (0, (A.2 5 0)), (0, (-1)), (9, 0)]) dX1_goOn_7 rfl (Nat.le_of_ble_eq_true rfl) rfl ?_
    refine wp_aload_n dX1_goOn_8 rfl rfl ?_
    refine wp_iload_n dX1_goOn_9 rfl rfl ?_
    refine wp_callV0 (d' := d - 1) cv_RX1_19 2 rfl [(0, (A.2 5 0))] [] rfl rfl (Or.inl ⟨_, _, rfl, by decide, rfl, by omega, by omega⟩) (by omega) (Nat.le_of_ble_eq_true rfl) dX1_goOn_10 rfl (Nat.le_of_ble_eq_true rfl) (by omega) (loc1 := [(2, 2), (0, (A.2 5 0))]) rfl ?_
    refine sp_has_2 hn (A.2 5 0) (fun _ => ?_) (fun h => absurd (by omega) h)
    refine wp_if_eq (tgt := 51) dX1_goOn_13 (by decide) (fun h => absurd h (by decide)) (fun _ => ?_)
    refine wp_aload_n dX1_goOn_16 rfl rfl ?_
    refine wp_aload_n dX1_goOn_17 rfl rfl ?_
    refine wp_iload_n dX1_goOn_18 rfl rfl ?_
    refine wp_callV0 (d' := d - 1) cv_RX1_88 51 rfl [(2, 2), (0, (A.2 5 0))] [] rfl rfl (Or.inl ⟨_, _, rfl, by decide, rfl, by omega, by omega⟩) (by omega) (Nat.le_of_ble_eq_true rfl) dX1_goOn_19 rfl (Nat.le_of_ble_eq_true rfl) (by omega) (loc1 := [(2, 51), (2, 2), (0, (A.2 5 0)), (9, 0)]) rfl ?_
    refine sp_lasts_2 hn (by omega) hR hX hA hW hr (A.2 5 0) (by omega) (fun M1 hF1 hR1 => ?_)
    have f12 : M1 2 2 = M 2 2 := hF1 2 2 (by unfold VX; omega)
    have f13 : M1 2 3 = M 2 3 := hF1 2 3 (by unfold VX; omega)
    have hA1 := hA.fr (by omega) hF1
    have hB := hA1.serve (A.2 5 0).toNat (by omega)
    have e4 : M1 7 (A.2 5 0).toNat = A.2 4 (A.2 5 0).toNat := (hF1 7 _ (by unfold VX; omega)).trans (ar 4 _ (by omega) (by omega))
    have fs : Fr (VG 2) M (mu M1 7 (A.2 5 0).toNat (wrap (M1 7 (A.2 5 0).toNat + 1))) := (hF1.mono (fun i j h => Or.inl h)).put (Or.inr (Or.inr (Or.inl rfl)))
    refine wp_istore (loc' := [(2, 51), (2, 2), (0, (A.2 5 0)), (0, (-1)), (0, (lastsA (evC M) A (A.2 5 0)))]) dX1_goOn_22 (Nat.le_of_ble_eq_true rfl) rfl ?_
    refine wp_aload_n dX1_goOn_24 rfl rfl ?_
    refine wp_get 2 rfl fl_RX1_92 rfl ⟨by omega, by omega⟩ dX1_goOn_25 rfl (v := 7) (sr_2_8 (M := M1) hR1) ?_
    refine wp_iload_n dX1_goOn_28 rfl rfl ?_
    refine wp_dup2 dX1_goOn_29 (Or.inl rfl) (Or.inr rfl) ?_
    refine wp_iald 7 rfl rfl ⟨by omega, by omega⟩ ⟨by omega, by omega⟩ dX1_goOn_30 (v := (M1 7 ((A.2 5 0)).toNat)) (rfl) ?_
    refine wp_iconst dX1_goOn_31 (by decide) ?_
    refine wp_iaddw dX1_goOn_32 ?_
    refine wp_iast 7 rfl rfl ⟨by omega, by omega⟩ ⟨by omega, by omega⟩ dX1_goOn_33 (jn := ((A.2 5 0)).toNat) rfl ?_
    refine wp_aload_n dX1_goOn_34 rfl rfl ?_
    refine wp_get 2 rfl fl_RX1_92 rfl ⟨by omega, by omega⟩ dX1_goOn_35 rfl (v := 7) (sr_2_8 (M := M1) hR1) ?_
    refine wp_iload_n dX1_goOn_38 rfl rfl ?_
    refine wp_iald 7 rfl rfl ⟨by omega, by omega⟩ ⟨by omega, by omega⟩ dX1_goOn_39 (v := (wrap ((M1 7 ((A.2 5 0)).toNat) + 1))) (by simp [mu]) ?_
    refine wp_iload dX1_goOn_40 rfl ?_
    refine wp_icmp_lt (tgt := 51) dX1_goOn_42 (by decide) (fun h42 => ?_) (fun h42 => ?_)
    · refine wp_aload_n dX1_goOn_51 rfl rfl ?_
      refine wp_dup dX1_goOn_52 (Or.inr rfl) ?_
      refine wp_get 2 rfl fl_RX1_98 rfl ⟨by omega, by omega⟩ dX1_goOn_53 rfl (v := (M1 2 0)) (rfl) ?_
      refine wp_iconst dX1_goOn_56 (by decide) ?_
      refine wp_iaddw dX1_goOn_57 ?_
      refine wp_puti 2 rfl fl_RX1_98 rfl ⟨by omega, by omega⟩ dX1_goOn_58 rfl rfl ?_
      refine wp_iload_n dX1_goOn_61 rfl rfl ?_
      refine wp_iret rfl dX1_goOn_62 ?_
      rw [e4] at h42
      rw [show (-1 : Int) = (tickA (evC M) A).2 by rw [tick_stay (by omega) h42]]
      refine k _ ?_ ?_ ?_
      · rw [tick_stay (by omega) h42]
        exact hB.min
      · exact fs.put (Or.inr (Or.inl ⟨rfl, Or.inl rfl⟩))
      · exact SR.upd (by decide) (SR.row (by decide) hR1)
    · refine wp_aload_n dX1_goOn_45 rfl rfl ?_
      refine wp_callV0 (d' := d - 1) cv_RX1_95 2 rfl [] [] rfl rfl (Or.inl ⟨_, _, rfl, by decide, rfl, by omega, by omega⟩) (by omega) (Nat.le_of_ble_eq_true rfl) dX1_goOn_46 rfl (Nat.le_of_ble_eq_true rfl) (by omega) (loc1 := [(2, 2), (9, 0)]) rfl ?_
      have hRs := SR.row (M := M1) (i := 7) (j := (A.2 5 0).toNat) (v := wrap (M1 7 (A.2 5 0).toNat + 1)) (by decide) hR1
      refine sp_dropFirst_2 hn hRs (by show 1 ≤ M1 2 3; omega) (by show M1 2 3 ≤ 5; omega) (fun M2 hF2 hL2 hQ2 => ?_)
      have hR2 : SR M2 := hRs.frL hF2 (by unfold VL; decide)
      refine wp_iload_n dX1_goOn_49 rfl rfl ?_
      refine wp_istore_n (loc' := [(2, 51), (2, 2), (0, (A.2 5 0)), (0, (A.2 5 0)), (0, (lastsA (evC M) A (A.2 5 0)))]) dX1_goOn_50 rfl (Nat.le_of_ble_eq_true rfl) rfl ?_
      refine wp_aload_n dX1_goOn_51 rfl rfl ?_
      refine wp_dup dX1_goOn_52 (Or.inr rfl) ?_
      refine wp_get 2 rfl fl_RX1_98 rfl ⟨by omega, by omega⟩ dX1_goOn_53 rfl (v := (M2 2 0)) (rfl) ?_
      refine wp_iconst dX1_goOn_56 (by decide) ?_
      refine wp_iaddw dX1_goOn_57 ?_
      refine wp_puti 2 rfl fl_RX1_98 rfl ⟨by omega, by omega⟩ dX1_goOn_58 rfl rfl ?_
      refine wp_iload_n dX1_goOn_61 rfl rfl ?_
      refine wp_iret rfl dX1_goOn_62 ?_
      rw [e4] at h42
      rw [show A.2 5 0 = (tickA (evC M) A).2 by rw [tick_go (by omega) h42]]
      refine k _ ?_ ?_ ?_
      · rw [tick_go (by omega) h42]
        exact (hB.drop hF2 hL2 hQ2).min
      · exact (fs.tr (hF2.mono (fun i j h => by unfold VL at h; unfold VG; omega))).put (Or.inr (Or.inl ⟨rfl, Or.inl rfl⟩))
      · exact SR.upd (by decide) hR2
  · refine wp_istore_n (loc' := [(2, 51), (2, 2), (0, (-1)), (9, 0), (9, 0)]) dX1_goOn_5 rfl (Nat.le_of_ble_eq_true rfl) rfl ?_
    refine wp_iconst dX1_goOn_6 (by decide) ?_
    refine wp_istore_n (loc' := [(2, 51), (2, 2), (0, (-1)), (0, (-1)), (9, 0)]) dX1_goOn_7 rfl (Nat.le_of_ble_eq_true rfl) rfl ?_
    refine wp_aload_n dX1_goOn_8 rfl rfl ?_
    refine wp_iload_n dX1_goOn_9 rfl rfl ?_
    refine wp_callV0 (d' := d - 1) cv_RX1_19 2 rfl [(0, (-1))] [] rfl rfl (Or.inl ⟨_, _, rfl, by decide, rfl, by omega, by omega⟩) (by omega) (Nat.le_of_ble_eq_true rfl) dX1_goOn_10 rfl (Nat.le_of_ble_eq_true rfl) (by omega) (loc1 := [(2, 2), (0, (-1))]) rfl ?_
    refine sp_has_2 hn (-1) (fun h => by omega) (fun _ => ?_)
    refine wp_if_eq (tgt := 51) dX1_goOn_13 (by decide) (fun _ => ?_) (fun h => absurd h (by decide))
    refine wp_aload_n dX1_goOn_51 rfl rfl ?_
    refine wp_dup dX1_goOn_52 (Or.inr rfl) ?_
    refine wp_get 2 rfl fl_RX1_98 rfl ⟨by omega, by omega⟩ dX1_goOn_53 rfl (v := (M 2 0)) (rfl) ?_
    refine wp_iconst dX1_goOn_56 (by decide) ?_
    refine wp_iaddw dX1_goOn_57 ?_
    refine wp_puti 2 rfl fl_RX1_98 rfl ⟨by omega, by omega⟩ dX1_goOn_58 rfl rfl ?_
    refine wp_iload_n dX1_goOn_61 rfl rfl ?_
    refine wp_iret rfl dX1_goOn_62 ?_
    rw [show (-1 : Int) = (tickA (evC M) A).2 by rw [tick_none (by omega)]]
    refine k _ ?_ ?_ ?_
    · rw [tick_none (by omega)]
      exact hA.min
    · exact Fr.rf.put (Or.inr (Or.inl ⟨rfl, Or.inl rfl⟩))
    · exact SR.upd (by decide) hR
set_option maxRecDepth 20000 in
set_option maxHeartbeats 4000000 in
theorem sp_goOn_16 {l : Launch} {g : Gw} {d n : Nat} {M : Mm} {Q : Option Wd → Mm → Prop} (hn : 60 ≤ n) (hd : 5 ≤ d) (hR : SR M) (hX : txOK M) {A : Ls} (hA : Rc M 16 A) (hW : Wf A) (hr : 0 ≤ A.1 1 ∧ A.1 1 < M 25 1) (k : ∀ M', Rc M' 16 (tickA (evC M) A).1 → Fr (VG 16) M M' → SR M' → Q (some (0, (tickA (evC M) A).2)) M') : Wp l g d 0 0 n m_X1_goOn 0 [] [(2, 51), (2, 16), (9, 0), (9, 0), (9, 0)] M Q := by
  obtain ⟨a0, a1, a2, a3, ar, al⟩ := id hA
  obtain ⟨w0, w1, w2, w3, w4, w5, w6⟩ := id hW
  have hX1 := hX.1
  have hX2 := hX.2.1
  refine wp_aload_n dX1_goOn_0 rfl rfl ?_
  refine wp_iconst dX1_goOn_1 (by decide) ?_
  refine wp_callV0 (d' := d - 1) cv_RX1_68 16 rfl [(0, 0)] [] rfl rfl (Or.inl ⟨_, _, rfl, by decide, rfl, by omega, by omega⟩) (by omega) (Nat.le_of_ble_eq_true rfl) dX1_goOn_2 rfl (Nat.le_of_ble_eq_true rfl) (by omega) (loc1 := [(2, 16), (0, 0)]) rfl ?_
  refine sp_at_16 hn hR 0 (fun hl => ?_) (fun hl => ?_)
  · have e0 : M 22 (0 : Int).toNat = A.2 5 0 := al 0 (by omega)
    rw [e0]
    have hv := w4 0 (by omega)
    refine wp_istore_n (loc' := [(2, 51), (2, 16), (0, (A.2 5 0)), (9, 0), (9, 0)]) dX1_goOn_5 rfl (Nat.le_of_ble_eq_true rfl) rfl ?_
    refine wp_iconst dX1_goOn_6 (by decide) ?_
    refine wp_istore_n (loc' := [(2, 51), (2, 16), (0, (A.2 5 0)), (0, (-1)), (9, 0)]) dX1_goOn_7 rfl (Nat.le_of_ble_eq_true rfl) rfl ?_
    refine wp_aload_n dX1_goOn_8 rfl rfl ?_
    refine wp_iload_n dX1_goOn_9 rfl rfl ?_
    refine wp_callV0 (d' := d - 1) cv_RX1_19 16 rfl [(0, (A.2 5 0))] [] rfl rfl (Or.inl ⟨_, _, rfl, by decide, rfl, by omega, by omega⟩) (by omega) (Nat.le_of_ble_eq_true rfl) dX1_goOn_10 rfl (Nat.le_of_ble_eq_true rfl) (by omega) (loc1 := [(2, 16), (0, (A.2 5 0))]) rfl ?_
    refine sp_has_16 hn (A.2 5 0) (fun _ => ?_) (fun h => absurd (by omega) h)
    refine wp_if_eq (tgt := 51) dX1_goOn_13 (by decide) (fun h => absurd h (by decide)) (fun _ => ?_)
    refine wp_aload_n dX1_goOn_16 rfl rfl ?_
    refine wp_aload_n dX1_goOn_17 rfl rfl ?_
    refine wp_iload_n dX1_goOn_18 rfl rfl ?_
    refine wp_callV0 (d' := d - 1) cv_RX1_88 51 rfl [(2, 16), (0, (A.2 5 0))] [] rfl rfl (Or.inl ⟨_, _, rfl, by decide, rfl, by omega, by omega⟩) (by omega) (Nat.le_of_ble_eq_true rfl) dX1_goOn_19 rfl (Nat.le_of_ble_eq_true rfl) (by omega) (loc1 := [(2, 51), (2, 16), (0, (A.2 5 0)), (9, 0)]) rfl ?_
    refine sp_lasts_16 hn (by omega) hR hX hA hW hr (A.2 5 0) (by omega) (fun M1 hF1 hR1 => ?_)
    have f12 : M1 16 2 = M 16 2 := hF1 16 2 (by unfold VX; omega)
    have f13 : M1 16 3 = M 16 3 := hF1 16 3 (by unfold VX; omega)
    have hA1 := hA.fr (by omega) hF1
    have hB := hA1.serve (A.2 5 0).toNat (by omega)
    have e4 : M1 21 (A.2 5 0).toNat = A.2 4 (A.2 5 0).toNat := (hF1 21 _ (by unfold VX; omega)).trans (ar 4 _ (by omega) (by omega))
    have fs : Fr (VG 16) M (mu M1 21 (A.2 5 0).toNat (wrap (M1 21 (A.2 5 0).toNat + 1))) := (hF1.mono (fun i j h => Or.inl h)).put (Or.inr (Or.inr (Or.inl rfl)))
    refine wp_istore (loc' := [(2, 51), (2, 16), (0, (A.2 5 0)), (0, (-1)), (0, (lastsA (evC M) A (A.2 5 0)))]) dX1_goOn_22 (Nat.le_of_ble_eq_true rfl) rfl ?_
    refine wp_aload_n dX1_goOn_24 rfl rfl ?_
    refine wp_get 16 rfl fl_RX1_92 rfl ⟨by omega, by omega⟩ dX1_goOn_25 rfl (v := 21) (sr_16_8 (M := M1) hR1) ?_
    refine wp_iload_n dX1_goOn_28 rfl rfl ?_
    refine wp_dup2 dX1_goOn_29 (Or.inl rfl) (Or.inr rfl) ?_
    refine wp_iald 21 rfl rfl ⟨by omega, by omega⟩ ⟨by omega, by omega⟩ dX1_goOn_30 (v := (M1 21 ((A.2 5 0)).toNat)) (rfl) ?_
    refine wp_iconst dX1_goOn_31 (by decide) ?_
    refine wp_iaddw dX1_goOn_32 ?_
    refine wp_iast 21 rfl rfl ⟨by omega, by omega⟩ ⟨by omega, by omega⟩ dX1_goOn_33 (jn := ((A.2 5 0)).toNat) rfl ?_
    refine wp_aload_n dX1_goOn_34 rfl rfl ?_
    refine wp_get 16 rfl fl_RX1_92 rfl ⟨by omega, by omega⟩ dX1_goOn_35 rfl (v := 21) (sr_16_8 (M := M1) hR1) ?_
    refine wp_iload_n dX1_goOn_38 rfl rfl ?_
    refine wp_iald 21 rfl rfl ⟨by omega, by omega⟩ ⟨by omega, by omega⟩ dX1_goOn_39 (v := (wrap ((M1 21 ((A.2 5 0)).toNat) + 1))) (by simp [mu]) ?_
    refine wp_iload dX1_goOn_40 rfl ?_
    refine wp_icmp_lt (tgt := 51) dX1_goOn_42 (by decide) (fun h42 => ?_) (fun h42 => ?_)
    · refine wp_aload_n dX1_goOn_51 rfl rfl ?_
      refine wp_dup dX1_goOn_52 (Or.inr rfl) ?_
      refine wp_get 16 rfl fl_RX1_98 rfl ⟨by omega, by omega⟩ dX1_goOn_53 rfl (v := (M1 16 0)) (rfl) ?_
      refine wp_iconst dX1_goOn_56 (by decide) ?_
      refine wp_iaddw dX1_goOn_57 ?_
      refine wp_puti 16 rfl fl_RX1_98 rfl ⟨by omega, by omega⟩ dX1_goOn_58 rfl rfl ?_
      refine wp_iload_n dX1_goOn_61 rfl rfl ?_
      refine wp_iret rfl dX1_goOn_62 ?_
      rw [e4] at h42
      rw [show (-1 : Int) = (tickA (evC M) A).2 by rw [tick_stay (by omega) h42]]
      refine k _ ?_ ?_ ?_
      · rw [tick_stay (by omega) h42]
        exact hB.min
      · exact fs.put (Or.inr (Or.inl ⟨rfl, Or.inl rfl⟩))
      · exact SR.upd (by decide) (SR.row (by decide) hR1)
    · refine wp_aload_n dX1_goOn_45 rfl rfl ?_
      refine wp_callV0 (d' := d - 1) cv_RX1_95 16 rfl [] [] rfl rfl (Or.inl ⟨_, _, rfl, by decide, rfl, by omega, by omega⟩) (by omega) (Nat.le_of_ble_eq_true rfl) dX1_goOn_46 rfl (Nat.le_of_ble_eq_true rfl) (by omega) (loc1 := [(2, 16), (9, 0)]) rfl ?_
      have hRs := SR.row (M := M1) (i := 21) (j := (A.2 5 0).toNat) (v := wrap (M1 21 (A.2 5 0).toNat + 1)) (by decide) hR1
      refine sp_dropFirst_16 hn hRs (by show 1 ≤ M1 16 3; omega) (by show M1 16 3 ≤ 5; omega) (fun M2 hF2 hL2 hQ2 => ?_)
      have hR2 : SR M2 := hRs.frL hF2 (by unfold VL; decide)
      refine wp_iload_n dX1_goOn_49 rfl rfl ?_
      refine wp_istore_n (loc' := [(2, 51), (2, 16), (0, (A.2 5 0)), (0, (A.2 5 0)), (0, (lastsA (evC M) A (A.2 5 0)))]) dX1_goOn_50 rfl (Nat.le_of_ble_eq_true rfl) rfl ?_
      refine wp_aload_n dX1_goOn_51 rfl rfl ?_
      refine wp_dup dX1_goOn_52 (Or.inr rfl) ?_
      refine wp_get 16 rfl fl_RX1_98 rfl ⟨by omega, by omega⟩ dX1_goOn_53 rfl (v := (M2 16 0)) (rfl) ?_
      refine wp_iconst dX1_goOn_56 (by decide) ?_
      refine wp_iaddw dX1_goOn_57 ?_
      refine wp_puti 16 rfl fl_RX1_98 rfl ⟨by omega, by omega⟩ dX1_goOn_58 rfl rfl ?_
      refine wp_iload_n dX1_goOn_61 rfl rfl ?_
      refine wp_iret rfl dX1_goOn_62 ?_
      rw [e4] at h42
      rw [show A.2 5 0 = (tickA (evC M) A).2 by rw [tick_go (by omega) h42]]
      refine k _ ?_ ?_ ?_
      · rw [tick_go (by omega) h42]
        exact (hB.drop hF2 hL2 hQ2).min
      · exact (fs.tr (hF2.mono (fun i j h => by unfold VL at h; unfold VG; omega))).put (Or.inr (Or.inl ⟨rfl, Or.inl rfl⟩))
      · exact SR.upd (by decide) hR2
  · refine wp_istore_n (loc' := [(2, 51), (2, 16), (0, (-1)), (9, 0), (9, 0)]) dX1_goOn_5 rfl (Nat.le_of_ble_eq_true rfl) rfl ?_
    refine wp_iconst dX1_goOn_6 (by decide) ?_
    refine wp_istore_n (loc' := [(2, 51), (2, 16), (0, (-1)), (0, (-1)), (9, 0)]) dX1_goOn_7 rfl (Nat.le_of_ble_eq_true rfl) rfl ?_
    refine wp_aload_n dX1_goOn_8 rfl rfl ?_
    refine wp_iload_n dX1_goOn_9 rfl rfl ?_
    refine wp_callV0 (d' := d - 1) cv_RX1_19 16 rfl [(0, (-1))] [] rfl rfl (Or.inl ⟨_, _, rfl, by decide, rfl, by omega, by omega⟩) (by omega) (Nat.le_of_ble_eq_true rfl) dX1_goOn_10 rfl (Nat.le_of_ble_eq_true rfl) (by omega) (loc1 := [(2, 16), (0, (-1))]) rfl ?_
    refine sp_has_16 hn (-1) (fun h => by omega) (fun _ => ?_)
    refine wp_if_eq (tgt := 51) dX1_goOn_13 (by decide) (fun _ => ?_) (fun h => absurd h (by decide))
    refine wp_aload_n dX1_goOn_51 rfl rfl ?_
    refine wp_dup dX1_goOn_52 (Or.inr rfl) ?_
    refine wp_get 16 rfl fl_RX1_98 rfl ⟨by omega, by omega⟩ dX1_goOn_53 rfl (v := (M 16 0)) (rfl) ?_
    refine wp_iconst dX1_goOn_56 (by decide) ?_
    refine wp_iaddw dX1_goOn_57 ?_
    refine wp_puti 16 rfl fl_RX1_98 rfl ⟨by omega, by omega⟩ dX1_goOn_58 rfl rfl ?_
    refine wp_iload_n dX1_goOn_61 rfl rfl ?_
    refine wp_iret rfl dX1_goOn_62 ?_
    rw [show (-1 : Int) = (tickA (evC M) A).2 by rw [tick_none (by omega)]]
    refine k _ ?_ ?_ ?_
    · rw [tick_none (by omega)]
      exact hA.min
    · exact Fr.rf.put (Or.inr (Or.inl ⟨rfl, Or.inl rfl⟩))
    · exact SR.upd (by decide) hR
