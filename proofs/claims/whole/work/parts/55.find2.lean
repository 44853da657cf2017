/-! ===== find itself ===== -/
set_option maxRecDepth 20000 in
set_option maxHeartbeats 4000000 in
theorem lp_now_2  {l : Launch} {g : Gw} {d n : Nat} (hn : 60 ≤ n) (hd : 6 ≤ d) {A : Ls} {N : Nat} {Q : Option Wd → Mm → Prop} (hN : A.1 3 = (N : Int)) (h5 : N ≤ 5) : ∀ (m p : Nat) (M : Mm), p + m = N → SR M → Rc M 2 A → M 52 11 = A.1 3 → (∀ q, q < p → M 56 q = A.2 5 q) → (∀ M', Fr (fun i _ => i = 56) M M' → (∀ q, q < N → M' 56 q = A.2 5 q) → SR M' → Wp l g d 0 0 n m_X3_find 72 [] [(2, 52), (2, 2), (0, (N : Int))] M' Q) → Wp l g d 0 0 n m_X3_find 47 [] [(2, 52), (2, 2), (0, (p : Int))] M Q := by
  intro m
  induction m with
  | zero =>
    intro p M hp hR hA hL h0 k
    obtain ⟨a0, a1, a2, a3, ar, al⟩ := id hA
    refine wp_iload_n dX3_find_47 rfl rfl ?_
    refine wp_aload_n dX3_find_48 rfl rfl ?_
    refine wp_get 52 rfl fl_RX3_57 rfl ⟨by omega, by omega⟩ dX3_find_49 rfl (v := (M 52 11)) (rfl) ?_
    refine wp_icmp_ge (tgt := 72) dX3_find_52 (by decide) (fun _ => ?_) (fun h => absurd h (by omega))
    have hpN : p = N := by omega
    subst hpN
    exact k M Fr.rf h0 hR
  | succ m ih =>
    intro p M hp hR hA hL h0 k
    obtain ⟨a0, a1, a2, a3, ar, al⟩ := id hA
    refine wp_iload_n dX3_find_47 rfl rfl ?_
    refine wp_aload_n dX3_find_48 rfl rfl ?_
    refine wp_get 52 rfl fl_RX3_57 rfl ⟨by omega, by omega⟩ dX3_find_49 rfl (v := (M 52 11)) (rfl) ?_
    refine wp_icmp_ge (tgt := 72) dX3_find_52 (by decide) (fun h => absurd h (by omega)) (fun _ => ?_)
    refine wp_aload_n dX3_find_55 rfl rfl ?_
    refine wp_get 52 rfl fl_RX3_21 rfl ⟨by omega, by omega⟩ dX3_find_56 rfl (v := 56) (sr_52_6 (M := M) hR) ?_
    refine wp_iload_n dX3_find_59 rfl rfl ?_
    refine wp_aload_n dX3_find_60 rfl rfl ?_
    refine wp_iload_n dX3_find_61 rfl rfl ?_
    refine wp_callV0 (d' := d - 1) cv_RX3_70 2 rfl [(0, (p : Int))] [(0, (p : Int)), (2, 56)] rfl rfl (Or.inl ⟨_, _, rfl, by decide, rfl, by omega, by omega⟩) (by omega) (Nat.le_of_ble_eq_true rfl) dX3_find_62 rfl (Nat.le_of_ble_eq_true rfl) (by omega) (loc1 := [(2, 2), (0, (p : Int))]) rfl ?_
    refine sp_at_2 hn hR (p : Int) (fun _ => ?_) (fun h => absurd (by omega) h)
    rw [show M 8 ((p : Int)).toNat = A.2 5 p from al p (by omega)]
    refine wp_iast 56 rfl rfl ⟨by omega, by omega⟩ ⟨by omega, by omega⟩ dX3_find_65 (jn := p) rfl ?_
    refine wp_iinc (loc' := [(2, 52), (2, 2), (0, ((p : Int) + 1))]) dX3_find_66 rfl (by omega) rfl ?_
    refine wp_goto (tgt := 47) dX3_find_69 (by decide) ?_
    have f1 : Fr (fun i _ => i = 56) M (mu M 56 p (A.2 5 p)) := Fr.rf.put rfl
    refine ih (p + 1) _ (by omega) (SR.row (by decide) hR) (hA.frV f1 (fun i j h => by have : i = 56 := h; omega)) hL (fun q hq => ?_) (fun M2 b1 b2 b3 => k M2 (f1.tr b1) b2 b3)
    by_cases c : q = p
    · subst c; exact mu_self _ _ _ _
    · rw [mu_nj _ _ _ c]; exact h0 q (by omega)
set_option maxRecDepth 20000 in
set_option maxHeartbeats 4000000 in
theorem sp_find_2 {l : Launch} {g : Gw} {d n : Nat} {M : Mm} {Q : Option Wd → Mm → Prop} (hn : 60 ≤ n) (hd : 8 ≤ d) (hR : SR M) (hX : txOK M) {A : Ls} (hA : Rc M 2 A) (hW : Wf A) (hr : 0 ≤ A.1 1 ∧ A.1 1 < M 25 1) (hq : SQ M) (k : ∀ M', FJ 2 M' A (evC M) → M' 52 5 = M 52 5 + 1 → (∀ c : Nat, c < 3125 → M' 55 c ≤ M' 52 5) → Fr VI M M' → Q none M') : Wp l g d 0 0 n m_X3_find 0 [] [(2, 52), (2, 2), (9, 0)] M Q := by
  obtain ⟨a0, a1, a2, a3, ar, al⟩ := id hA
  obtain ⟨w0, w1, w2, w3, w4, w5, w6⟩ := id hW
  have q0 := hq.1
  have q1 := hq.2.1
  refine wp_aload_n dX3_find_0 rfl rfl ?_
  refine wp_aload_n dX3_find_1 rfl rfl ?_
  refine wp_puta 52 rfl fl_RX3_38 rfl ⟨by omega, by omega⟩ dX3_find_2 rfl (Or.inl ⟨_, rfl⟩) rfl (by omega) ?_
  refine wp_aload_n dX3_find_5 rfl rfl ?_
  refine wp_iconst dX3_find_6 (by decide) ?_
  refine wp_aload_n dX3_find_7 rfl rfl ?_
  refine wp_get 2 rfl fl_RX3_42 rfl ⟨by omega, by omega⟩ dX3_find_8 rfl (v := (M 2 3)) (rfl) ?_
  refine wp_iconst dX3_find_11 (by decide) ?_
  refine wp_mmin mm_RX3_48 mms_min ini_RJ9 mmc_min (by decide) (by omega) rfl dX3_find_12 ?_
  refine wp_mmax mm_RX3_54 mms_max ini_RJ9 mmc_max (by decide) (by omega) rfl dX3_find_15 ?_
  refine wp_puti 52 rfl fl_RX3_57 rfl ⟨by omega, by omega⟩ dX3_find_18 rfl rfl ?_
  refine wp_aload_n dX3_find_21 rfl rfl ?_
  refine wp_iconst dX3_find_22 (by decide) ?_
  refine wp_puti 52 rfl fl_RX3_58 rfl ⟨by omega, by omega⟩ dX3_find_23 rfl rfl ?_
  refine wp_aload_n dX3_find_26 rfl rfl ?_
  refine wp_iconst dX3_find_27 (by decide) ?_
  refine wp_puti 52 rfl fl_RX3_61 rfl ⟨by omega, by omega⟩ dX3_find_28 rfl rfl ?_
  refine wp_aload_n dX3_find_31 rfl rfl ?_
  refine wp_dup dX3_find_32 (Or.inr rfl) ?_
  refine wp_get 52 rfl fl_RX3_64 rfl ⟨by omega, by omega⟩ dX3_find_33 rfl (v := (M 52 5)) (rfl) ?_
  refine wp_iconst dX3_find_36 (by decide) ?_
  refine wp_iadd dX3_find_37 (by omega) ?_
  refine wp_puti 52 rfl fl_RX3_64 rfl ⟨by omega, by omega⟩ dX3_find_38 rfl rfl ?_
  refine wp_aload_n dX3_find_41 rfl rfl ?_
  refine wp_callV0 (d' := d - 1) cv_RX3_67 52 rfl [] [] rfl rfl (Or.inl ⟨_, _, rfl, by decide, rfl, by omega, by omega⟩) (by omega) (Nat.le_of_ble_eq_true rfl) dX3_find_42 rfl (Nat.le_of_ble_eq_true rfl) (by omega) (loc1 := [(2, 52), (9, 0), (9, 0), (9, 0), (9, 0)]) rfl ?_
  rw [show (if 0 < (if 5 < (M 2 3) then 5 else (M 2 3)) then (if 5 < (M 2 3) then 5 else (M 2 3)) else 0) = A.1 3 by rw [a3]; (repeat' split) <;> omega]
  have f0 : Fr VY M (mu (mu (mu (mu (mu M 52 10 2) 52 11 (A.1 3)) 52 3 0) 52 12 0) 52 5 ((M 52 5) + 1)) := ((((Fr.rf.put (Or.inl ⟨rfl, by omega⟩)).put (Or.inl ⟨rfl, by omega⟩)).put (Or.inl ⟨rfl, by omega⟩)).put (Or.inl ⟨rfl, by omega⟩)).put (Or.inl ⟨rfl, by omega⟩)
  have hR0 := VY.sr f0 hR
  have fn := f0.mono (fun i j h => VI.n i j (Or.inr h))
  have hJ0 : LJ 2 (mu (mu (mu (mu (mu M 52 10 2) 52 11 (A.1 3)) 52 3 0) 52 12 0) 52 5 ((M 52 5) + 1)) A (evC M) := ⟨hR0, hX.frN fn, hA.frV f0 (fun i j h => by unfold VY at h; omega), hW, ⟨hr.1, hr.2⟩, evC_frN fn, rfl, rfl⟩
  refine sp_learn_2 hn (by omega) hJ0 (fun M1 j1 j2 j3 f1 => ?_)
  obtain ⟨hR1, hX1, hA1, -, hr1, hE1, hLd1, hL1⟩ := id j1
  refine wp_iconst dX3_find_45 (by decide) ?_
  refine wp_istore_n (loc' := [(2, 52), (2, 2), (0, 0)]) dX3_find_46 rfl (Nat.le_of_ble_eq_true rfl) rfl ?_
  refine lp_now_2 hn (by omega) (N := (A.1 3).toNat) (by omega) (by omega) (A.1 3).toNat 0 M1 (by omega) hR1 hA1 hL1 (fun q hq => by omega) (fun M2 f2 hnow hR2 => ?_)
  refine wp_aload_n dX3_find_72 rfl rfl ?_
  refine wp_iconst dX3_find_73 (by decide) ?_
  refine wp_callV0 (d' := d - 1) cv_RX3_74 52 rfl [(0, 0)] [] rfl rfl (Or.inl ⟨_, _, rfl, by decide, rfl, by omega, by omega⟩) (by omega) (Nat.le_of_ble_eq_true rfl) dX3_find_74 rfl (Nat.le_of_ble_eq_true rfl) (by omega) (loc1 := [(2, 52), (0, 0), (9, 0), (9, 0)]) rfl ?_
  obtain ⟨ok0, len5, mem0⟩ := lnA_ok hW
  have ll := lnA_len A
  have g1 : ∀ j, (j = 3 ∨ j = 5 ∨ j = 10 ∨ j = 11 ∨ j = 12) → M2 52 j = M1 52 j := fun j _ => f2 52 j (by show ¬ (52 = 56); decide)
  have g2 : ∀ j, M1 52 j = (mu (mu (mu (mu (mu M 52 10 2) 52 11 (A.1 3)) 52 3 0) 52 12 0) 52 5 ((M 52 5) + 1)) 52 j := fun j => f1 52 j (by unfold VZ VX; omega)
  have g3 : ∀ j, M2 55 j = M 55 j := fun j => (f2 55 j (by show ¬ (55 = 56); decide)).trans ((f1 55 j (by unfold VZ VX; omega)).trans rfl)
  have k3 : M2 52 3 = 0 := (g1 3 (by omega)).trans ((g2 3).trans rfl)
  have k5 : M2 52 5 = M 52 5 + 1 := (g1 5 (by omega)).trans ((g2 5).trans rfl)
  have k12 : M2 52 12 = 0 := (g1 12 (by omega)).trans ((g2 12).trans rfl)
  have k11 : M2 52 11 = ((lnA A).length : Int) := (g1 11 (by omega)).trans (hL1.trans (by omega))
  have k10 : M2 52 10 = 2 := (g1 10 (by omega)).trans hLd1
  have hF2 : Fnd M2 (lnA A).length [] := ⟨k3, fun i hi => absurd hi (Nat.not_lt_zero i)⟩
  have hI2 : FI M2 (lnA A).length [] := fun c hc => by
    rw [g3, k5]
    have := hq.2.2 c hc
    exact ⟨by omega, fun z => by omega, fun ⟨y, hy, _⟩ => absurd hy (List.not_mem_nil)⟩
  refine sp_keep hn hR2 hF2 hI2 (Nat.zero_le _) (fun z hz => absurd hz (List.not_mem_nil)) k11 len5 0 ok0 (fun q hq2 => (hnow q (by omega)).trans (lnA_at (by omega)).symm) (fun _ => by decide) (fun M3 e1 e2 e3 hR3 => ?_)
  have ek : keepA [] (lnA A) 0 = [(lnA A, 0)] := if_neg (List.not_mem_nil)
  rw [ek] at e1 e2
  have f3 : Fr VO M1 M3 := (f2.mono (fun i j h => Or.inr (by have : i = 56 := h; omega))).tr (e3.mono VK.o)
  have hQ1 : QJ 2 M1 A (evC M) (lnA A) := ⟨hR1, hA1, hW, hLd1, hL1.trans (by omega), len5, mem0, j2.tb⟩
  have hQ3 := hQ1.fr (by omega) f3
  have hS3 : SJ M3 (lnA A) ([(lnA A, 0)], 0) := ⟨e1, e2, (e3 52 12 (by unfold VK; omega)).trans k12, ⟨by simp, fun y hy => by simp at hy; subst hy; exact List.Perm.refl _⟩⟩
  have hAB0 : AB [(lnA A, (0 : Int))] := fun i hi => by
    have h0 : i = 0 := by simp at hi; omega
    subst h0
    exact ⟨Int.le_refl 0, Int.le_refl 0⟩
  refine wp_iconst dX3_find_77 (by decide) ?_
  refine wp_istore_n (loc' := [(2, 52), (2, 2), (0, 0)]) dX3_find_78 rfl (Nat.le_of_ble_eq_true rfl) rfl ?_
  refine lp_find_2 hn (by omega) ok0 121 0 ([(lnA A, 0)], 0) M3 Q rfl (Nat.zero_le _) hQ3 hS3 hAB0 (fun M4 b1 b2 => ?_)
  have hab4 := bf_inv (cn := cnA (evC M) A) (N := (lnA A).length) 121 0 ([(lnA A, 0)], 0) hAB0
  have f4 : Fr VO M1 M4 := f3.tr b2
  refine k M4 ⟨hQ3.fr (by omega) b2, b1, hab4, fun q h1 h2 => ?_⟩ ?_ (fun c hc => (b1.2.1 c hc).1) ?_
  · rw [f4 58 _ (by unfold VO; omega), f4 59 _ (by unfold VO; omega)]; exact j3 q h1 h2
  · rw [b2 52 5 (by unfold VO; omega), e3 52 5 (by unfold VK; omega)]; exact k5
  · exact (f0.mono (fun i j h => Or.inr h)).tr ((f1.mono VZ.i).tr (f4.mono (fun i j h => Or.inr (VO.y i j h))))
set_option maxRecDepth 20000 in
set_option maxHeartbeats 4000000 in
theorem lp_now_16  {l : Launch} {g : Gw} {d n : Nat} (hn : 60 ≤ n) (hd : 6 ≤ d) {A : Ls} {N : Nat} {Q : Option Wd → Mm → Prop} (hN : A.1 3 = (N : Int)) (h5 : N ≤ 5) : ∀ (m p : Nat) (M : Mm), p + m = N → SR M → Rc M 16 A → M 52 11 = A.1 3 → (∀ q, q < p → M 56 q = A.2 5 q) → (∀ M', Fr (fun i _ => i = 56) M M' → (∀ q, q < N → M' 56 q = A.2 5 q) → SR M' → Wp l g d 0 0 n m_X3_find 72 [] [(2, 52), (2, 16), (0, (N : Int))] M' Q) → Wp l g d 0 0 n m_X3_find 47 [] [(2, 52), (2, 16), (0, (p : Int))] M Q := by
  intro m
  induction m with
  | zero =>
    intro p M hp hR hA hL h0 k
    obtain ⟨a0, a1, a2, a3, ar, al⟩ := id hA
    refine wp_iload_n dX3_find_47 rfl rfl ?_
    refine wp_aload_n dX3_find_48 rfl rfl ?_
    refine wp_get 52 rfl fl_RX3_57 rfl ⟨by omega, by omega⟩ dX3_find_49 rfl (v := (M 52 11)) (rfl) ?_
    refine wp_icmp_ge (tgt := 72) dX3_find_52 (by decide) (fun _ => ?_) (fun h => absurd h (by omega))
    have hpN : p = N := by omega
    subst hpN
    exact k M Fr.rf h0 hR
  | succ m ih =>
    intro p M hp hR hA hL h0 k
    obtain ⟨a0, a1, a2, a3, ar, al⟩ := id hA
    refine wp_iload_n dX3_find_47 rfl rfl ?_
    refine wp_aload_n dX3_find_48 rfl rfl ?_
    refine wp_get 52 rfl fl_RX3_57 rfl ⟨by omega, by omega⟩ dX3_find_49 rfl (v := (M 52 11)) (rfl) ?_
    refine wp_icmp_ge (tgt := 72) dX3_find_52 (by decide) (fun h => absurd h (by omega)) (fun _ => ?_)
    refine wp_aload_n dX3_find_55 rfl rfl ?_
    refine wp_get 52 rfl fl_RX3_21 rfl ⟨by omega, by omega⟩ dX3_find_56 rfl (v := 56) (sr_52_6 (M := M) hR) ?_
    refine wp_iload_n dX3_find_59 rfl rfl ?_
    refine wp_aload_n dX3_find_60 rfl rfl ?_
    refine wp_iload_n dX3_find_61 rfl rfl ?_
    refine wp_callV0 (d' := d - 1) cv_RX3_70 16 rfl [(0, (p : Int))] [(0, (p : Int)), (2, 56)] rfl rfl (Or.inl ⟨_, _, rfl, by decide, rfl, by omega, by omega⟩) (by omega) (Nat.le_of_ble_eq_true rfl) dX3_find_62 rfl (Nat.le_of_ble_eq_true rfl) (by omega) (loc1 := [(2, 16), (0, (p : Int))]) rfl ?_
    refine sp_at_16 hn hR (p : Int) (fun _ => ?_) (fun h => absurd (by omega) h)
    rw [show M 22 ((p : Int)).toNat = A.2 5 p from al p (by omega)]
    refine wp_iast 56 rfl rfl ⟨by omega, by omega⟩ ⟨by omega, by omega⟩ dX3_find_65 (jn := p) rfl ?_
    refine wp_iinc (loc' := [(2, 52), (2, 16), (0, ((p : Int) + 1))]) dX3_find_66 rfl (by omega) rfl ?_
    refine wp_goto (tgt := 47) dX3_find_69 (by decide) ?_
    have f1 : Fr (fun i _ => i = 56) M (mu M 56 p (A.2 5 p)) := Fr.rf.put rfl
    refine ih (p + 1) _ (by omega) (SR.row (by decide) hR) (hA.frV f1 (fun i j h => by have : i = 56 := h; omega)) hL (fun q hq => ?_) (fun M2 b1 b2 b3 => k M2 (f1.tr b1) b2 b3)
    by_cases c : q = p
    · subst c; exact mu_self _ _ _ _
    · rw [mu_nj _ _ _ c]; exact h0 q (by omega)
set_option maxRecDepth 20000 in
set_option maxHeartbeats 4000000 in
theorem sp_find_16 {l : Launch} {g : Gw} {d n : Nat} {M : Mm} {Q : Option Wd → Mm → Prop} (hn : 60 ≤ n) (hd : 8 ≤ d) (hR : SR M) (hX : txOK M) {A : Ls} (hA : Rc M 16 A) (hW : Wf A) (hr : 0 ≤ A.1 1 ∧ A.1 1 < M 25 1) (hq : SQ M) (k : ∀ M', FJ 16 M' A (evC M) → M' 52 5 = M 52 5 + 1 → (∀ c : Nat, c < 3125 → M' 55 c ≤ M' 52 5) → Fr VI M M' → Q none M') : Wp l g d 0 0 n m_X3_find 0 [] [(2, 52), (2, 16), (9, 0)] M Q := by
  obtain ⟨a0, a1, a2, a3, ar, al⟩ := id hA
  obtain ⟨w0, w1, w2, w3, w4, w5, w6⟩ := id hW
  have q0 := hq.1
  have q1 := hq.2.1
  refine wp_aload_n dX3_find_0 rfl rfl ?_
  refine wp_aload_n dX3_find_1 rfl rfl ?_
  refine wp_puta 52 rfl fl_RX3_38 rfl ⟨by omega, by omega⟩ dX3_find_2 rfl (Or.inl ⟨_, rfl⟩) rfl (by omega) ?_
  refine wp_aload_n dX3_find_5 rfl rfl ?_
  refine wp_iconst dX3_find_6 (by decide) ?_
  refine wp_aload_n dX3_find_7 rfl rfl ?_
  refine wp_get 16 rfl fl_RX3_42 rfl ⟨by omega, by omega⟩ dX3_find_8 rfl (v := (M 16 3)) (rfl) ?_
  refine wp_iconst dX3_find_11 (by decide) ?_
  refine wp_mmin mm_RX3_48 mms_min ini_RJ9 mmc_min (by decide) (by omega) rfl dX3_find_12 ?_
  refine wp_mmax mm_RX3_54 mms_max ini_RJ9 mmc_max (by decide) (by omega) rfl dX3_find_15 ?_
  refine wp_puti 52 rfl fl_RX3_57 rfl ⟨by omega, by omega⟩ dX3_find_18 rfl rfl ?_
  refine wp_aload_n dX3_find_21 rfl rfl ?_
  refine wp_iconst dX3_find_22 (by decide) ?_
  refine wp_puti 52 rfl fl_RX3_58 rfl ⟨by omega, by omega⟩ dX3_find_23 rfl rfl ?_
  refine wp_aload_n dX3_find_26 rfl rfl ?_
  refine wp_iconst dX3_find_27 (by decide) ?_
  refine wp_puti 52 rfl fl_RX3_61 rfl ⟨by omega, by omega⟩ dX3_find_28 rfl rfl ?_
  refine wp_aload_n dX3_find_31 rfl rfl ?_
  refine wp_dup dX3_find_32 (Or.inr rfl) ?_
  refine wp_get 52 rfl fl_RX3_64 rfl ⟨by omega, by omega⟩ dX3_find_33 rfl (v := (M 52 5)) (rfl) ?_
  refine wp_iconst dX3_find_36 (by decide) ?_
  refine wp_iadd dX3_find_37 (by omega) ?_
  refine wp_puti 52 rfl fl_RX3_64 rfl ⟨by omega, by omega⟩ dX3_find_38 rfl rfl ?_
  refine wp_aload_n dX3_find_41 rfl rfl ?_
  refine wp_callV0 (d' := d - 1) cv_RX3_67 52 rfl [] [] rfl rfl (Or.inl ⟨_, _, rfl, by decide, rfl, by omega, by omega⟩) (by omega) (Nat.le_of_ble_eq_true rfl) dX3_find_42 rfl (Nat.le_of_ble_eq_true rfl) (by omega) (loc1 := [(2, 52), (9, 0), (9, 0), (9, 0), (9, 0)]) rfl ?_
  rw [show (if 0 < (if 5 < (M 16 3) then 5 else (M 16 3)) then (if 5 < (M 16 3) then 5 else (M 16 3)) else 0) = A.1 3 by rw [a3]; (repeat' split) <;> omega]
  have f0 : Fr VY M (mu (mu (mu (mu (mu M 52 10 16) 52 11 (A.1 3)) 52 3 0) 52 12 0) 52 5 ((M 52 5) + 1)) := ((((Fr.rf.put (Or.inl ⟨rfl, by omega⟩)).put (Or.inl ⟨rfl, by omega⟩)).put (Or.inl ⟨rfl, by omega⟩)).put (Or.inl ⟨rfl, by omega⟩)).put (Or.inl ⟨rfl, by omega⟩)
  have hR0 := VY.sr f0 hR
  have fn := f0.mono (fun i j h => VI.n i j (Or.inr h))
  have hJ0 : LJ 16 (mu (mu (mu (mu (mu M 52 10 16) 52 11 (A.1 3)) 52 3 0) 52 12 0) 52 5 ((M 52 5) + 1)) A (evC M) := ⟨hR0, hX.frN fn, hA.frV f0 (fun i j h => by unfold VY at h; omega), hW, ⟨hr.1, hr.2⟩, evC_frN fn, rfl, rfl⟩
  refine sp_learn_16 hn (by omega) hJ0 (fun M1 j1 j2 j3 f1 => ?_)
  obtain ⟨hR1, hX1, hA1, -, hr1, hE1, hLd1, hL1⟩ := id j1
  refine wp_iconst dX3_find_45 (by decide) ?_
  refine wp_istore_n (loc' := [(2, 52), (2, 16), (0, 0)]) dX3_find_46 rfl (Nat.le_of_ble_eq_true rfl) rfl ?_
  refine lp_now_16 hn (by omega) (N := (A.1 3).toNat) (by omega) (by omega) (A.1 3).toNat 0 M1 (by omega) hR1 hA1 hL1 (fun q hq => by omega) (fun M2 f2 hnow hR2 => ?_)
  refine wp_aload_n dX3_find_72 rfl rfl ?_
  refine wp_iconst dX3_find_73 (by decide) ?_
  refine wp_callV0 (d' := d - 1) cv_RX3_74 52 rfl [(0, 0)] [] rfl rfl (Or.inl ⟨_, _, rfl, by decide, rfl, by omega, by omega⟩) (by omega) (Nat.le_of_ble_eq_true rfl) dX3_find_74 rfl (Nat.le_of_ble_eq_true rfl) (by omega) (loc1 := [(2, 52), (0, 0), (9, 0), (9, 0)]) rfl ?_
  obtain ⟨ok0, len5, mem0⟩ := lnA_ok hW
  have ll := lnA_len A
  have g1 : ∀ j, (j = 3 ∨ j = 5 ∨ j = 10 ∨ j = 11 ∨ j = 12) → M2 52 j = M1 52 j := fun j _ => f2 52 j (by show ¬ (52 = 56); decide)
  have g2 : ∀ j, M1 52 j = (mu (mu (mu (mu (mu M 52 10 16) 52 11 (A.1 3)) 52 3 0) 52 12 0) 52 5 ((M 52 5) + 1)) 52 j := fun j => f1 52 j (by unfold VZ VX; omega)
  have g3 : ∀ j, M2 55 j = M 55 j := fun j => (f2 55 j (by show ¬ (55 = 56); decide)).trans ((f1 55 j (by unfold VZ VX; omega)).trans rfl)
  have k3 : M2 52 3 = 0 := (g1 3 (by omega)).trans ((g2 3).trans rfl)
  have k5 : M2 52 5 = M 52 5 + 1 := (g1 5 (by omega)).trans ((g2 5).trans rfl)
  have k12 : M2 52 12 = 0 := (g1 12 (by omega)).trans ((g2 12).trans rfl)
  have k11 : M2 52 11 = ((lnA A).length : Int) := (g1 11 (by omega)).trans (hL1.trans (by omega))
  have k10 : M2 52 10 = 16 := (g1 10 (by omega)).trans hLd1
  have hF2 : Fnd M2 (lnA A).length [] := ⟨k3, fun i hi => absurd hi (Nat.not_lt_zero i)⟩
  have hI2 : FI M2 (lnA A).length [] := fun c hc => by
    rw [g3, k5]
    have := hq.2.2 c hc
    exact ⟨by omega, fun z => by omega, fun ⟨y, hy, _⟩ => absurd hy (List.not_mem_nil)⟩
  refine sp_keep hn hR2 hF2 hI2 (Nat.zero_le _) (fun z hz => absurd hz (List.not_mem_nil)) k11 len5 0 ok0 (fun q hq2 => (hnow q (by omega)).trans (lnA_at (by omega)).symm) (fun _ => by decide) (fun M3 e1 e2 e3 hR3 => ?_)
  have ek : keepA [] (lnA A) 0 = [(lnA A, 0)] := if_neg (List.not_mem_nil)
  rw [ek] at e1 e2
  have f3 : Fr VO M1 M3 := (f2.mono (fun i j h => Or.inr (by have : i = 56 := h; omega))).tr (e3.mono VK.o)
  have hQ1 : QJ 16 M1 A (evC M) (lnA A) := ⟨hR1, hA1, hW, hLd1, hL1.trans (by omega), len5, mem0, j2.tb⟩
  have hQ3 := hQ1.fr (by omega) f3
  have hS3 : SJ M3 (lnA A) ([(lnA A, 0)], 0) := ⟨e1, e2, (e3 52 12 (by unfold VK; omega)).trans k12, ⟨by simp, fun y hy => by simp at hy; subst hy; exact List.Perm.refl _⟩⟩
  have hAB0 : AB [(lnA A, (0 : Int))] := fun i hi => by
    have h0 : i = 0 := by simp at hi; omega
    subst h0
    exact ⟨Int.le_refl 0, Int.le_refl 0⟩
  refine wp_iconst dX3_find_77 (by decide) ?_
  refine wp_istore_n (loc' := [(2, 52), (2, 16), (0, 0)]) dX3_find_78 rfl (Nat.le_of_ble_eq_true rfl) rfl ?_
  refine lp_find_16 hn (by omega) ok0 121 0 ([(lnA A, 0)], 0) M3 Q rfl (Nat.zero_le _) hQ3 hS3 hAB0 (fun M4 b1 b2 => ?_)
  have hab4 := bf_inv (cn := cnA (evC M) A) (N := (lnA A).length) 121 0 ([(lnA A, 0)], 0) hAB0
  have f4 : Fr VO M1 M4 := f3.tr b2
  refine k M4 ⟨hQ3.fr (by omega) b2, b1, hab4, fun q h1 h2 => ?_⟩ ?_ (fun c hc => (b1.2.1 c hc).1) ?_
  · rw [f4 58 _ (by unfold VO; omega), f4 59 _ (by unfold VO; omega)]; exact j3 q h1 h2
  · rw [b2 52 5 (by unfold VO; omega), e3 52 5 (by unfold VK; omega)]; exact k5
  · exact (f0.mono (fun i j h => Or.inr h)).tr ((f1.mono VZ.i).tr (f4.mono (fun i j h => Or.inr (VO.y i j h))))
