/-! ===== passings ===== -/
theorem Rc.swap {M : Mm} {L : Nat} {A : Ls} (h : Rc M L A) {p : Nat} (h1 : 1 ≤ p) (hp : (p : Int) < A.1 3) : Rc (mu (mu M (L + 6) p (M (L + 6) (p - 1))) (L + 6) (p - 1) (M (L + 6) p)) L (swapA A p) := by
  obtain ⟨g0, g1, g2, g3, hr, hl⟩ := h
  refine ⟨by rw [mu_ne _ _ _ (by omega), mu_ne _ _ _ (by omega)]; exact g0, by rw [mu_ne _ _ _ (by omega), mu_ne _ _ _ (by omega)]; exact g1, by rw [mu_ne _ _ _ (by omega), mu_ne _ _ _ (by omega)]; exact g2, by rw [mu_ne _ _ _ (by omega), mu_ne _ _ _ (by omega)]; exact g3, fun r i a b => ?_, fun q hq => ?_⟩
  · rw [mu_ne _ _ _ (by omega), mu_ne _ _ _ (by omega)]
    show M (L + 1 + r) i = mu (mu A.2 5 p (A.2 5 (p - 1))) 5 (p - 1) (A.2 5 p) r i
    rw [mu_ne _ _ _ (by omega), mu_ne _ _ _ (by omega)]
    exact hr r i a b
  · show _ = mu (mu A.2 5 p (A.2 5 (p - 1))) 5 (p - 1) (A.2 5 p) 5 q
    have e1 : M (L + 6) p = A.2 5 p := hl p hp
    have e2 : M (L + 6) (p - 1) = A.2 5 (p - 1) := hl (p - 1) (by omega)
    by_cases c1 : q = p - 1
    · subst c1; rw [mu_self, mu_self]; exact e1
    · rw [mu_nj _ _ _ c1, mu_nj _ _ _ c1]
      by_cases c2 : q = p
      · subst c2; rw [mu_self, mu_self]; exact e2
      · rw [mu_nj _ _ _ c2, mu_nj _ _ _ c2]; exact hl q hq
theorem swap_at {A : Ls} {p : Nat} (h1 : 1 ≤ p) (q : Nat) : (swapA A p).2 5 q = if q = p - 1 then A.2 5 p else if q = p then A.2 5 (p - 1) else A.2 5 q := by
  show mu (mu A.2 5 p (A.2 5 (p - 1))) 5 (p - 1) (A.2 5 p) 5 q = _
  by_cases c1 : q = p - 1
  · subst c1; rw [mu_self, if_pos rfl]
  · rw [mu_nj _ _ _ c1, if_neg c1]
    by_cases c2 : q = p
    · subst c2; rw [mu_self, if_pos rfl]
    · rw [mu_nj _ _ _ c2, if_neg c2]
theorem swap_r {A : Ls} {p r i : Nat} (h : r ≠ 5) : (swapA A p).2 r i = A.2 r i := by
  show mu (mu A.2 5 p (A.2 5 (p - 1))) 5 (p - 1) (A.2 5 p) r i = _
  rw [mu_ne _ _ _ h, mu_ne _ _ _ h]
theorem Wf.swap {A : Ls} (h : Wf A) {p : Nat} (h1 : 1 ≤ p) (hp : (p : Int) < A.1 3) : Wf (swapA A p) := by
  obtain ⟨w0, w1, w2, w3, w4, w5, w6⟩ := h
  refine ⟨w0, w1, w2, w3, fun q hq => ?_, fun q q2 hlt hq => ?_, fun i hi => by rw [swap_r (by omega)]; exact w6 i hi⟩
  · have hq : (q : Int) < A.1 3 := hq
    show 0 ≤ (swapA A p).2 5 q ∧ (swapA A p).2 5 q < A.1 2
    rw [swap_at h1]
    split
    · exact w4 p hp
    · split
      · exact w4 (p - 1) (by omega)
      · exact w4 q hq
  · have hq : (q2 : Int) < A.1 3 := hq
    have ne : ∀ a b : Nat, a ≠ b → (a : Int) < A.1 3 → (b : Int) < A.1 3 → A.2 5 a ≠ A.2 5 b := by
      intro a b hab ha hb
      rcases Nat.lt_or_ge a b with c | c
      · exact w5 a b c hb
      · exact fun e => w5 b a (by omega) ha e.symm
    rw [swap_at h1, swap_at h1]
    by_cases c1 : q = p - 1
    · rw [if_pos c1]
      by_cases c2 : q2 = p - 1
      · omega
      · rw [if_neg c2]
        by_cases c3 : q2 = p
        · rw [if_pos c3]; exact ne _ _ (by omega) hp (by omega)
        · rw [if_neg c3]; exact ne _ _ (by omega) hp hq
    · rw [if_neg c1]
      by_cases c4 : q = p
      · rw [if_pos c4, if_neg (by omega), if_neg (by omega)]; exact ne _ _ (by omega) (by omega) hq
      · rw [if_neg c4]
        by_cases c2 : q2 = p - 1
        · rw [if_pos c2]; exact ne _ _ (by omega) (by omega) hp
        · rw [if_neg c2]
          by_cases c3 : q2 = p
          · rw [if_pos c3]; exact ne _ _ (by omega) (by omega) (by omega)
          · rw [if_neg c3]; exact ne _ _ (by omega) (by omega) hq
set_option maxRecDepth 20000 in
set_option maxHeartbeats 4000000 in
theorem sp_canPass {l : Launch} {g : Gw} {d n : Nat} {M : Mm} {Q : Option Wd → Mm → Prop} (hn : 60 ≤ n) (hd : 5 ≤ d) (hR : SR M) (hX : txOK M) {A : Ls} (hA : Rc M 2 A) (hW : Wf A) (hr : 0 ≤ A.1 1 ∧ A.1 1 < M 25 1) (x : Int) (kt : cpA (evC M) A x → ∀ M', Fr VX M M' → SR M' → Q (some (0, 1)) M') (kf : ¬ cpA (evC M) A x → ∀ M', Fr VX M M' → SR M' → Q (some (0, 0)) M') : Wp l g d 0 0 n m_X1_canPass 0 [] [(2, 51), (2, 2), (0, x), (9, 0)] M Q := by
  obtain ⟨a0, a1, a2, a3, ar, al⟩ := id hA
  obtain ⟨w0, w1, w2, w3, w4, w5, w6⟩ := id hW
  have hX1 := hX.1
  have hX2 := hX.2.1
  refine wp_iload_n dX1_canPass_0 rfl rfl ?_
  refine wp_iconst dX1_canPass_1 (by decide) ?_
  refine wp_icmp_lt (tgt := 13) dX1_canPass_2 (by decide) (fun h2 => ?_) (fun h2 => ?_)
  · refine wp_iconst dX1_canPass_13 (by decide) ?_
    refine wp_zret rfl (by omega) dX1_canPass_14 ?_
    exact kf (fun hc => by have := hc.1; have := hc.2.1; omega) M Fr.rf hR
  · refine wp_iload_n dX1_canPass_5 rfl rfl ?_
    refine wp_aload_n dX1_canPass_6 rfl rfl ?_
    refine wp_get 2 rfl fl_RX1_64 rfl ⟨by omega, by omega⟩ dX1_canPass_7 rfl (v := (M 2 3)) (rfl) ?_
    refine wp_icmp_lt (tgt := 15) dX1_canPass_10 (by decide) (fun h10 => ?_) (fun h10 => ?_)
    · refine wp_aload_n dX1_canPass_15 rfl rfl ?_
      refine wp_iload_n dX1_canPass_16 rfl rfl ?_
      refine wp_iconst dX1_canPass_17 (by decide) ?_
      refine wp_isub dX1_canPass_18 (by omega) ?_
      refine wp_callV0 (d' := d - 1) cv_RX1_68 2 rfl [(0, (x - 1))] [] rfl rfl (Or.inl ⟨_, _, rfl, by decide, rfl, by omega, by omega⟩) (by omega) (Nat.le_of_ble_eq_true rfl) dX1_canPass_19 rfl (Nat.le_of_ble_eq_true rfl) (by omega) (loc1 := [(2, 2), (0, (x - 1))]) rfl ?_
      refine sp_at_2 hn hR (x - 1) (fun _ => ?_) (fun h => absurd (by omega) h)
      rw [show M 8 ((x - 1)).toNat = A.2 5 (x - 1).toNat from al (x - 1).toNat (by omega)]
      have hv19 := w4 (x - 1).toNat (by omega)
      refine wp_istore_n (loc' := [(2, 51), (2, 2), (0, x), (0, (A.2 5 (x - 1).toNat))]) dX1_canPass_22 rfl (Nat.le_of_ble_eq_true rfl) rfl ?_
      refine wp_aload_n dX1_canPass_23 rfl rfl ?_
      refine wp_iload_n dX1_canPass_24 rfl rfl ?_
      refine wp_iconst dX1_canPass_25 (by decide) ?_
      refine wp_isub dX1_canPass_26 (by omega) ?_
      refine wp_iload_n dX1_canPass_27 rfl rfl ?_
      refine wp_callV0 (d' := d - 1) cv_RX1_72 2 rfl [(0, (x - 1)), (0, (A.2 5 (x - 1).toNat))] [] rfl rfl (Or.inl ⟨_, _, rfl, by decide, rfl, by omega, by omega⟩) (by omega) (Nat.le_of_ble_eq_true rfl) dX1_canPass_28 rfl (Nat.le_of_ble_eq_true rfl) (by omega) (loc1 := [(2, 2), (0, (x - 1)), (0, (A.2 5 (x - 1).toNat))]) rfl ?_
      refine sp_isHeld_2 hn (by omega) hR (x - 1) (A.2 5 (x - 1).toNat) (by omega) (fun h28 => ?_) (fun h28 => ?_)
      · refine wp_if_ne (tgt := 52) dX1_canPass_31 (by decide) (fun _ => ?_) (fun h => absurd h (by decide))
        refine wp_iconst dX1_canPass_52 (by decide) ?_
        refine wp_zret rfl (by omega) dX1_canPass_53 ?_
        refine kf (fun hc => hc.2.2.1 ?_) M Fr.rf hR
        have e1 : (x - 1).toNat = 0 := by omega
        rw [e1] at h28
        refine ⟨by omega, ?_⟩
        rw [← ar 4 (A.2 5 0).toNat (by omega) (by rw [e1] at hv19; omega)]
        exact h28.2
      · refine wp_if_ne (tgt := 52) dX1_canPass_31 (by decide) (fun h => absurd h (by decide)) (fun _ => ?_)
        refine wp_aload_n dX1_canPass_34 rfl rfl ?_
        refine wp_aload_n dX1_canPass_35 rfl rfl ?_
        refine wp_iload_n dX1_canPass_36 rfl rfl ?_
        refine wp_aload_n dX1_canPass_37 rfl rfl ?_
        refine wp_iload_n dX1_canPass_38 rfl rfl ?_
        refine wp_callV0 (d' := d - 1) cv_RX1_68 2 rfl [(0, x)] [(0, (A.2 5 (x - 1).toNat)), (2, 2), (2, 51)] rfl rfl (Or.inl ⟨_, _, rfl, by decide, rfl, by omega, by omega⟩) (by omega) (Nat.le_of_ble_eq_true rfl) dX1_canPass_39 rfl (Nat.le_of_ble_eq_true rfl) (by omega) (loc1 := [(2, 2), (0, x)]) rfl ?_
        refine sp_at_2 hn hR x (fun _ => ?_) (fun h => absurd (by omega) h)
        rw [show M 8 (x).toNat = A.2 5 x.toNat from al x.toNat (by omega)]
        have hv39 := w4 x.toNat (by omega)
        refine wp_callV0 (d' := d - 1) cv_RX1_76 51 rfl [(2, 2), (0, (A.2 5 (x - 1).toNat)), (0, (A.2 5 x.toNat))] [] rfl rfl (Or.inl ⟨_, _, rfl, by decide, rfl, by omega, by omega⟩) (by omega) (Nat.le_of_ble_eq_true rfl) dX1_canPass_42 rfl (Nat.le_of_ble_eq_true rfl) (by omega) (loc1 := [(2, 51), (2, 2), (0, (A.2 5 (x - 1).toNat)), (0, (A.2 5 x.toNat)), (9, 0), (9, 0)]) rfl ?_
        refine sp_minds_2 hn (by omega) hR hX hA hW hr _ _ (fun hm M1 hF1 hR1 => ?_) (fun hm M1 hF1 hR1 => ?_)
        · refine wp_if_ne (tgt := 52) dX1_canPass_45 (by decide) (fun _ => ?_) (fun h => absurd h (by decide))
          refine wp_iconst dX1_canPass_52 (by decide) ?_
          refine wp_zret rfl (by omega) dX1_canPass_53 ?_
          exact kf (fun hc => by rw [hc.2.2.2] at hm; cases hm) M1 hF1 hR1
        · refine wp_if_ne (tgt := 52) dX1_canPass_45 (by decide) (fun h => absurd h (by decide)) (fun _ => ?_)
          refine wp_iconst dX1_canPass_48 (by decide) ?_
          refine wp_goto (tgt := 53) dX1_canPass_49 (by decide) ?_
          refine wp_zret rfl (by omega) dX1_canPass_53 ?_
          refine kt ⟨by omega, by omega, ?_, hm⟩ M1 hF1 hR1
          intro hc
          have e1 : (x - 1).toNat = 0 := by omega
          rw [e1] at h28
          rw [← ar 4 (A.2 5 0).toNat (by omega) (by rw [e1] at hv19; omega)] at hc
          exact h28 ⟨by omega, hc.2⟩
    · refine wp_iconst dX1_canPass_13 (by decide) ?_
      refine wp_zret rfl (by omega) dX1_canPass_14 ?_
      exact kf (fun hc => by have := hc.1; have := hc.2.1; omega) M Fr.rf hR
def hstA (E : Ev) : Nat → Nat → Ls → Ls × Int
  | 0, _, A => (A, 0)
  | m + 1, p, A => if cpA E A (p : Int) then ((hstA E m (p + 1) (swapA A p)).1, (hstA E m (p + 1) (swapA A p)).2 + 1) else hstA E m (p + 1) A
theorem hstA_r (E : Ev) : ∀ (m p : Nat) (A : Ls), 0 ≤ (hstA E m p A).2 ∧ (hstA E m p A).2 ≤ m
  | 0, _, _ => ⟨by simp [hstA], by simp [hstA]⟩
  | m + 1, p, A => by
    have h1 := hstA_r E m (p + 1) (swapA A p)
    have h2 := hstA_r E m (p + 1) A
    unfold hstA
    split
    · exact ⟨by show 0 ≤ _ + 1; omega, by show _ + 1 ≤ _; omega⟩
    · omega
def VH (i j : Nat) : Prop := VX i j ∨ i = 8
theorem evC_frH {M M' : Mm} (f : Fr VH M M') : evC M' = evC M := by
  have e1 : ∀ t, M' (27 + 4 * t + 1) = M (27 + 4 * t + 1) := fun t => funext fun j => f _ _ (by unfold VH VX; omega)
  have e2 : ∀ t, M' (27 + 4 * t + 2) = M (27 + 4 * t + 2) := fun t => funext fun j => f _ _ (by unfold VH VX; omega)
  funext t part env
  unfold evC
  rw [e1 t, e2 t]
theorem txOK.frH {M M' : Mm} (h : txOK M) (f : Fr VH M M') : txOK M' := by
  have e : ∀ i j, ¬ VH i j → M' i j = M i j := f
  unfold txOK
  rw [e 25 1 (by unfold VH VX; omega)]
  refine ⟨h.1, h.2.1, fun t ht => ?_⟩
  rw [e _ 0 (by unfold VH VX; omega), e _ 1 (by unfold VH VX; omega), e _ 2 (by unfold VH VX; omega)]
  exact h.2.2 t ht
set_option maxRecDepth 20000 in
set_option maxHeartbeats 4000000 in
theorem lp_hasten {l : Launch} {g : Gw} {d n : Nat} {E : Ev} (hn : 60 ≤ n) (hd : 6 ≤ d) : ∀ (m p : Nat) (A : Ls) (M : Mm) (c : Int) (Q : Option Wd → Mm → Prop), p + m = 5 → 1 ≤ p → 0 ≤ c → c ≤ p → SR M → txOK M → Rc M 2 A → Wf A → (0 ≤ A.1 1 ∧ A.1 1 < M 25 1) → evC M = E → (∀ M', Rc M' 2 (hstA E m p A).1 → Fr VH M M' → SR M' → Q (some (0, c + (hstA E m p A).2)) M') → Wp l g d 0 0 n m_X1_hasten 4 [] [(2, 51), (2, 2), (0, c), (0, (p : Int))] M Q := by
  intro m
  induction m with
  | zero =>
    intro p A M c Q hp hp1 hc0 hc5 hR hX hA hW hr hE k
    refine wp_iload_n dX1_hasten_4 rfl rfl ?_
    refine wp_iconst dX1_hasten_5 (by decide) ?_
    refine wp_icmp_ge (tgt := 32) dX1_hasten_6 (by decide) (fun _ => ?_) (fun h => absurd h (by omega))
    refine wp_iload_n dX1_hasten_32 rfl rfl ?_
    refine wp_iret rfl dX1_hasten_33 ?_
    have h0 : c + (hstA E 0 p A).2 = c := by show c + 0 = c; omega
    rw [h0] at k
    exact k M hA Fr.rf hR
  | succ m ih =>
    intro p A M c Q hp hp1 hc0 hc5 hR hX hA hW hr hE k
    obtain ⟨a0, a1, a2, a3, ar, al⟩ := id hA
    obtain ⟨w0, w1, w2, w3, w4, w5, w6⟩ := id hW
    have hX1 := hX.1
    have hX2 := hX.2.1
    refine wp_iload_n dX1_hasten_4 rfl rfl ?_
    refine wp_iconst dX1_hasten_5 (by decide) ?_
    refine wp_icmp_ge (tgt := 32) dX1_hasten_6 (by decide) (fun h => absurd h (by omega)) (fun _ => ?_)
    refine wp_aload_n dX1_hasten_9 rfl rfl ?_
    refine wp_aload_n dX1_hasten_10 rfl rfl ?_
    refine wp_iload_n dX1_hasten_11 rfl rfl ?_
    refine wp_callV0 (d' := d - 1) cv_RX1_80 51 rfl [(2, 2), (0, (p : Int))] [] rfl rfl (Or.inl ⟨_, _, rfl, by decide, rfl, by omega, by omega⟩) (by omega) (Nat.le_of_ble_eq_true rfl) dX1_hasten_12 rfl (Nat.le_of_ble_eq_true rfl) (by omega) (loc1 := [(2, 51), (2, 2), (0, (p : Int)), (9, 0)]) rfl ?_
    refine sp_canPass hn (by omega) hR hX hA hW hr (p : Int) (fun hc M1 hF1 hR1 => ?_) (fun hc M1 hF1 hR1 => ?_)
    · refine wp_if_eq (tgt := 26) dX1_hasten_15 (by decide) (fun h => absurd h (by decide)) (fun _ => ?_)
      refine wp_aload_n dX1_hasten_18 rfl rfl ?_
      refine wp_iload_n dX1_hasten_19 rfl rfl ?_
      refine wp_callV0 (d' := d - 1) cv_RX1_84 2 rfl [(0, (p : Int))] [] rfl rfl (Or.inl ⟨_, _, rfl, by decide, rfl, by omega, by omega⟩) (by omega) (Nat.le_of_ble_eq_true rfl) dX1_hasten_20 rfl (Nat.le_of_ble_eq_true rfl) (by omega) (loc1 := [(2, 2), (0, (p : Int)), (9, 0)]) rfl ?_
      have hA1 := hA.fr (by omega) hF1
      have g3 : M1 2 3 = A.1 3 := hA1.2.2.2.1
      refine sp_moveUp_2 hn hR1 (p : Int) (by omega) (by have := hc.2.1; omega) (by omega) ?_
      have hA2 := hA1.swap (p := p) hp1 hc.2.1
      have f2 : Fr VH M (mu (mu M1 8 p (M1 8 (p - 1))) 8 (p - 1) (M1 8 p)) := ((hF1.mono (V' := VH) (fun i j h => Or.inl h)).put (Or.inr rfl)).put (Or.inr rfl)
      rw [show ((p : Int) - 1).toNat = p - 1 by omega, show ((p : Int)).toNat = p from rfl]
      refine wp_iinc (loc' := [(2, 51), (2, 2), (0, (c + 1)), (0, (p : Int))]) dX1_hasten_23 rfl (by omega) rfl ?_
      refine wp_iinc (loc' := [(2, 51), (2, 2), (0, (c + 1)), (0, ((p : Int) + 1))]) dX1_hasten_26 rfl (by omega) rfl ?_
      refine wp_goto (tgt := 4) dX1_hasten_29 (by decide) ?_
      refine ih (p + 1) (swapA A p) _ (c + 1) Q (by omega) (by omega) (by omega) (by omega) (SR.row (by decide) (SR.row (by decide) hR1)) (hX.frH f2) hA2 (hW.swap hp1 hc.2.1) ⟨hr.1, by rw [f2 25 1 (by unfold VH VX; omega)]; exact hr.2⟩ ((evC_frH f2).trans hE) (fun M2 a1 a2 a3 => ?_)
      have e : hstA (evC M) (m + 1) p A = ((hstA (evC M) m (p + 1) (swapA A p)).1, (hstA (evC M) m (p + 1) (swapA A p)).2 + 1) := by show (if _ then _ else _) = _; rw [if_pos hc]
      rw [show c + 1 + (hstA E m (p + 1) (swapA A p)).2 = c + (hstA E (m + 1) p A).2 by rw [← hE, e]; show _ = c + ((hstA (evC M) m (p + 1) (swapA A p)).2 + 1); omega]
      refine k M2 ?_ (f2.tr a2) a3
      rw [← hE, e, hE]
      exact a1
    · refine wp_if_eq (tgt := 26) dX1_hasten_15 (by decide) (fun _ => ?_) (fun h => absurd h (by decide))
      refine wp_iinc (loc' := [(2, 51), (2, 2), (0, c), (0, ((p : Int) + 1))]) dX1_hasten_26 rfl (by omega) rfl ?_
      refine wp_goto (tgt := 4) dX1_hasten_29 (by decide) ?_
      have f2 : Fr VH M M1 := hF1.mono (fun i j h => Or.inl h)
      have e : hstA (evC M) (m + 1) p A = hstA (evC M) m (p + 1) A := by show (if _ then _ else _) = _; rw [if_neg hc]
      refine ih (p + 1) A _ c Q (by omega) (by omega) (by omega) (by omega) hR1 (hX.fr hF1) (hA.fr (by omega) hF1) hW ⟨hr.1, by rw [f2 25 1 (by unfold VH VX; omega)]; exact hr.2⟩ ((evC_frH f2).trans hE) (fun M2 a1 a2 a3 => ?_)
      rw [show hstA E m (p + 1) A = hstA E (m + 1) p A by rw [← hE, e]] at a1 ⊢
      exact k M2 a1 (f2.tr a2) a3
set_option maxRecDepth 20000 in
set_option maxHeartbeats 4000000 in
theorem sp_hasten {l : Launch} {g : Gw} {d n : Nat} {M : Mm} {Q : Option Wd → Mm → Prop} (hn : 60 ≤ n) (hd : 6 ≤ d) (hR : SR M) (hX : txOK M) {A : Ls} (hA : Rc M 2 A) (hW : Wf A) (hr : 0 ≤ A.1 1 ∧ A.1 1 < M 25 1) (k : ∀ M', Rc M' 2 (hstA (evC M) 4 1 A).1 → Fr VH M M' → SR M' → Q (some (0, (hstA (evC M) 4 1 A).2)) M') : Wp l g d 0 0 n m_X1_hasten 0 [] [(2, 51), (2, 2), (9, 0), (9, 0)] M Q := by
  refine wp_iconst dX1_hasten_0 (by decide) ?_
  refine wp_istore_n (loc' := [(2, 51), (2, 2), (0, 0), (9, 0)]) dX1_hasten_1 rfl (Nat.le_of_ble_eq_true rfl) rfl ?_
  refine wp_iconst dX1_hasten_2 (by decide) ?_
  refine wp_istore_n (loc' := [(2, 51), (2, 2), (0, 0), (0, 1)]) dX1_hasten_3 rfl (Nat.le_of_ble_eq_true rfl) rfl ?_
  refine lp_hasten hn hd 4 1 A M 0 Q rfl (by omega) (by omega) (by omega) hR hX hA hW hr rfl (fun M2 a1 a2 a3 => ?_)
  rw [Int.zero_add]
  exact k M2 a1 a2 a3
