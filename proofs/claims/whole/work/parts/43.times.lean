/-! ===== more of the sheets; time gone on in thought ===== -/
/-- all but the texts -/
def VN (i j : Nat) : Prop := (i < 25 ∨ 50 < i) ∨ VX i j
theorem VN.no {t j : Nat} (ht : t < 6) : ¬ VN (27 + 4 * t + 1) j ∧ ¬ VN (27 + 4 * t + 2) j := by unfold VN VX; omega
theorem evC_frN {M M' : Mm} (f : Fr VN M M') : evC M' = evC M := by
  funext t part env
  unfold evC
  by_cases ht : 6 ≤ t
  · rw [if_pos ht, if_pos ht]
  · rw [if_neg ht, if_neg ht, show M' (27 + 4 * t + 1) = M (27 + 4 * t + 1) from funext fun j => f _ _ (VN.no (by omega)).1, show M' (27 + 4 * t + 2) = M (27 + 4 * t + 2) from funext fun j => f _ _ (VN.no (by omega)).2]
theorem txOK.frN {M M' : Mm} (h : txOK M) (f : Fr VN M M') : txOK M' := by
  have e : ∀ i j, ¬ VN i j → M' i j = M i j := f
  obtain ⟨h1, h2, h3⟩ := h
  unfold txOK
  rw [e 25 1 (by unfold VN VX; omega)]
  refine ⟨h1, h2, fun t ht => ?_⟩
  rw [e _ 0 (VN.no (by omega)).2, e _ 1 (VN.no (by omega)).2, e _ 2 (VN.no (by omega)).2]
  exact h3 t ht
theorem Rc.frV {M M' : Mm} {L : Nat} {A : Ls} {V : Nat → Nat → Prop} (h : Rc M L A) (f : Fr V M M') (hv : ∀ i j, V i j → ¬ ((i = L ∧ j < 4) ∨ (L < i ∧ i ≤ L + 6))) : Rc M' L A := by
  have e : ∀ i j, ((i = L ∧ j < 4) ∨ (L < i ∧ i ≤ L + 6)) → M' i j = M i j := fun i j z => f i j (fun v => hv i j v z)
  obtain ⟨h0, h1, h2, h3, hr, hl⟩ := h
  exact ⟨(e L 0 (by omega)).trans h0, (e L 1 (by omega)).trans h1, (e L 2 (by omega)).trans h2, (e L 3 (by omega)).trans h3, fun r i a b => (e _ i (by omega)).trans (hr r i a b), fun q hq => (e _ q (by omega)).trans (hl q hq)⟩
theorem Wf.min {A : Ls} (h : Wf A) : Wf (minA A) := h
theorem Wf.serve {A : Ls} (h : Wf A) (p : Nat) : Wf (serveA A p) := by
  obtain ⟨w0, w1, w2, w3, w4, w5, w6⟩ := h
  exact ⟨w0, w1, w2, w3, w4, w5, w6⟩
theorem Wf.drop {A : Ls} (h : Wf A) (h0 : 0 < A.1 3) : Wf (dropA A) := by
  obtain ⟨w0, w1, w2, w3, w4, w5, w6⟩ := h
  refine ⟨w0, w1, by show 0 ≤ A.1 3 - 1; omega, by show A.1 3 - 1 ≤ A.1 2; omega, fun q hq => ?_, fun q q2 a hq => ?_, w6⟩
  · have hq : (q : Int) < A.1 3 - 1 := hq
    exact w4 (q + 1) (by omega)
  · have hq : (q2 : Int) < A.1 3 - 1 := hq
    exact w5 (q + 1) (q2 + 1) (by omega) (by omega)
theorem Wf.tick {A : Ls} (h : Wf A) (E : Ev) : Wf (tickA E A).1 := by
  unfold tickA
  split
  · rename_i h0
    split
    · exact ((h.serve _).drop h0).min
    · exact (h.serve _).min
  · exact h.min
theorem tick_rule (E : Ev) (A : Ls) : (tickA E A).1.1 1 = A.1 1 := by
  unfold tickA
  split
  · split <;> rfl
  · rfl
theorem tick_size (E : Ev) (A : Ls) : (tickA E A).1.1 2 = A.1 2 := by
  unfold tickA
  split
  · split <;> rfl
  · rfl
def fstA (A : Ls) : Int := if 0 < A.1 3 then A.2 5 0 else -1
theorem fstA_r {A : Ls} (h : Wf A) : -1 ≤ fstA A ∧ fstA A ≤ 4 := by
  obtain ⟨w0, w1, w2, w3, w4, w5, w6⟩ := h
  unfold fstA
  split
  · have := w4 0 (by omega); omega
  · omega
theorem i8_small {v : Int} (h : -1 ≤ v ∧ v ≤ 4) : i8 v = v := by
  rcases (show v = -1 ∨ v = 0 ∨ v = 1 ∨ v = 2 ∨ v = 3 ∨ v = 4 by omega) with rfl | rfl | rfl | rfl | rfl | rfl <;> decide
/-- who left, and when last -/
def rnA (E : Ev) (x : Int) : Nat → Nat → Ls → Int → Ls × Int
  | 0, _, A, c => (A, c)
  | m + 1, t, A, c => rnA E x m (t + 1) (tickA E A).1 (if (tickA E A).2 = x then (t : Int) else c)
def runA (E : Ev) (A : Ls) (n w : Int) : Int := if w = 0 then (rnA E (w - 10) n.toNat 0 A (-1)).1.1 3 else if w = 1 then fstA (rnA E (w - 10) n.toNat 0 A (-1)).1 else (rnA E (w - 10) n.toNat 0 A (-1)).2
/-- when all is first otherwise than told -/
def ftA (E : Ev) (f : Nat → Int) : Nat → Nat → Ls → Int
  | 0, _, _ => -1
  | m + 1, t, A => if f t = fstA (tickA E A).1 then ftA E f m (t + 1) (tickA E A).1 else (t : Int)
def flmB (E : Ev) (s : Nat) : Nat → Nat → Ls → Mm → Mm
  | 0, _, _, B => B
  | m + 1, t, A, B => flmB E s m (t + 1) (tickA E A).1 (mu B s (2 + t) (fstA (tickA E A).1))
/-- the thought land's cells, and the stacks -/
def VW (i j : Nat) : Prop := VX i j ∨ (i = 16 ∧ j < 4) ∨ (16 < i ∧ i ≤ 22)
theorem VW.n : ∀ i j, VW i j → VN i j := by
  intro i j h
  unfold VW VX at h
  unfold VN VX
  omega
theorem VW.g : ∀ i j, VG 16 i j → VW i j := by
  intro i j h
  unfold VG VX at h
  unfold VW VX
  omega
theorem VW.b : ∀ i j, VB_16 i j → VW i j := by
  intro i j h
  unfold VB_16 at h
  unfold VW
  omega
def TJ (M : Mm) (A : Ls) (E : Ev) : Prop := SR M ∧ txOK M ∧ Rc M 16 A ∧ Wf A ∧ (0 ≤ A.1 1 ∧ A.1 1 < M 25 1) ∧ evC M = E
theorem TJ.bec {M : Mm} {A : Ls} (h : CJ M A) : TJ (becM_16_2 M) A (evC M) := by
  obtain ⟨hR, hX, hA, hW, hr⟩ := h
  have f := (becF_16_2 M).mono VW.b
  exact ⟨becR_16_2 hR, hX.frN (f.mono VW.n), becA_16_2 hA hW, hW, ⟨hr.1, hr.2⟩, evC_frN (f.mono VW.n)⟩
theorem TJ.fr {M M' : Mm} {A : Ls} {E : Ev} {V : Nat → Nat → Prop} (h : TJ M A E) (f : Fr V M M') (hR : SR M') (hv : ∀ i j, V i j → VN i j ∧ ¬ ((i = 16 ∧ j < 4) ∨ (16 < i ∧ i ≤ 22))) : TJ M' A E := by
  obtain ⟨h1, h2, h3, h4, h5, h6⟩ := h
  have fn := f.mono (fun i j v => (hv i j v).1)
  refine ⟨hR, h2.frN fn, h3.frV f (fun i j v => (hv i j v).2), h4, ?_, (evC_frN fn).trans h6⟩
  rw [fn 25 1 (by unfold VN VX; omega)]
  exact h5
set_option maxRecDepth 20000 in
set_option maxHeartbeats 4000000 in
theorem sp_goT {l : Launch} {g : Gw} {d n : Nat} {M : Mm} {Q : Option Wd → Mm → Prop} (hn : 60 ≤ n) (hd : 5 ≤ d) {A : Ls} {E : Ev} (hT : TJ M A E) (k : ∀ M', TJ M' (tickA E A).1 E → Fr VW M M' → Q (some (0, (tickA E A).2)) M') : Wp l g d 0 0 n m_X1_goOn 0 [] [(2, 51), (2, 16), (9, 0), (9, 0), (9, 0)] M Q := by
  obtain ⟨hR, hX, hA, hW, hr, rfl⟩ := hT
  refine sp_goOn_16 hn hd hR hX hA hW hr (fun M1 a1 a2 a3 => ?_)
  have f := a2.mono VW.g
  refine k M1 ⟨a3, hX.frN (f.mono VW.n), a1, hW.tick _, ?_, evC_frN (f.mono VW.n)⟩ f
  rw [tick_rule, f 25 1 (by unfold VW VX; omega)]
  exact hr
set_option maxRecDepth 20000 in
set_option maxHeartbeats 4000000 in
theorem sp_fstT {l : Launch} {g : Gw} {d n : Nat} {M : Mm} {Q : Option Wd → Mm → Prop} (hn : 60 ≤ n) {A : Ls} {E : Ev} (hT : TJ M A E) (k : Q (some (0, fstA A)) M) : Wp l g d 0 0 n m_X0_at 0 [] [(2, 16), (0, 0)] M Q := by
  obtain ⟨hR, hX, hA, hW, hr, -⟩ := hT
  obtain ⟨a0, a1, a2, a3, ar, al⟩ := hA
  refine sp_at_16 hn hR 0 (fun hl => ?_) (fun hl => ?_)
  · rw [show M 22 (0 : Int).toNat = fstA A from (al 0 (by omega)).trans (if_pos (by omega)).symm]
    exact k
  · rw [show (-1 : Int) = fstA A from (if_neg (by have := hW.1; have := hW.2.2.1; have := hW.2.1; have := hW.2.2.2.1; omega)).symm]
    exact k
def runF (w : Int) (r : Ls × Int) : Int := if w = 0 then r.1.1 3 else if w = 1 then fstA r.1 else r.2
set_option maxRecDepth 20000 in
set_option maxHeartbeats 4000000 in
theorem lp_run  {l : Launch} {g : Gw} {d n : Nat} {E : Ev} (hn : 60 ≤ n) (hd : 10 ≤ d) {N : Nat} (hN : N ≤ 60) {w : Int} (hw : 0 ≤ w ∧ w ≤ 14) : ∀ (m p : Nat) (A : Ls) (M : Mm) (c : Int) (Q : Option Wd → Mm → Prop), p + m = N → TJ M A E → (∀ M' r, r = rnA E (w - 10) m p A c → TJ M' r.1 E → Fr VW M M' → Q (some (0, runF w r)) M') → Wp l g d 0 0 n m_X7_run 52 [] [(2, 1), (0, (N : Int)), (0, w), (0, c), (0, (p : Int))] M Q := by
  intro m
  induction m with
  | zero =>
    intro p A M c Q hp hT k
    have hR := hT.1
    refine wp_iload dX7_run_52 rfl ?_
    refine wp_iload_n dX7_run_54 rfl rfl ?_
    refine wp_icmp_ge (tgt := 85) dX7_run_55 (by decide) (fun _ => ?_) (fun h => absurd h (by omega))
    refine wp_iload_n dX7_run_85 rfl rfl ?_
    refine wp_if_ne (tgt := 97) dX7_run_86 (by decide) (fun h86 => ?_) (fun h86 => ?_)
    · refine wp_iload_n dX7_run_97 rfl rfl ?_
      refine wp_iconst dX7_run_98 (by decide) ?_
      refine wp_icmp_ne (tgt := 113) dX7_run_99 (by decide) (fun h99 => ?_) (fun h99 => ?_)
      · refine wp_iload_n dX7_run_113 rfl rfl ?_
        refine wp_iret rfl dX7_run_114 ?_
        rw [show c = runF w (A, c) from ((if_neg (by omega)).trans (if_neg (by omega))).symm]
        exact k _ (A, c) rfl hT Fr.rf
      · refine wp_aload_n dX7_run_102 rfl rfl ?_
        refine wp_get 1 rfl fl_RX7_19 rfl ⟨by omega, by omega⟩ dX7_run_103 rfl (v := 16) (sr_1_2 (M := M) hR) ?_
        refine wp_iconst dX7_run_106 (by decide) ?_
        refine wp_callV0 (d' := d - 1) cv_RX7_142 16 rfl [(0, 0)] [] rfl rfl (Or.inl ⟨_, _, rfl, by decide, rfl, by omega, by omega⟩) (by omega) (Nat.le_of_ble_eq_true rfl) dX7_run_107 rfl (Nat.le_of_ble_eq_true rfl) (by omega) (loc1 := [(2, 16), (0, 0)]) rfl ?_
        refine sp_fstT (by omega) hT ?_
        refine wp_goto (tgt := 114) dX7_run_110 (by decide) ?_
        refine wp_iret rfl dX7_run_114 ?_
        rw [show (fstA A) = runF w (A, c) from ((if_neg (by omega)).trans (if_pos (by omega))).symm]
        exact k _ (A, c) rfl hT Fr.rf
    · refine wp_aload_n dX7_run_89 rfl rfl ?_
      refine wp_get 1 rfl fl_RX7_19 rfl ⟨by omega, by omega⟩ dX7_run_90 rfl (v := 16) (sr_1_2 (M := M) hR) ?_
      refine wp_get 16 rfl fl_RX7_209 rfl ⟨by omega, by omega⟩ dX7_run_93 rfl (v := (M 16 3)) (rfl) ?_
      refine wp_iret rfl dX7_run_96 ?_
      rw [show M 16 3 = runF w (A, c) from (hT.2.2.1.2.2.2.1).trans (if_pos (by omega)).symm]
      exact k _ (A, c) rfl hT Fr.rf
  | succ m ih =>
    intro p A M c Q hp hT k
    have hR := hT.1
    refine wp_iload dX7_run_52 rfl ?_
    refine wp_iload_n dX7_run_54 rfl rfl ?_
    refine wp_icmp_ge (tgt := 85) dX7_run_55 (by decide) (fun h => absurd h (by omega)) (fun _ => ?_)
    refine wp_aload_n dX7_run_58 rfl rfl ?_
    refine wp_get 1 rfl fl_RX7_41 rfl ⟨by omega, by omega⟩ dX7_run_59 rfl (v := 51) (sr_1_6 (M := M) hR) ?_
    refine wp_aload_n dX7_run_62 rfl rfl ?_
    refine wp_get 1 rfl fl_RX7_19 rfl ⟨by omega, by omega⟩ dX7_run_63 rfl (v := 16) (sr_1_2 (M := M) hR) ?_
    refine wp_callV0 (d' := d - 1) cv_RX7_157 51 rfl [(2, 16)] [] rfl rfl (Or.inl ⟨_, _, rfl, by decide, rfl, by omega, by omega⟩) (by omega) (Nat.le_of_ble_eq_true rfl) dX7_run_66 rfl (Nat.le_of_ble_eq_true rfl) (by omega) (loc1 := [(2, 51), (2, 16), (9, 0), (9, 0), (9, 0)]) rfl ?_
    refine sp_goT (by omega) (by omega) hT (fun M1 hT1 hF1 => ?_)
    have hR1 := hT1.1
    refine wp_iload_n dX7_run_69 rfl rfl ?_
    refine wp_bipush dX7_run_70 (by decide) (by decide) ?_
    refine wp_isub dX7_run_72 (by omega) ?_
    refine wp_icmp_ne (tgt := 79) dX7_run_73 (by decide) (fun h73 => ?_) (fun h73 => ?_)
    · refine wp_iinc (loc' := [(2, 1), (0, (N : Int)), (0, w), (0, c), (0, ((p : Int) + 1))]) dX7_run_79 rfl (by omega) rfl ?_
      refine wp_goto (tgt := 52) dX7_run_82 (by decide) ?_
      refine ih (p + 1) _ _ c Q (by omega) hT1 (fun M2 r e a1 a2 => k M2 r ?_ a1 (hF1.tr a2))
      show r = rnA E (w - 10) m (p + 1) (tickA E A).1 (if (tickA E A).2 = w - 10 then (p : Int) else c)
      rw [if_neg (by omega)]
      exact e
    · refine wp_iload dX7_run_76 rfl ?_
      refine wp_istore_n (loc' := [(2, 1), (0, (N : Int)), (0, w), (0, (p : Int)), (0, (p : Int))]) dX7_run_78 rfl (Nat.le_of_ble_eq_true rfl) rfl ?_
      refine wp_iinc (loc' := [(2, 1), (0, (N : Int)), (0, w), (0, (p : Int)), (0, ((p : Int) + 1))]) dX7_run_79 rfl (by omega) rfl ?_
      refine wp_goto (tgt := 52) dX7_run_82 (by decide) ?_
      refine ih (p + 1) _ _ (p : Int) Q (by omega) hT1 (fun M2 r e a1 a2 => k M2 r ?_ a1 (hF1.tr a2))
      show r = rnA E (w - 10) m (p + 1) (tickA E A).1 (if (tickA E A).2 = w - 10 then (p : Int) else c)
      rw [if_pos (by omega)]
      exact e
theorem wrap_s10 {w : Int} (h : -2147483648 ≤ w ∧ w < 2147483648) : wrap (w - 10) = w - 10 ∨ (w < 0 ∧ 5 ≤ wrap (w - 10)) := by
  by_cases c : -2147483638 ≤ w
  · exact Or.inl (wrap_id (by omega))
  · refine Or.inr ⟨by omega, ?_⟩
    unfold wrap
    rw [Int.bmod_def]
    split <;> omega
def okRun (A : Ls) (x w : Int) : Prop := 0 ≤ x ∧ x ≤ 60 ∧ (w = 0 ∨ w = 1 ∨ (10 ≤ w ∧ w - 10 < A.1 2))
set_option maxRecDepth 20000 in
set_option maxHeartbeats 4000000 in
theorem cs_run {l : Launch} {g : Gw} {d n : Nat} {M : Mm} {Q : Option Wd → Mm → Prop} (hn : 60 ≤ n) (hd : 10 ≤ d) {A : Ls} (hI : CJ M A) (x w : Int) (hw : -2147483648 ≤ w ∧ w < 2147483648) (kB : ¬ okRun A x w → Q (some (0, -2)) M) (k : okRun A x w → ∀ M', Fr VW M M' → SR M' → Q (some (0, runA (evC M) A x w)) M') : Wp l g d 0 0 n m_X7_run 0 [] [(2, 1), (0, x), (0, w), (9, 0), (9, 0)] M Q := by
  obtain ⟨hR, hX, hA, hW, hr⟩ := id hI
  obtain ⟨a0, a1, a2, a3, ar, al⟩ := id hA
  obtain ⟨w0, w1, w2, w3, w4, w5, w6⟩ := id hW
  have hX1 := hX.1
  have hX2 := hX.2.1
  refine wp_iload_n dX7_run_0 rfl rfl ?_
  refine wp_if_lt (tgt := 33) dX7_run_1 (by decide) (fun h1 => ?_) (fun h1 => ?_)
  · refine wp_bipush dX7_run_33 (by decide) (by decide) ?_
    refine wp_iret rfl dX7_run_35 ?_
    exact kB (by unfold okRun; omega)
  · refine wp_iload_n dX7_run_4 rfl rfl ?_
    refine wp_bipush dX7_run_5 (by decide) (by decide) ?_
    refine wp_icmp_gt (tgt := 33) dX7_run_7 (by decide) (fun h7 => ?_) (fun h7 => ?_)
    · refine wp_bipush dX7_run_33 (by decide) (by decide) ?_
      refine wp_iret rfl dX7_run_35 ?_
      exact kB (by unfold okRun; omega)
    · refine wp_iload_n dX7_run_10 rfl rfl ?_
      refine wp_if_eq (tgt := 36) dX7_run_11 (by decide) (fun h11 => ?_) (fun h11 => ?_)
      · refine wp_aload_n dX7_run_36 rfl rfl ?_
        refine wp_get 1 rfl fl_RX7_19 rfl ⟨by omega, by omega⟩ dX7_run_37 rfl (v := 16) (sr_1_2 (M := M) hR) ?_
        refine wp_aload_n dX7_run_40 rfl rfl ?_
        refine wp_get 1 rfl fl_RX7_10 rfl ⟨by omega, by omega⟩ dX7_run_41 rfl (v := 2) (sr_1_0 (M := M) hR) ?_
        refine wp_callV0 (d' := d - 1) cv_RX7_203 16 rfl [(2, 2)] [] rfl rfl (Or.inl ⟨_, _, rfl, by decide, rfl, by omega, by omega⟩) (by omega) (Nat.le_of_ble_eq_true rfl) dX7_run_44 rfl (Nat.le_of_ble_eq_true rfl) (by omega) (loc1 := [(2, 16), (2, 2), (9, 0)]) rfl ?_
        refine sp_become_16_2 (by omega) hR ?_
        have hT := TJ.bec hI
        have hRb := hT.1
        have hFb := (becF_16_2 M).mono VW.b
        refine wp_iconst dX7_run_47 (by decide) ?_
        refine wp_istore_n (loc' := [(2, 1), (0, x), (0, w), (0, (-1)), (9, 0)]) dX7_run_48 rfl (Nat.le_of_ble_eq_true rfl) rfl ?_
        refine wp_iconst dX7_run_49 (by decide) ?_
        refine wp_istore (loc' := [(2, 1), (0, x), (0, w), (0, (-1)), (0, 0)]) dX7_run_50 (Nat.le_of_ble_eq_true rfl) rfl ?_
        obtain ⟨N, rfl⟩ := Int.eq_ofNat_of_zero_le (show 0 ≤ x by omega)
        refine lp_run (by omega) hd (N := N) (by omega) (w := w) (by omega) N 0 A _ (-1) Q (by omega) hT (fun M2 r e a1 a2 => ?_)
        subst e
        exact k (by unfold okRun; omega) M2 (hFb.tr a2) a1.1
      · refine wp_iload_n dX7_run_14 rfl rfl ?_
        refine wp_iconst dX7_run_15 (by decide) ?_
        refine wp_icmp_eq (tgt := 36) dX7_run_16 (by decide) (fun h16 => ?_) (fun h16 => ?_)
        · refine wp_aload_n dX7_run_36 rfl rfl ?_
          refine wp_get 1 rfl fl_RX7_19 rfl ⟨by omega, by omega⟩ dX7_run_37 rfl (v := 16) (sr_1_2 (M := M) hR) ?_
          refine wp_aload_n dX7_run_40 rfl rfl ?_
          refine wp_get 1 rfl fl_RX7_10 rfl ⟨by omega, by omega⟩ dX7_run_41 rfl (v := 2) (sr_1_0 (M := M) hR) ?_
          refine wp_callV0 (d' := d - 1) cv_RX7_203 16 rfl [(2, 2)] [] rfl rfl (Or.inl ⟨_, _, rfl, by decide, rfl, by omega, by omega⟩) (by omega) (Nat.le_of_ble_eq_true rfl) dX7_run_44 rfl (Nat.le_of_ble_eq_true rfl) (by omega) (loc1 := [(2, 16), (2, 2), (9, 0)]) rfl ?_
          refine sp_become_16_2 (by omega) hR ?_
          have hT := TJ.bec hI
          have hRb := hT.1
          have hFb := (becF_16_2 M).mono VW.b
          refine wp_iconst dX7_run_47 (by decide) ?_
          refine wp_istore_n (loc' := [(2, 1), (0, x), (0, w), (0, (-1)), (9, 0)]) dX7_run_48 rfl (Nat.le_of_ble_eq_true rfl) rfl ?_
          refine wp_iconst dX7_run_49 (by decide) ?_
          refine wp_istore (loc' := [(2, 1), (0, x), (0, w), (0, (-1)), (0, 0)]) dX7_run_50 (Nat.le_of_ble_eq_true rfl) rfl ?_
          obtain ⟨N, rfl⟩ := Int.eq_ofNat_of_zero_le (show 0 ≤ x by omega)
          refine lp_run (by omega) hd (N := N) (by omega) (w := w) (by omega) N 0 A _ (-1) Q (by omega) hT (fun M2 r e a1 a2 => ?_)
          subst e
          exact k (by unfold okRun; omega) M2 (hFb.tr a2) a1.1
        · refine wp_aload_n dX7_run_19 rfl rfl ?_
          refine wp_get 1 rfl fl_RX7_10 rfl ⟨by omega, by omega⟩ dX7_run_20 rfl (v := 2) (sr_1_0 (M := M) hR) ?_
          refine wp_iload_n dX7_run_23 rfl rfl ?_
          refine wp_bipush dX7_run_24 (by decide) (by decide) ?_
          refine wp_isubw dX7_run_26 ?_
          refine wp_callV0 (d' := d - 1) cv_RX7_87 2 rfl [(0, (wrap (w - 10)))] [] rfl rfl (Or.inl ⟨_, _, rfl, by decide, rfl, by omega, by omega⟩) (by omega) (Nat.le_of_ble_eq_true rfl) dX7_run_27 rfl (Nat.le_of_ble_eq_true rfl) (by omega) (loc1 := [(2, 2), (0, (wrap (w - 10)))]) rfl ?_
          have hw10 := wrap_s10 hw
          refine sp_has_2 (by omega) (wrap (w - 10)) (fun h27 => ?_) (fun h27 => ?_)
          · refine wp_if_ne (tgt := 36) dX7_run_30 (by decide) (fun _ => ?_) (fun h => absurd h (by decide))
            refine wp_aload_n dX7_run_36 rfl rfl ?_
            refine wp_get 1 rfl fl_RX7_19 rfl ⟨by omega, by omega⟩ dX7_run_37 rfl (v := 16) (sr_1_2 (M := M) hR) ?_
            refine wp_aload_n dX7_run_40 rfl rfl ?_
            refine wp_get 1 rfl fl_RX7_10 rfl ⟨by omega, by omega⟩ dX7_run_41 rfl (v := 2) (sr_1_0 (M := M) hR) ?_
            refine wp_callV0 (d' := d - 1) cv_RX7_203 16 rfl [(2, 2)] [] rfl rfl (Or.inl ⟨_, _, rfl, by decide, rfl, by omega, by omega⟩) (by omega) (Nat.le_of_ble_eq_true rfl) dX7_run_44 rfl (Nat.le_of_ble_eq_true rfl) (by omega) (loc1 := [(2, 16), (2, 2), (9, 0)]) rfl ?_
            refine sp_become_16_2 (by omega) hR ?_
            have hT := TJ.bec hI
            have hRb := hT.1
            have hFb := (becF_16_2 M).mono VW.b
            refine wp_iconst dX7_run_47 (by decide) ?_
            refine wp_istore_n (loc' := [(2, 1), (0, x), (0, w), (0, (-1)), (9, 0)]) dX7_run_48 rfl (Nat.le_of_ble_eq_true rfl) rfl ?_
            refine wp_iconst dX7_run_49 (by decide) ?_
            refine wp_istore (loc' := [(2, 1), (0, x), (0, w), (0, (-1)), (0, 0)]) dX7_run_50 (Nat.le_of_ble_eq_true rfl) rfl ?_
            obtain ⟨N, rfl⟩ := Int.eq_ofNat_of_zero_le (show 0 ≤ x by omega)
            refine lp_run (by omega) hd (N := N) (by omega) (w := w) (by omega) N 0 A _ (-1) Q (by omega) hT (fun M2 r e a1 a2 => ?_)
            subst e
            exact k (by unfold okRun; omega) M2 (hFb.tr a2) a1.1
          · refine wp_if_ne (tgt := 36) dX7_run_30 (by decide) (fun h => absurd h (by decide)) (fun _ => ?_)
            refine wp_bipush dX7_run_33 (by decide) (by decide) ?_
            refine wp_iret rfl dX7_run_35 ?_
            exact kB (by unfold okRun; omega)
set_option maxRecDepth 20000 in
set_option maxHeartbeats 4000000 in
theorem cs_copy {l : Launch} {g : Gw} {d n : Nat} {M : Mm} {Q : Option Wd → Mm → Prop} (hn : 90 ≤ n) (hd : 10 ≤ d) (hR : SR M) {B : Mm} (hB : Rs M B) (hV : Ws B) (x x2 y y2 z : Int) (kB : ¬ (0 ≤ x ∧ x < 4 ∧ 0 ≤ y ∧ y < 4) → Q (some (0, -2)) M) (kN : (0 ≤ x ∧ x < 4 ∧ 0 ≤ y ∧ y < 4) → (B x.toNat 0 = -1 ∨ B y.toNat 0 = -1) → Q (some (0, -11)) M) (kU : (0 ≤ x ∧ x < 4 ∧ 0 ≤ y ∧ y < 4) → ¬ (B x.toNat 0 = -1 ∨ B y.toNat 0 = -1) → B x.toNat 0 ≠ B y.toNat 0 → Q (some (0, -13)) M) (kO : (0 ≤ x ∧ x < 4 ∧ 0 ≤ y ∧ y < 4) → ¬ (B x.toNat 0 = -1 ∨ B y.toNat 0 = -1) → B x.toNat 0 = B y.toNat 0 → ¬ (0 ≤ x2 ∧ 0 ≤ y2 ∧ 0 ≤ z ∧ x2 + z ≤ B x.toNat 1 ∧ y2 + z ≤ B y.toNat 1) → Q (some (0, -12)) M) (k : (0 ≤ x ∧ x < 4 ∧ 0 ≤ y ∧ y < 4) → ¬ (B x.toNat 0 = -1 ∨ B y.toNat 0 = -1) → B x.toNat 0 = B y.toNat 0 → (0 ≤ x2 ∧ 0 ≤ y2 ∧ 0 ≤ z ∧ x2 + z ≤ B x.toNat 1 ∧ y2 + z ≤ B y.toNat 1) → ∀ M', Rs M' (mcp B x.toNat (2 + x2.toNat) y.toNat (2 + y2.toNat) z.toNat) → Fr VS M M' → SR M' → Q (some (0, z)) M') : Wp l g d 0 0 n m_X7_copy 0 [] [(2, 1), (0, x), (0, x2), (0, y), (0, y2), (0, z), (9, 0), (9, 0)] M Q := by
  refine wp_aload_n dX7_copy_0 rfl rfl ?_
  refine wp_iload_n dX7_copy_1 rfl rfl ?_
  refine wp_callV0 (d' := d - 1) cv_RX7_212 1 rfl [(0, x)] [] rfl rfl (Or.inl ⟨_, _, rfl, by decide, rfl, by omega, by omega⟩) (by omega) (Nat.le_of_ble_eq_true rfl) dX7_copy_2 rfl (Nat.le_of_ble_eq_true rfl) (by omega) (loc1 := [(2, 1), (0, x)]) rfl ?_
  refine sp_sheetOf hn hR x (fun hN2 => ?_) (fun S s hS eS => ?_)
  · refine wp_astore (loc' := [(2, 1), (0, x), (0, x2), (0, y), (0, y2), (0, z), (2, 0), (9, 0)]) dX7_copy_5 (Nat.le_of_ble_eq_true rfl) rfl ?_
    refine wp_aload_n dX7_copy_7 rfl rfl ?_
    refine wp_iload_n dX7_copy_8 rfl rfl ?_
    refine wp_callV0 (d' := d - 1) cv_RX7_212 1 rfl [(0, y)] [] rfl rfl (Or.inl ⟨_, _, rfl, by decide, rfl, by omega, by omega⟩) (by omega) (Nat.le_of_ble_eq_true rfl) dX7_copy_9 rfl (Nat.le_of_ble_eq_true rfl) (by omega) (loc1 := [(2, 1), (0, y)]) rfl ?_
    refine sp_sheetOf hn hR y (fun hN9 => ?_) (fun S2 s2 hS2 eS2 => ?_)
    · refine wp_astore (loc' := [(2, 1), (0, x), (0, x2), (0, y), (0, y2), (0, z), (2, 0), (2, 0)]) dX7_copy_12 (Nat.le_of_ble_eq_true rfl) rfl ?_
      refine wp_aload dX7_copy_14 rfl ?_
      refine wp_ifnull (tgt := 24) dX7_copy_16 (by decide) (fun _ => ?_) (fun h => absurd h (by decide))
      refine wp_bipush dX7_copy_24 (by decide) (by decide) ?_
      refine wp_iret rfl dX7_copy_26 ?_
      exact kB (by omega)
    · subst eS2
      have bS2 := hS2.b
      have g1S2 : M S2 1 = B s2 0 := by have q := (hB s2 hS2.1).1; rw [← hS2.2] at q; exact q
      have g2S2 : M S2 2 = B s2 1 := by have q := (hB s2 hS2.1).2.1; rw [← hS2.2] at q; exact q
      have g3S2 := hV.r hS2.1
      refine wp_astore (loc' := [(2, 1), (0, x), (0, x2), (0, (s2 : Int)), (0, y2), (0, z), (2, 0), (2, (S2 : Int))]) dX7_copy_12 (Nat.le_of_ble_eq_true rfl) rfl ?_
      refine wp_aload dX7_copy_14 rfl ?_
      refine wp_ifnull (tgt := 24) dX7_copy_16 (by decide) (fun _ => ?_) (fun h => absurd h (by decide))
      refine wp_bipush dX7_copy_24 (by decide) (by decide) ?_
      refine wp_iret rfl dX7_copy_26 ?_
      exact kB (by omega)
  · subst eS
    have bS := hS.b
    have g1S : M S 1 = B s 0 := by have q := (hB s hS.1).1; rw [← hS.2] at q; exact q
    have g2S : M S 2 = B s 1 := by have q := (hB s hS.1).2.1; rw [← hS.2] at q; exact q
    have g3S := hV.r hS.1
    refine wp_astore (loc' := [(2, 1), (0, (s : Int)), (0, x2), (0, y), (0, y2), (0, z), (2, (S : Int)), (9, 0)]) dX7_copy_5 (Nat.le_of_ble_eq_true rfl) rfl ?_
    refine wp_aload_n dX7_copy_7 rfl rfl ?_
    refine wp_iload_n dX7_copy_8 rfl rfl ?_
    refine wp_callV0 (d' := d - 1) cv_RX7_212 1 rfl [(0, y)] [] rfl rfl (Or.inl ⟨_, _, rfl, by decide, rfl, by omega, by omega⟩) (by omega) (Nat.le_of_ble_eq_true rfl) dX7_copy_9 rfl (Nat.le_of_ble_eq_true rfl) (by omega) (loc1 := [(2, 1), (0, y)]) rfl ?_
    refine sp_sheetOf hn hR y (fun hN9 => ?_) (fun S2 s2 hS2 eS2 => ?_)
    · refine wp_astore (loc' := [(2, 1), (0, (s : Int)), (0, x2), (0, y), (0, y2), (0, z), (2, (S : Int)), (2, 0)]) dX7_copy_12 (Nat.le_of_ble_eq_true rfl) rfl ?_
      refine wp_aload dX7_copy_14 rfl ?_
      refine wp_ifnull (tgt := 24) dX7_copy_16 (by decide) (fun h => absurd h (by omega)) (fun _ => ?_)
      refine wp_aload dX7_copy_19 rfl ?_
      refine wp_ifnonnull (tgt := 27) dX7_copy_21 (by decide) (fun h => absurd h (by decide)) (fun _ => ?_)
      refine wp_bipush dX7_copy_24 (by decide) (by decide) ?_
      refine wp_iret rfl dX7_copy_26 ?_
      exact kB (by omega)
    · subst eS2
      have bS2 := hS2.b
      have g1S2 : M S2 1 = B s2 0 := by have q := (hB s2 hS2.1).1; rw [← hS2.2] at q; exact q
      have g2S2 : M S2 2 = B s2 1 := by have q := (hB s2 hS2.1).2.1; rw [← hS2.2] at q; exact q
      have g3S2 := hV.r hS2.1
      refine wp_astore (loc' := [(2, 1), (0, (s : Int)), (0, x2), (0, (s2 : Int)), (0, y2), (0, z), (2, (S : Int)), (2, (S2 : Int))]) dX7_copy_12 (Nat.le_of_ble_eq_true rfl) rfl ?_
      refine wp_aload dX7_copy_14 rfl ?_
      refine wp_ifnull (tgt := 24) dX7_copy_16 (by decide) (fun h => absurd h (by omega)) (fun _ => ?_)
      refine wp_aload dX7_copy_19 rfl ?_
      refine wp_ifnonnull (tgt := 27) dX7_copy_21 (by decide) (fun _ => ?_) (fun h => absurd h (by omega))
      refine wp_aload dX7_copy_27 rfl ?_
      refine wp_callV0 (d' := d - 1) cv_RX7_216 S rfl [] [] rfl rfl (Or.inl ⟨_, _, hS.k0, by decide, rfl, by omega, by omega⟩) (by omega) (Nat.le_of_ble_eq_true rfl) dX7_copy_29 rfl (Nat.le_of_ble_eq_true rfl) (by omega) (loc1 := [(2, (S : Int))]) rfl ?_
      refine wp_aload_n dX4_isMissing_0 rfl rfl ?_
      refine wp_get S rfl fl_RX4_13 hS.k0 ⟨by omega, by omega⟩ dX4_isMissing_1 rfl (v := (M S 1)) (rfl) ?_
      refine wp_iconst dX4_isMissing_4 (by decide) ?_
      refine wp_icmp_ne (tgt := 12) dX4_isMissing_5 (by decide) (fun h5 => ?_) (fun h5 => ?_)
      · refine wp_iconst dX4_isMissing_12 (by decide) ?_
        refine wp_zret rfl (by omega) dX4_isMissing_13 ?_
        refine wp_if_ne (tgt := 43) dX7_copy_32 (by decide) (fun h => absurd h (by decide)) (fun _ => ?_)
        refine wp_aload dX7_copy_35 rfl ?_
        refine wp_callV0 (d' := d - 1) cv_RX7_216 S2 rfl [] [] rfl rfl (Or.inl ⟨_, _, hS2.k0, by decide, rfl, by omega, by omega⟩) (by omega) (Nat.le_of_ble_eq_true rfl) dX7_copy_37 rfl (Nat.le_of_ble_eq_true rfl) (by omega) (loc1 := [(2, (S2 : Int))]) rfl ?_
        refine wp_aload_n dX4_isMissing_0 rfl rfl ?_
        refine wp_get S2 rfl fl_RX4_13 hS2.k0 ⟨by omega, by omega⟩ dX4_isMissing_1 rfl (v := (M S2 1)) (rfl) ?_
        refine wp_iconst dX4_isMissing_4 (by decide) ?_
        refine wp_icmp_ne (tgt := 12) dX4_isMissing_5 (by decide) (fun h5 => ?_) (fun h5 => ?_)
        · refine wp_iconst dX4_isMissing_12 (by decide) ?_
          refine wp_zret rfl (by omega) dX4_isMissing_13 ?_
          refine wp_if_eq (tgt := 46) dX7_copy_40 (by decide) (fun _ => ?_) (fun h => absurd h (by decide))
          refine wp_aload dX7_copy_46 rfl ?_
          refine wp_get S rfl fl_RX7_268 hS.k0 ⟨by omega, by omega⟩ dX7_copy_48 rfl (v := (M S 1)) (rfl) ?_
          refine wp_aload dX7_copy_51 rfl ?_
          refine wp_get S2 rfl fl_RX7_268 hS2.k0 ⟨by omega, by omega⟩ dX7_copy_53 rfl (v := (M S2 1)) (rfl) ?_
          refine wp_icmp_eq (tgt := 62) dX7_copy_56 (by decide) (fun h56 => ?_) (fun h56 => ?_)
          · refine wp_aload dX7_copy_62 rfl ?_
            refine wp_iload_n dX7_copy_64 rfl rfl ?_
            refine wp_iload dX7_copy_65 rfl ?_
            refine wp_callV0 (d' := d - 1) cv_RX7_271 S rfl [(0, x2), (0, z)] [] rfl rfl (Or.inl ⟨_, _, hS.k0, by decide, rfl, by omega, by omega⟩) (by omega) (Nat.le_of_ble_eq_true rfl) dX7_copy_67 rfl (Nat.le_of_ble_eq_true rfl) (by omega) (loc1 := [(2, (S : Int)), (0, x2), (0, z)]) rfl ?_
            refine sp_hasS hS hn hR (by omega) x2 z (fun h67 => ?_) (fun h67 => ?_)
            · refine wp_if_eq (tgt := 85) dX7_copy_70 (by decide) (fun h => absurd h (by decide)) (fun _ => ?_)
              refine wp_aload dX7_copy_73 rfl ?_
              refine wp_iload dX7_copy_75 rfl ?_
              refine wp_iload dX7_copy_77 rfl ?_
              refine wp_callV0 (d' := d - 1) cv_RX7_271 S2 rfl [(0, y2), (0, z)] [] rfl rfl (Or.inl ⟨_, _, hS2.k0, by decide, rfl, by omega, by omega⟩) (by omega) (Nat.le_of_ble_eq_true rfl) dX7_copy_79 rfl (Nat.le_of_ble_eq_true rfl) (by omega) (loc1 := [(2, (S2 : Int)), (0, y2), (0, z)]) rfl ?_
              refine sp_hasS hS2 hn hR (by omega) y2 z (fun h79 => ?_) (fun h79 => ?_)
              · refine wp_if_ne (tgt := 88) dX7_copy_82 (by decide) (fun _ => ?_) (fun h => absurd h (by decide))
                refine wp_aload dX7_copy_88 rfl ?_
                refine wp_iload_n dX7_copy_90 rfl rfl ?_
                refine wp_aload dX7_copy_91 rfl ?_
                refine wp_iload dX7_copy_93 rfl ?_
                refine wp_iload dX7_copy_95 rfl ?_
                refine wp_callV0 (d' := d - 1) cv_RX7_275 S rfl [(0, x2), (2, (S2 : Int)), (0, y2), (0, z)] [] rfl rfl (Or.inl ⟨_, _, hS.k0, by decide, rfl, by omega, by omega⟩) (by omega) (Nat.le_of_ble_eq_true rfl) dX7_copy_97 rfl (Nat.le_of_ble_eq_true rfl) (by omega) (loc1 := [(2, (S : Int)), (0, x2), (2, (S2 : Int)), (0, y2), (0, z)]) rfl ?_
                refine sp_carryS hS hS2 hn hR (by omega) (by omega) (by omega) x2 y2 z (by omega) (by omega) ?_
                refine wp_iload dX7_copy_100 rfl ?_
                refine wp_iret rfl dX7_copy_102 ?_
                have f1 : Fr (VQ S2) M (mcp M (S + 1) x2.toNat (S2 + 1) y2.toNat z.toNat) := fun i j h => if_neg (fun e => h (Or.inl e))
                exact k (by omega) (by show ¬ (B s 0 = -1 ∨ B s2 0 = -1); omega) (by show B s 0 = B s2 0; omega) (by show (0 ≤ x2 ∧ 0 ≤ y2 ∧ 0 ≤ z ∧ x2 + z ≤ B s 1 ∧ y2 + z ≤ B s2 1); omega) _ (hB.copy hS hS2 (by omega)) (f1.mono (VQ.s hS2)) (VQ.sr hS2 f1 hR)
              · refine wp_if_ne (tgt := 88) dX7_copy_82 (by decide) (fun h => absurd h (by decide)) (fun _ => ?_)
                refine wp_bipush dX7_copy_85 (by decide) (by decide) ?_
                refine wp_iret rfl dX7_copy_87 ?_
                exact kO (by omega) (by show ¬ (B s 0 = -1 ∨ B s2 0 = -1); omega) (by show B s 0 = B s2 0; omega) (by show ¬ (0 ≤ x2 ∧ 0 ≤ y2 ∧ 0 ≤ z ∧ x2 + z ≤ B s 1 ∧ y2 + z ≤ B s2 1); omega)
            · refine wp_if_eq (tgt := 85) dX7_copy_70 (by decide) (fun _ => ?_) (fun h => absurd h (by decide))
              refine wp_bipush dX7_copy_85 (by decide) (by decide) ?_
              refine wp_iret rfl dX7_copy_87 ?_
              exact kO (by omega) (by show ¬ (B s 0 = -1 ∨ B s2 0 = -1); omega) (by show B s 0 = B s2 0; omega) (by show ¬ (0 ≤ x2 ∧ 0 ≤ y2 ∧ 0 ≤ z ∧ x2 + z ≤ B s 1 ∧ y2 + z ≤ B s2 1); omega)
          · refine wp_bipush dX7_copy_59 (by decide) (by decide) ?_
            refine wp_iret rfl dX7_copy_61 ?_
            exact kU (by omega) (by show ¬ (B s 0 = -1 ∨ B s2 0 = -1); omega) (by show B s 0 ≠ B s2 0; omega)
        · refine wp_iconst dX4_isMissing_8 (by decide) ?_
          refine wp_goto (tgt := 13) dX4_isMissing_9 (by decide) ?_
          refine wp_zret rfl (by omega) dX4_isMissing_13 ?_
          refine wp_if_eq (tgt := 46) dX7_copy_40 (by decide) (fun h => absurd h (by decide)) (fun _ => ?_)
          refine wp_bipush dX7_copy_43 (by decide) (by decide) ?_
          refine wp_iret rfl dX7_copy_45 ?_
          exact kN (by omega) (by show B s 0 = -1 ∨ B s2 0 = -1; omega)
      · refine wp_iconst dX4_isMissing_8 (by decide) ?_
        refine wp_goto (tgt := 13) dX4_isMissing_9 (by decide) ?_
        refine wp_zret rfl (by omega) dX4_isMissing_13 ?_
        refine wp_if_ne (tgt := 43) dX7_copy_32 (by decide) (fun _ => ?_) (fun h => absurd h (by decide))
        refine wp_bipush dX7_copy_43 (by decide) (by decide) ?_
        refine wp_iret rfl dX7_copy_45 ?_
        exact kN (by omega) (by show B s 0 = -1 ∨ B s2 0 = -1; omega)
