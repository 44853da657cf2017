/-! ===== what might be, so that all would be as told ===== -/
def lyA (A : Ls) (w o v : Int) : Ls := if w = 5 then setS A 1 v else setA A (if w = 1 then 0 else if w = 2 then 1 else 4) o.toNat v
def fitF (E : Ev) (f : Nat → Int) (N : Nat) (A : Ls) (w o : Int) (v : Nat) : Bool := decide (ftA E f N 0 (lyA A w o (v : Int)) = -1)
def hmA (x w : Int) : Nat := if w = 1 then 6 else if w = 2 then 10 else if w = 5 then x.toNat else 41
theorem Wf.sSet {A : Ls} (h : Wf A) (v : Int) : Wf (setS A 1 v) := by
  obtain ⟨w0, w1, w2, w3, w4, w5, w6⟩ := h
  exact ⟨w0, w1, w2, w3, w4, w5, w6⟩
theorem Wf.aSet {A : Ls} (h : Wf A) {r i : Nat} {v : Int} (hr : r < 5) (hv : r = 0 → 0 ≤ v ∧ v ≤ 5) : Wf (setA A r i v) := by
  obtain ⟨w0, w1, w2, w3, w4, w5, w6⟩ := h
  have e5 : ∀ q, (setA A r i v).2 5 q = A.2 5 q := fun q => mu_ne _ _ _ (by omega) _
  refine ⟨w0, w1, w2, w3, fun q hq => by rw [e5]; exact w4 q hq, fun q q2 a hq => by rw [e5, e5]; exact w5 q q2 a hq, fun j hj => ?_⟩
  show 0 ≤ mu A.2 r i v 0 j ∧ mu A.2 r i v 0 j ≤ 5
  by_cases c : r = 0
  · subst c
    by_cases c2 : j = i
    · subst c2; rw [mu_self]; exact hv rfl
    · rw [mu_nj _ _ _ c2]; exact w6 j hj
  · rw [mu_ne _ _ _ (fun e => c e.symm)]; exact w6 j hj
theorem TJ.sSet {M : Mm} {A : Ls} {E : Ev} (h : TJ M A E) {v : Int} (hv : 0 ≤ v ∧ v < M 25 1) : TJ (mu M 16 1 v) (setS A 1 v) E := by
  obtain ⟨h1, h2, h3, h4, h5, h6⟩ := h
  have f : Fr VN M (mu M 16 1 v) := Fr.rf.put (Or.inl (Or.inl (by omega)))
  refine ⟨SR.upd (by decide) h1, h2.frN f, h3.setS (by omega), h4.sSet v, ?_, (evC_frN f).trans h6⟩
  rw [f 25 1 (by unfold VN VX; omega)]
  exact hv
theorem TJ.aSet {M : Mm} {A : Ls} {E : Ev} (h : TJ M A E) {r i : Nat} {v : Int} (hr : r = 0 ∨ r = 1 ∨ r = 4) (hv : r = 0 → 0 ≤ v ∧ v ≤ 5) : TJ (mu M (17 + r) i v) (setA A r i v) E := by
  obtain ⟨h1, h2, h3, h4, h5, h6⟩ := h
  have f : Fr VN M (mu M (17 + r) i v) := Fr.rf.put (Or.inl (Or.inl (by omega)))
  refine ⟨SR.row (by rcases hr with rfl | rfl | rfl <;> decide) h1, h2.frN f, ?_, h4.aSet (by omega) hv, ?_, (evC_frN f).trans h6⟩
  · have := h3.setA (r := r) (i := i) (v := v) (by omega)
    rw [show 16 + 1 + r = 17 + r by omega] at this
    exact this
  · rw [f 25 1 (by unfold VN VX; omega)]
    exact h5
theorem CJ.fr {M M' : Mm} {A : Ls} {V : Nat → Nat → Prop} (h : CJ M A) (f : Fr V M M') (hR : SR M') (hv : ∀ i j, V i j → VN i j ∧ ¬ ((i = 2 ∧ j < 4) ∨ (2 < i ∧ i ≤ 8))) : CJ M' A := by
  obtain ⟨h1, h2, h3, h4, h5, h6⟩ := h
  have fn := f.mono (fun i j v => (hv i j v).1)
  refine ⟨hR, h2.frN fn, h3.frV f (fun i j v => (hv i j v).2), h4, h5, ?_⟩
  rw [fn 25 1 (by unfold VN VX; omega)]
  exact h6
theorem VW.c : ∀ i j, VW i j → VN i j ∧ ¬ ((i = 2 ∧ j < 4) ∨ (2 < i ∧ i ≤ 8)) := by
  intro i j h
  refine ⟨VW.n i j h, ?_⟩
  unfold VW VX at h
  omega
theorem VW.q : ∀ i j, VW i j → ¬ VS i j := by
  intro i j h
  unfold VW VX at h
  unfold VS
  omega
theorem bsum_hit {f : Nat → Bool} : ∀ h : Nat, ((∀ v, v < h → f v = false) ∧ bsum f h = 0) ∨ ∃ t k, t < h ∧ f t = true ∧ (∀ v, v < t → f v = false) ∧ bsum f h = 2 ^ t * (2 * k + 1)
  | 0 => Or.inl ⟨fun v hv => by omega, rfl⟩
  | h + 1 => by
    rcases bsum_hit h with ⟨a, e⟩ | ⟨t, k, ht, hf, a, e⟩
    · by_cases c : f h = true
      · refine Or.inr ⟨h, 0, by omega, c, a, ?_⟩
        show bsum f h + (if f h = true then 2 ^ h else 0) = _
        rw [if_pos c, e]
        omega
      · refine Or.inl ⟨fun v hv => ?_, ?_⟩
        · by_cases c2 : v = h
          · subst c2; exact Bool.eq_false_iff.mpr c
          · exact a v (by omega)
        · show bsum f h + (if f h = true then 2 ^ h else 0) = _
          rw [if_neg c, e]
    · by_cases c : f h = true
      · obtain ⟨r, rfl⟩ : ∃ r, h = t + 1 + r := ⟨h - t - 1, by omega⟩
        refine Or.inr ⟨t, k + 2 ^ r, by omega, hf, a, ?_⟩
        show bsum f (t + 1 + r) + (if f (t + 1 + r) = true then 2 ^ (t + 1 + r) else 0) = _
        rw [if_pos c, e, Nat.pow_add, Nat.pow_succ, Nat.mul_assoc (2 ^ t) 2, ← Nat.mul_add]
        congr 1
        omega
      · refine Or.inr ⟨t, k, by omega, hf, a, ?_⟩
        show bsum f h + (if f h = true then 2 ^ h else 0) = _
        rw [if_neg c, e]
        rfl
theorem lst_at {f : Nat → Bool} {t : Nat} (hf : f t = true) : ∀ m p : Nat, p ≤ t → t < p + m → (∀ v, p ≤ v → v < t → f v = false) → lstF f m p = (t : Int)
  | 0, p, h1, h2, _ => by omega
  | m + 1, p, h1, h2, a => by
    unfold lstF
    by_cases c : p = t
    · subst c; rw [if_pos hf]
    · rw [if_neg (by rw [a p (by omega) (by omega)]; decide)]
      exact lst_at hf m (p + 1) (by omega) (by omega) (fun v x y => a v (by omega) y)
theorem lst_no {f : Nat → Bool} : ∀ m p : Nat, (∀ v, p ≤ v → v < p + m → f v = false) → lstF f m p = -1
  | 0, p, _ => rfl
  | m + 1, p, a => by
    unfold lstF
    rw [if_neg (by rw [a p (by omega) (by omega)]; decide)]
    exact lst_no m (p + 1) (fun v x y => a v (by omega) (by omega))
set_option maxRecDepth 20000 in
set_option maxHeartbeats 4000000 in
theorem sp_howMany {l : Launch} {g : Gw} {d n : Nat} {M : Mm} {Q : Option Wd → Mm → Prop} (hn : 60 ≤ n) (hR : SR M) (w : Int) (hx : 1 ≤ w ∧ w ≤ 5 ∧ 0 ≤ M 25 1) (k : Q (some (0, (hmA (M 25 1) w : Int))) M) : Wp l g d 0 0 n m_X7_howMany 0 [] [(2, 1), (0, w)] M Q := by
  refine wp_iload_n dX7_howMany_0 rfl rfl ?_
  by_cases h1_0 : w = 1
  · refine wp_tabIn dX7_howMany_1 0 (by omega) (by decide) rfl (tgt := 36) (by decide) ?_
    refine wp_bipush dX7_howMany_36 (by decide) (by decide) ?_
    refine wp_iret rfl dX7_howMany_38 ?_
    rw [show 6 = (hmA (M 25 1) w : Int) by unfold hmA; rw [if_pos (by omega)]; rfl]
    exact k
  by_cases h1_1 : w = 2
  · refine wp_tabIn dX7_howMany_1 1 (by omega) (by decide) rfl (tgt := 39) (by decide) ?_
    refine wp_bipush dX7_howMany_39 (by decide) (by decide) ?_
    refine wp_iret rfl dX7_howMany_41 ?_
    rw [show 10 = (hmA (M 25 1) w : Int) by unfold hmA; rw [if_neg (by omega), if_pos (by omega)]; rfl]
    exact k
  by_cases h1_2 : w = 3
  · refine wp_tabIn dX7_howMany_1 2 (by omega) (by decide) rfl (tgt := 50) (by decide) ?_
    refine wp_bipush dX7_howMany_50 (by decide) (by decide) ?_
    refine wp_iret rfl dX7_howMany_52 ?_
    rw [show 41 = (hmA (M 25 1) w : Int) by unfold hmA; rw [if_neg (by omega), if_neg (by omega), if_neg (by omega)]; rfl]
    exact k
  by_cases h1_3 : w = 4
  · refine wp_tabIn dX7_howMany_1 3 (by omega) (by decide) rfl (tgt := 50) (by decide) ?_
    refine wp_bipush dX7_howMany_50 (by decide) (by decide) ?_
    refine wp_iret rfl dX7_howMany_52 ?_
    rw [show 41 = (hmA (M 25 1) w : Int) by unfold hmA; rw [if_neg (by omega), if_neg (by omega), if_neg (by omega)]; rfl]
    exact k
  by_cases h1_4 : w = 5
  · refine wp_tabIn dX7_howMany_1 4 (by omega) (by decide) rfl (tgt := 42) (by decide) ?_
    refine wp_aload_n dX7_howMany_42 rfl rfl ?_
    refine wp_get 1 rfl fl_RX7_32 rfl ⟨by omega, by omega⟩ dX7_howMany_43 rfl (v := 25) (sr_1_5 (M := M) hR) ?_
    refine wp_get 25 rfl fl_RX7_243 rfl ⟨by omega, by omega⟩ dX7_howMany_46 rfl (v := (M 25 1)) (rfl) ?_
    refine wp_iret rfl dX7_howMany_49 ?_
    rw [show (M 25 1) = (hmA (M 25 1) w : Int) by unfold hmA; rw [if_neg (by omega), if_neg (by omega), if_pos (by omega)]; omega]
    exact k
  refine wp_tabOut dX7_howMany_1 (by omega) (tgt := 50) (by decide) ?_
  refine wp_bipush dX7_howMany_50 (by decide) (by decide) ?_
  refine wp_iret rfl dX7_howMany_52 ?_
  rw [show 41 = (hmA (M 25 1) w : Int) by unfold hmA; rw [if_neg (by omega), if_neg (by omega), if_neg (by omega)]; rfl]
  exact k
set_option maxRecDepth 20000 in
set_option maxHeartbeats 4000000 in
theorem lp_fit  {l : Launch} {g : Gw} {d n : Nat} {E : Ev} {S s : Nat} (hS : isS S s) (hn : 90 ≤ n) (hd : 10 ≤ d) {A : Ls} {B : Mm} (hV : Ws B) {w o : Int} (hw : 1 ≤ w ∧ w ≤ 5) (ho : 0 ≤ o ∧ o < A.1 2) {H : Nat} : ∀ (m p : Nat) (M : Mm) (wd : Wd) (Q : Option Wd → Mm → Prop), hmA (M 25 1) w = H → p + m = H → CJ M A → Rs M B → evC M = E → (1 ≤ M 25 1 ∧ M 25 1 ≤ 6) → (∀ M', Fr VW M M' → SR M' → Q (some (1, ((bsum (fitF E (fun i => B s (2 + i)) (B s 1).toNat A w o) H : Nat) : Int))) M') → Wp l g d 0 0 n m_X7_fitting 6 [] [(2, 1), (2, (S : Int)), (0, o), (0, w), (1, ((bsum (fitF E (fun i => B s (2 + i)) (B s 1).toNat A w o) p : Nat) : Int)), (9, 0), (0, (p : Int)), wd] M Q := by
  have hb := hS.b
  intro m
  induction m with
  | zero =>
    intro p M wd Q hm2 hp hI hB hE h25 k
    have hR := hI.1
    refine wp_iload dX7_fitting_6 rfl ?_
    refine wp_aload_n dX7_fitting_8 rfl rfl ?_
    refine wp_iload_n dX7_fitting_9 rfl rfl ?_
    refine wp_callV0 (d' := d - 1) cv_RX7_237 1 rfl [(0, w)] [(0, (p : Int))] rfl rfl (Or.inl ⟨_, _, rfl, by decide, rfl, by omega, by omega⟩) (by omega) (Nat.le_of_ble_eq_true rfl) dX7_fitting_10 rfl (Nat.le_of_ble_eq_true rfl) (by omega) (loc1 := [(2, 1), (0, w)]) rfl ?_
    refine sp_howMany (by omega) hR w (by omega) ?_
    refine wp_icmp_ge (tgt := 124) dX7_fitting_13 (by decide) (fun _ => ?_) (fun h => absurd h (by omega))
    refine wp_lload dX7_fitting_124 rfl ?_
    refine wp_lret rfl dX7_fitting_126 ?_
    rw [show p = H by omega]
    exact k M Fr.rf hR
  | succ m ih =>
    intro p M wd Q hm2 hp hI hB hE h25 k
    have hR := hI.1
    have ha2 := hI.2.2.1.2.2.1
    have hw1 := hI.2.2.2.1.2.1
    have hh : hmA (M 25 1) w ≤ 41 ∧ (w = 1 → hmA (M 25 1) w = 6) ∧ (w = 5 → (hmA (M 25 1) w : Int) = M 25 1) := by unfold hmA; (repeat' split) <;> omega
    refine wp_iload dX7_fitting_6 rfl ?_
    refine wp_aload_n dX7_fitting_8 rfl rfl ?_
    refine wp_iload_n dX7_fitting_9 rfl rfl ?_
    refine wp_callV0 (d' := d - 1) cv_RX7_237 1 rfl [(0, w)] [(0, (p : Int))] rfl rfl (Or.inl ⟨_, _, rfl, by decide, rfl, by omega, by omega⟩) (by omega) (Nat.le_of_ble_eq_true rfl) dX7_fitting_10 rfl (Nat.le_of_ble_eq_true rfl) (by omega) (loc1 := [(2, 1), (0, w)]) rfl ?_
    refine sp_howMany (by omega) hR w (by omega) ?_
    refine wp_icmp_ge (tgt := 124) dX7_fitting_13 (by decide) (fun h => absurd h (by omega)) (fun _ => ?_)
    refine wp_aload_n dX7_fitting_16 rfl rfl ?_
    refine wp_get 1 rfl fl_RX7_19 rfl ⟨by omega, by omega⟩ dX7_fitting_17 rfl (v := 16) (sr_1_2 (M := M) hR) ?_
    refine wp_aload_n dX7_fitting_20 rfl rfl ?_
    refine wp_get 1 rfl fl_RX7_10 rfl ⟨by omega, by omega⟩ dX7_fitting_21 rfl (v := 2) (sr_1_0 (M := M) hR) ?_
    refine wp_callV0 (d' := d - 1) cv_RX7_203 16 rfl [(2, 2)] [] rfl rfl (Or.inl ⟨_, _, rfl, by decide, rfl, by omega, by omega⟩) (by omega) (Nat.le_of_ble_eq_true rfl) dX7_fitting_24 rfl (Nat.le_of_ble_eq_true rfl) (by omega) (loc1 := [(2, 16), (2, 2), (9, 0)]) rfl ?_
    refine sp_become_16_2 (by omega) hR ?_
    have hT := TJ.bec hI
    rw [hE] at hT
    have hRb := hT.1
    have hFb := (becF_16_2 M).mono VW.b
    have b25 : becM_16_2 M 25 1 = M 25 1 := hFb 25 1 (by unfold VW VX; omega)
    have b162 : becM_16_2 M 16 2 = M 2 2 := rfl
    refine wp_iload_n dX7_fitting_27 rfl rfl ?_
    refine wp_iconst dX7_fitting_28 (by decide) ?_
    refine wp_icmp_ne (tgt := 44) dX7_fitting_29 (by decide) (fun h29 => ?_) (fun h29 => ?_)
    · refine wp_aload_n dX7_fitting_44 rfl rfl ?_
      refine wp_get 1 rfl fl_RX7_19 rfl ⟨by omega, by omega⟩ dX7_fitting_45 rfl (v := 16) (sr_1_2 (M := (becM_16_2 M)) hRb) ?_
      refine wp_iload_n dX7_fitting_48 rfl rfl ?_
      refine wp_callV0 (d' := d - 1) cv_RX7_87 16 rfl [(0, o)] [] rfl rfl (Or.inl ⟨_, _, rfl, by decide, rfl, by omega, by omega⟩) (by omega) (Nat.le_of_ble_eq_true rfl) dX7_fitting_49 rfl (Nat.le_of_ble_eq_true rfl) (by omega) (loc1 := [(2, 16), (0, o)]) rfl ?_
      refine sp_has_16 (by omega) o (fun _ => ?_) (fun h => absurd (by omega) h)
      refine wp_if_eq (tgt := 100) dX7_fitting_52 (by decide) (fun h => absurd h (by decide)) (fun _ => ?_)
      refine wp_iload_n dX7_fitting_55 rfl rfl ?_
      refine wp_iconst dX7_fitting_56 (by decide) ?_
      refine wp_icmp_ne (tgt := 70) dX7_fitting_57 (by decide) (fun h57 => ?_) (fun h57 => ?_)
      · refine wp_iload_n dX7_fitting_70 rfl rfl ?_
        refine wp_iconst dX7_fitting_71 (by decide) ?_
        refine wp_icmp_ne (tgt := 85) dX7_fitting_72 (by decide) (fun h72 => ?_) (fun h72 => ?_)
        · refine wp_aload_n dX7_fitting_85 rfl rfl ?_
          refine wp_get 1 rfl fl_RX7_19 rfl ⟨by omega, by omega⟩ dX7_fitting_86 rfl (v := 16) (sr_1_2 (M := (becM_16_2 M)) hRb) ?_
          refine wp_get 16 rfl fl_RX7_160 rfl ⟨by omega, by omega⟩ dX7_fitting_89 rfl (v := 21) (sr_16_8 (M := (becM_16_2 M)) hRb) ?_
          refine wp_astore (loc' := [(2, 1), (2, (S : Int)), (0, o), (0, w), (1, ((bsum (fitF E (fun i => B s (2 + i)) (B s 1).toNat A w o) p : Nat) : Int)), (9, 0), (0, (p : Int)), (2, 21)]) dX7_fitting_92 (Nat.le_of_ble_eq_true rfl) rfl ?_
          refine wp_aload dX7_fitting_94 rfl ?_
          refine wp_iload_n dX7_fitting_96 rfl rfl ?_
          refine wp_iload dX7_fitting_97 rfl ?_
          refine wp_iast 21 rfl rfl ⟨by omega, by omega⟩ ⟨by omega, by omega⟩ dX7_fitting_99 (jn := (o).toNat) rfl ?_
          refine wp_aload_n dX7_fitting_100 rfl rfl ?_
          refine wp_aload_n dX7_fitting_101 rfl rfl ?_
          refine wp_callV0 (d' := d - 1) cv_RX7_220 1 rfl [(2, (S : Int))] [] rfl rfl (Or.inl ⟨_, _, rfl, by decide, rfl, by omega, by omega⟩) (by omega) (Nat.le_of_ble_eq_true rfl) dX7_fitting_102 rfl (Nat.le_of_ble_eq_true rfl) (by omega) (loc1 := [(2, 1), (2, (S : Int)), (9, 0)]) rfl ?_
          have hTs := hT.aSet (r := 4) (i := o.toNat) (v := (p : Int)) (by decide) (by omega)
          have f1 : Fr VW M (mu (becM_16_2 M) 21 (o).toNat (p : Int)) := hFb.put (Or.inr (Or.inr ⟨by decide, by decide⟩))
          rw [← show lyA A w o (p : Int) = setA A 4 o.toNat (p : Int) from (if_neg (by omega)).trans (by rw [if_neg (by omega), if_neg (by omega)])] at hTs
          refine sp_fo hS hn (by omega) hTs (hB.fr f1 VW.q) hV (fun M1 hF1 hR1 => ?_)
          have hF2 := f1.tr hF1
          have hI1 := hI.fr hF2 hR1 VW.c
          have hB1 := hB.fr hF2 VW.q
          have hE1 : evC M1 = E := (evC_frN (hF2.mono VW.n)).trans hE
          have g25 : M1 25 1 = M 25 1 := hF2 25 1 (by unfold VW VX; omega)
          refine wp_iconst dX7_fitting_105 (by decide) ?_
          refine wp_icmp_ne (tgt := 118) dX7_fitting_106 (by decide) (fun h106 => ?_) (fun h106 => ?_)
          · refine wp_iinc (loc' := [(2, 1), (2, (S : Int)), (0, o), (0, w), (1, ((bsum (fitF E (fun i => B s (2 + i)) (B s 1).toNat A w o) p : Nat) : Int)), (9, 0), (0, ((p : Int) + 1)), (2, 21)]) dX7_fitting_118 rfl (by omega) rfl ?_
            refine wp_goto (tgt := 6) dX7_fitting_121 (by decide) ?_
            rw [show bsum (fitF E (fun i => B s (2 + i)) (B s 1).toNat A w o) p = bsum (fitF E (fun i => B s (2 + i)) (B s 1).toNat A w o) (p + 1) by show _ = bsum (fitF E (fun i => B s (2 + i)) (B s 1).toNat A w o) p + (if _ then _ else _); rw [if_neg (show ¬ (fitF E (fun i => B s (2 + i)) (B s 1).toNat A w o) p = true from fun z => h106 (of_decide_eq_true z)), Nat.add_zero]]
            exact ih (p + 1) M1 _ Q (by rw [g25]; exact hm2) (by omega) hI1 hB1 hE1 (by rw [g25]; exact h25) (fun M2 a1 a2 => k M2 (hF2.tr a1) a2)
          · refine wp_lload dX7_fitting_109 rfl ?_
            refine wp_lconst (v := 1) dX7_fitting_111 (by decide) (by decide) ?_
            refine wp_iload dX7_fitting_112 rfl ?_
            refine wp_lshl dX7_fitting_114 ?_
            refine wp_lor dX7_fitting_115 ?_
            refine wp_lstore (loc' := [(2, 1), (2, (S : Int)), (0, o), (0, w), (1, (lor' ((bsum (fitF E (fun i => B s (2 + i)) (B s 1).toNat A w o) p : Nat) : Int) (lsl' 1 (p : Int)))), (9, 0), (0, (p : Int)), (2, 21)]) dX7_fitting_116 (Nat.le_of_ble_eq_true rfl) rfl ?_
            refine wp_iinc (loc' := [(2, 1), (2, (S : Int)), (0, o), (0, w), (1, (lor' ((bsum (fitF E (fun i => B s (2 + i)) (B s 1).toNat A w o) p : Nat) : Int) (lsl' 1 (p : Int)))), (9, 0), (0, ((p : Int) + 1)), (2, 21)]) dX7_fitting_118 rfl (by omega) rfl ?_
            refine wp_goto (tgt := 6) dX7_fitting_121 (by decide) ?_
            rw [lor_bit (v := p) (by omega) (bsum_lt _ p)]
            rw [show bsum (fitF E (fun i => B s (2 + i)) (B s 1).toNat A w o) p + 2 ^ p = bsum (fitF E (fun i => B s (2 + i)) (B s 1).toNat A w o) (p + 1) by show _ = bsum (fitF E (fun i => B s (2 + i)) (B s 1).toNat A w o) p + (if _ then _ else _); rw [if_pos (show (fitF E (fun i => B s (2 + i)) (B s 1).toNat A w o) p = true from decide_eq_true h106)]]
            exact ih (p + 1) M1 _ Q (by rw [g25]; exact hm2) (by omega) hI1 hB1 hE1 (by rw [g25]; exact h25) (fun M2 a1 a2 => k M2 (hF2.tr a1) a2)
        · refine wp_aload_n dX7_fitting_75 rfl rfl ?_
          refine wp_get 1 rfl fl_RX7_19 rfl ⟨by omega, by omega⟩ dX7_fitting_76 rfl (v := 16) (sr_1_2 (M := (becM_16_2 M)) hRb) ?_
          refine wp_get 16 rfl fl_RX7_240 rfl ⟨by omega, by omega⟩ dX7_fitting_79 rfl (v := 18) (sr_16_5 (M := (becM_16_2 M)) hRb) ?_
          refine wp_goto (tgt := 92) dX7_fitting_82 (by decide) ?_
          refine wp_astore (loc' := [(2, 1), (2, (S : Int)), (0, o), (0, w), (1, ((bsum (fitF E (fun i => B s (2 + i)) (B s 1).toNat A w o) p : Nat) : Int)), (9, 0), (0, (p : Int)), (2, 18)]) dX7_fitting_92 (Nat.le_of_ble_eq_true rfl) rfl ?_
          refine wp_aload dX7_fitting_94 rfl ?_
          refine wp_iload_n dX7_fitting_96 rfl rfl ?_
          refine wp_iload dX7_fitting_97 rfl ?_
          refine wp_iast 18 rfl rfl ⟨by omega, by omega⟩ ⟨by omega, by omega⟩ dX7_fitting_99 (jn := (o).toNat) rfl ?_
          refine wp_aload_n dX7_fitting_100 rfl rfl ?_
          refine wp_aload_n dX7_fitting_101 rfl rfl ?_
          refine wp_callV0 (d' := d - 1) cv_RX7_220 1 rfl [(2, (S : Int))] [] rfl rfl (Or.inl ⟨_, _, rfl, by decide, rfl, by omega, by omega⟩) (by omega) (Nat.le_of_ble_eq_true rfl) dX7_fitting_102 rfl (Nat.le_of_ble_eq_true rfl) (by omega) (loc1 := [(2, 1), (2, (S : Int)), (9, 0)]) rfl ?_
          have hTs := hT.aSet (r := 1) (i := o.toNat) (v := (p : Int)) (by decide) (by omega)
          have f1 : Fr VW M (mu (becM_16_2 M) 18 (o).toNat (p : Int)) := hFb.put (Or.inr (Or.inr ⟨by decide, by decide⟩))
          rw [← show lyA A w o (p : Int) = setA A 1 o.toNat (p : Int) from (if_neg (by omega)).trans (by rw [if_neg (by omega), if_pos (by omega)])] at hTs
          refine sp_fo hS hn (by omega) hTs (hB.fr f1 VW.q) hV (fun M1 hF1 hR1 => ?_)
          have hF2 := f1.tr hF1
          have hI1 := hI.fr hF2 hR1 VW.c
          have hB1 := hB.fr hF2 VW.q
          have hE1 : evC M1 = E := (evC_frN (hF2.mono VW.n)).trans hE
          have g25 : M1 25 1 = M 25 1 := hF2 25 1 (by unfold VW VX; omega)
          refine wp_iconst dX7_fitting_105 (by decide) ?_
          refine wp_icmp_ne (tgt := 118) dX7_fitting_106 (by decide) (fun h106 => ?_) (fun h106 => ?_)
          · refine wp_iinc (loc' := [(2, 1), (2, (S : Int)), (0, o), (0, w), (1, ((bsum (fitF E (fun i => B s (2 + i)) (B s 1).toNat A w o) p : Nat) : Int)), (9, 0), (0, ((p : Int) + 1)), (2, 18)]) dX7_fitting_118 rfl (by omega) rfl ?_
            refine wp_goto (tgt := 6) dX7_fitting_121 (by decide) ?_
            rw [show bsum (fitF E (fun i => B s (2 + i)) (B s 1).toNat A w o) p = bsum (fitF E (fun i => B s (2 + i)) (B s 1).toNat A w o) (p + 1) by show _ = bsum (fitF E (fun i => B s (2 + i)) (B s 1).toNat A w o) p + (if _ then _ else _); rw [if_neg (show ¬ (fitF E (fun i => B s (2 + i)) (B s 1).toNat A w o) p = true from fun z => h106 (of_decide_eq_true z)), Nat.add_zero]]
            exact ih (p + 1) M1 _ Q (by rw [g25]; exact hm2) (by omega) hI1 hB1 hE1 (by rw [g25]; exact h25) (fun M2 a1 a2 => k M2 (hF2.tr a1) a2)
          · refine wp_lload dX7_fitting_109 rfl ?_
            refine wp_lconst (v := 1) dX7_fitting_111 (by decide) (by decide) ?_
            refine wp_iload dX7_fitting_112 rfl ?_
            refine wp_lshl dX7_fitting_114 ?_
            refine wp_lor dX7_fitting_115 ?_
            refine wp_lstore (loc' := [(2, 1), (2, (S : Int)), (0, o), (0, w), (1, (lor' ((bsum (fitF E (fun i => B s (2 + i)) (B s 1).toNat A w o) p : Nat) : Int) (lsl' 1 (p : Int)))), (9, 0), (0, (p : Int)), (2, 18)]) dX7_fitting_116 (Nat.le_of_ble_eq_true rfl) rfl ?_
            refine wp_iinc (loc' := [(2, 1), (2, (S : Int)), (0, o), (0, w), (1, (lor' ((bsum (fitF E (fun i => B s (2 + i)) (B s 1).toNat A w o) p : Nat) : Int) (lsl' 1 (p : Int)))), (9, 0), (0, ((p : Int) + 1)), (2, 18)]) dX7_fitting_118 rfl (by omega) rfl ?_
            refine wp_goto (tgt := 6) dX7_fitting_121 (by decide) ?_
            rw [lor_bit (v := p) (by omega) (bsum_lt _ p)]
            rw [show bsum (fitF E (fun i => B s (2 + i)) (B s 1).toNat A w o) p + 2 ^ p = bsum (fitF E (fun i => B s (2 + i)) (B s 1).toNat A w o) (p + 1) by show _ = bsum (fitF E (fun i => B s (2 + i)) (B s 1).toNat A w o) p + (if _ then _ else _); rw [if_pos (show (fitF E (fun i => B s (2 + i)) (B s 1).toNat A w o) p = true from decide_eq_true h106)]]
            exact ih (p + 1) M1 _ Q (by rw [g25]; exact hm2) (by omega) hI1 hB1 hE1 (by rw [g25]; exact h25) (fun M2 a1 a2 => k M2 (hF2.tr a1) a2)
      · refine wp_aload_n dX7_fitting_60 rfl rfl ?_
        refine wp_get 1 rfl fl_RX7_19 rfl ⟨by omega, by omega⟩ dX7_fitting_61 rfl (v := 16) (sr_1_2 (M := (becM_16_2 M)) hRb) ?_
        refine wp_get 16 rfl fl_RX7_107 rfl ⟨by omega, by omega⟩ dX7_fitting_64 rfl (v := 17) (sr_16_4 (M := (becM_16_2 M)) hRb) ?_
        refine wp_goto (tgt := 92) dX7_fitting_67 (by decide) ?_
        refine wp_astore (loc' := [(2, 1), (2, (S : Int)), (0, o), (0, w), (1, ((bsum (fitF E (fun i => B s (2 + i)) (B s 1).toNat A w o) p : Nat) : Int)), (9, 0), (0, (p : Int)), (2, 17)]) dX7_fitting_92 (Nat.le_of_ble_eq_true rfl) rfl ?_
        refine wp_aload dX7_fitting_94 rfl ?_
        refine wp_iload_n dX7_fitting_96 rfl rfl ?_
        refine wp_iload dX7_fitting_97 rfl ?_
        refine wp_iast 17 rfl rfl ⟨by omega, by omega⟩ ⟨by omega, by omega⟩ dX7_fitting_99 (jn := (o).toNat) rfl ?_
        refine wp_aload_n dX7_fitting_100 rfl rfl ?_
        refine wp_aload_n dX7_fitting_101 rfl rfl ?_
        refine wp_callV0 (d' := d - 1) cv_RX7_220 1 rfl [(2, (S : Int))] [] rfl rfl (Or.inl ⟨_, _, rfl, by decide, rfl, by omega, by omega⟩) (by omega) (Nat.le_of_ble_eq_true rfl) dX7_fitting_102 rfl (Nat.le_of_ble_eq_true rfl) (by omega) (loc1 := [(2, 1), (2, (S : Int)), (9, 0)]) rfl ?_
        have hTs := hT.aSet (r := 0) (i := o.toNat) (v := (p : Int)) (by decide) (by omega)
        have f1 : Fr VW M (mu (becM_16_2 M) 17 (o).toNat (p : Int)) := hFb.put (Or.inr (Or.inr ⟨by decide, by decide⟩))
        rw [← show lyA A w o (p : Int) = setA A 0 o.toNat (p : Int) from (if_neg (by omega)).trans (by rw [if_pos (by omega)])] at hTs
        refine sp_fo hS hn (by omega) hTs (hB.fr f1 VW.q) hV (fun M1 hF1 hR1 => ?_)
        have hF2 := f1.tr hF1
        have hI1 := hI.fr hF2 hR1 VW.c
        have hB1 := hB.fr hF2 VW.q
        have hE1 : evC M1 = E := (evC_frN (hF2.mono VW.n)).trans hE
        have g25 : M1 25 1 = M 25 1 := hF2 25 1 (by unfold VW VX; omega)
        refine wp_iconst dX7_fitting_105 (by decide) ?_
        refine wp_icmp_ne (tgt := 118) dX7_fitting_106 (by decide) (fun h106 => ?_) (fun h106 => ?_)
        · refine wp_iinc (loc' := [(2, 1), (2, (S : Int)), (0, o), (0, w), (1, ((bsum (fitF E (fun i => B s (2 + i)) (B s 1).toNat A w o) p : Nat) : Int)), (9, 0), (0, ((p : Int) + 1)), (2, 17)]) dX7_fitting_118 rfl (by omega) rfl ?_
          refine wp_goto (tgt := 6) dX7_fitting_121 (by decide) ?_
          rw [show bsum (fitF E (fun i => B s (2 + i)) (B s 1).toNat A w o) p = bsum (fitF E (fun i => B s (2 + i)) (B s 1).toNat A w o) (p + 1) by show _ = bsum (fitF E (fun i => B s (2 + i)) (B s 1).toNat A w o) p + (if _ then _ else _); rw [if_neg (show ¬ (fitF E (fun i => B s (2 + i)) (B s 1).toNat A w o) p = true from fun z => h106 (of_decide_eq_true z)), Nat.add_zero]]
          exact ih (p + 1) M1 _ Q (by rw [g25]; exact hm2) (by omega) hI1 hB1 hE1 (by rw [g25]; exact h25) (fun M2 a1 a2 => k M2 (hF2.tr a1) a2)
        · refine wp_lload dX7_fitting_109 rfl ?_
          refine wp_lconst (v := 1) dX7_fitting_111 (by decide) (by decide) ?_
          refine wp_iload dX7_fitting_112 rfl ?_
          refine wp_lshl dX7_fitting_114 ?_
          refine wp_lor dX7_fitting_115 ?_
          refine wp_lstore (loc' := [(2, 1), (2, (S : Int)), (0, o), (0, w), (1, (lor' ((bsum (fitF E (fun i => B s (2 + i)) (B s 1).toNat A w o) p : Nat) : Int) (lsl' 1 (p : Int)))), (9, 0), (0, (p : Int)), (2, 17)]) dX7_fitting_116 (Nat.le_of_ble_eq_true rfl) rfl ?_
          refine wp_iinc (loc' := [(2, 1), (2, (S : Int)), (0, o), (0, w), (1, (lor' ((bsum (fitF E (fun i => B s (2 + i)) (B s 1).toNat A w o) p : Nat) : Int) (lsl' 1 (p : Int)))), (9, 0), (0, ((p : Int) + 1)), (2, 17)]) dX7_fitting_118 rfl (by omega) rfl ?_
          refine wp_goto (tgt := 6) dX7_fitting_121 (by decide) ?_
          rw [lor_bit (v := p) (by omega) (bsum_lt _ p)]
          rw [show bsum (fitF E (fun i => B s (2 + i)) (B s 1).toNat A w o) p + 2 ^ p = bsum (fitF E (fun i => B s (2 + i)) (B s 1).toNat A w o) (p + 1) by show _ = bsum (fitF E (fun i => B s (2 + i)) (B s 1).toNat A w o) p + (if _ then _ else _); rw [if_pos (show (fitF E (fun i => B s (2 + i)) (B s 1).toNat A w o) p = true from decide_eq_true h106)]]
          exact ih (p + 1) M1 _ Q (by rw [g25]; exact hm2) (by omega) hI1 hB1 hE1 (by rw [g25]; exact h25) (fun M2 a1 a2 => k M2 (hF2.tr a1) a2)
    · refine wp_aload_n dX7_fitting_32 rfl rfl ?_
      refine wp_get 1 rfl fl_RX7_19 rfl ⟨by omega, by omega⟩ dX7_fitting_33 rfl (v := 16) (sr_1_2 (M := (becM_16_2 M)) hRb) ?_
      refine wp_iload dX7_fitting_36 rfl ?_
      refine wp_puti 16 rfl fl_RX7_139 rfl ⟨by omega, by omega⟩ dX7_fitting_38 rfl rfl ?_
      refine wp_goto (tgt := 100) dX7_fitting_41 (by decide) ?_
      refine wp_aload_n dX7_fitting_100 rfl rfl ?_
      refine wp_aload_n dX7_fitting_101 rfl rfl ?_
      refine wp_callV0 (d' := d - 1) cv_RX7_220 1 rfl [(2, (S : Int))] [] rfl rfl (Or.inl ⟨_, _, rfl, by decide, rfl, by omega, by omega⟩) (by omega) (Nat.le_of_ble_eq_true rfl) dX7_fitting_102 rfl (Nat.le_of_ble_eq_true rfl) (by omega) (loc1 := [(2, 1), (2, (S : Int)), (9, 0)]) rfl ?_
      have hTs := hT.sSet (v := (p : Int)) (by rw [b25]; omega)
      have f1 : Fr VW M (mu (becM_16_2 M) 16 1 (p : Int)) := hFb.put (Or.inr (Or.inl ⟨rfl, by decide⟩))
      rw [← show lyA A w o (p : Int) = setS A 1 (p : Int) from if_pos (by omega)] at hTs
      refine sp_fo hS hn (by omega) hTs (hB.fr f1 VW.q) hV (fun M1 hF1 hR1 => ?_)
      have hF2 := f1.tr hF1
      have hI1 := hI.fr hF2 hR1 VW.c
      have hB1 := hB.fr hF2 VW.q
      have hE1 : evC M1 = E := (evC_frN (hF2.mono VW.n)).trans hE
      have g25 : M1 25 1 = M 25 1 := hF2 25 1 (by unfold VW VX; omega)
      refine wp_iconst dX7_fitting_105 (by decide) ?_
      refine wp_icmp_ne (tgt := 118) dX7_fitting_106 (by decide) (fun h106 => ?_) (fun h106 => ?_)
      · refine wp_iinc (loc' := [(2, 1), (2, (S : Int)), (0, o), (0, w), (1, ((bsum (fitF E (fun i => B s (2 + i)) (B s 1).toNat A w o) p : Nat) : Int)), (9, 0), (0, ((p : Int) + 1)), wd]) dX7_fitting_118 rfl (by omega) rfl ?_
        refine wp_goto (tgt := 6) dX7_fitting_121 (by decide) ?_
        rw [show bsum (fitF E (fun i => B s (2 + i)) (B s 1).toNat A w o) p = bsum (fitF E (fun i => B s (2 + i)) (B s 1).toNat A w o) (p + 1) by show _ = bsum (fitF E (fun i => B s (2 + i)) (B s 1).toNat A w o) p + (if _ then _ else _); rw [if_neg (show ¬ (fitF E (fun i => B s (2 + i)) (B s 1).toNat A w o) p = true from fun z => h106 (of_decide_eq_true z)), Nat.add_zero]]
        exact ih (p + 1) M1 _ Q (by rw [g25]; exact hm2) (by omega) hI1 hB1 hE1 (by rw [g25]; exact h25) (fun M2 a1 a2 => k M2 (hF2.tr a1) a2)
      · refine wp_lload dX7_fitting_109 rfl ?_
        refine wp_lconst (v := 1) dX7_fitting_111 (by decide) (by decide) ?_
        refine wp_iload dX7_fitting_112 rfl ?_
        refine wp_lshl dX7_fitting_114 ?_
        refine wp_lor dX7_fitting_115 ?_
        refine wp_lstore (loc' := [(2, 1), (2, (S : Int)), (0, o), (0, w), (1, (lor' ((bsum (fitF E (fun i => B s (2 + i)) (B s 1).toNat A w o) p : Nat) : Int) (lsl' 1 (p : Int)))), (9, 0), (0, (p : Int)), wd]) dX7_fitting_116 (Nat.le_of_ble_eq_true rfl) rfl ?_
        refine wp_iinc (loc' := [(2, 1), (2, (S : Int)), (0, o), (0, w), (1, (lor' ((bsum (fitF E (fun i => B s (2 + i)) (B s 1).toNat A w o) p : Nat) : Int) (lsl' 1 (p : Int)))), (9, 0), (0, ((p : Int) + 1)), wd]) dX7_fitting_118 rfl (by omega) rfl ?_
        refine wp_goto (tgt := 6) dX7_fitting_121 (by decide) ?_
        rw [lor_bit (v := p) (by omega) (bsum_lt _ p)]
        rw [show bsum (fitF E (fun i => B s (2 + i)) (B s 1).toNat A w o) p + 2 ^ p = bsum (fitF E (fun i => B s (2 + i)) (B s 1).toNat A w o) (p + 1) by show _ = bsum (fitF E (fun i => B s (2 + i)) (B s 1).toNat A w o) p + (if _ then _ else _); rw [if_pos (show (fitF E (fun i => B s (2 + i)) (B s 1).toNat A w o) p = true from decide_eq_true h106)]]
        exact ih (p + 1) M1 _ Q (by rw [g25]; exact hm2) (by omega) hI1 hB1 hE1 (by rw [g25]; exact h25) (fun M2 a1 a2 => k M2 (hF2.tr a1) a2)
set_option maxRecDepth 20000 in
set_option maxHeartbeats 4000000 in
theorem sp_fitting  {l : Launch} {g : Gw} {d n : Nat} {M : Mm} {Q : Option Wd → Mm → Prop} {S s : Nat} (hS : isS S s) (hn : 90 ≤ n) (hd : 10 ≤ d) {A : Ls} {B : Mm} (hI : CJ M A) (hB : Rs M B) (hV : Ws B) {w o : Int} (hw : 1 ≤ w ∧ w ≤ 5) (ho : 0 ≤ o ∧ o < A.1 2) (k : ∀ M', Fr VW M M' → SR M' → Q (some (1, ((bsum (fitF (evC M) (fun i => B s (2 + i)) (B s 1).toNat A w o) (hmA (M 25 1) w) : Nat) : Int))) M') : Wp l g d 0 0 n m_X7_fitting 0 [] [(2, 1), (2, (S : Int)), (0, o), (0, w), (9, 0), (9, 0), (9, 0), (9, 0)] M Q := by
  have hb := hS.b
  have hR := hI.1
  refine wp_lconst (v := 0) dX7_fitting_0 (by decide) (by decide) ?_
  refine wp_lstore (loc' := [(2, 1), (2, (S : Int)), (0, o), (0, w), (1, 0), (9, 0), (9, 0), (9, 0)]) dX7_fitting_1 (Nat.le_of_ble_eq_true rfl) rfl ?_
  refine wp_iconst dX7_fitting_3 (by decide) ?_
  refine wp_istore (loc' := [(2, 1), (2, (S : Int)), (0, o), (0, w), (1, 0), (9, 0), (0, 0), (9, 0)]) dX7_fitting_4 (Nat.le_of_ble_eq_true rfl) rfl ?_
  exact lp_fit hS hn hd hV hw ho (H := hmA (M 25 1) w) (hmA (M 25 1) w) 0 M (9, 0) Q rfl (by omega) hI hB rfl ⟨hI.2.1.1, hI.2.1.2.1⟩ k
def tlsA (E : Ev) (f : Nat → Int) (N : Nat) (x : Int) (A : Ls) (o w : Int) : Int := if w = 0 then ftA E f N 0 A else if w = 3 then (cntF (fitF E f N A w o) (hmA x w) : Int) else if w = 4 then lstF (fitF E f N A w o) (hmA x w) 0 else (bsum (fitF E f N A w o) (hmA x w) : Int)
set_option maxRecDepth 20000 in
set_option maxHeartbeats 4000000 in
theorem cs_tells {l : Launch} {g : Gw} {d n : Nat} {M : Mm} {Q : Option Wd → Mm → Prop} (hn : 90 ≤ n) (hd : 12 ≤ d) {A : Ls} (hI : CJ M A) {B : Mm} (hB : Rs M B) (hV : Ws B) (x o w : Int) (kB : ¬ (0 ≤ x ∧ x < 4 ∧ 0 ≤ o ∧ o < A.1 2 ∧ 0 ≤ w ∧ w ≤ 5) ∨ ((0 ≤ x ∧ x < 4 ∧ 0 ≤ o ∧ o < A.1 2 ∧ 0 ≤ w ∧ w ≤ 5) ∧ B x.toNat 0 ≠ -1 ∧ 30 < B x.toNat 1) → Q (some (0, -2)) M) (kN : (0 ≤ x ∧ x < 4 ∧ 0 ≤ o ∧ o < A.1 2 ∧ 0 ≤ w ∧ w ≤ 5) → B x.toNat 0 = -1 → Q (some (0, -11)) M) (k : (0 ≤ x ∧ x < 4 ∧ 0 ≤ o ∧ o < A.1 2 ∧ 0 ≤ w ∧ w ≤ 5) → B x.toNat 0 ≠ -1 → B x.toNat 1 ≤ 30 → ∀ M', Fr VW M M' → SR M' → Q (some (0, tlsA (evC M) (fun i => B x.toNat (2 + i)) (B x.toNat 1).toNat (M 25 1) A o w)) M') : Wp l g d 0 0 n m_X7_tells 0 [] [(2, 1), (0, x), (0, o), (0, w), (9, 0), (9, 0), (9, 0)] M Q := by
  have hR := hI.1
  have ha2 := hI.2.2.1.2.2.1
  have hw1 := hI.2.2.2.1.2.1
  have hX1 := hI.2.1.2.1
  have hh : hmA (M 25 1) w ≤ 41 ∧ (w ≠ 3 → w ≠ 4 → (1 ≤ w ∧ w ≤ 5) → hmA (M 25 1) w ≤ 10) := by unfold hmA; (repeat' split) <;> omega
  refine wp_aload_n dX7_tells_0 rfl rfl ?_
  refine wp_iload_n dX7_tells_1 rfl rfl ?_
  refine wp_callV0 (d' := d - 1) cv_RX7_212 1 rfl [(0, x)] [] rfl rfl (Or.inl ⟨_, _, rfl, by decide, rfl, by omega, by omega⟩) (by omega) (Nat.le_of_ble_eq_true rfl) dX7_tells_2 rfl (Nat.le_of_ble_eq_true rfl) (by omega) (loc1 := [(2, 1), (0, x)]) rfl ?_
  refine sp_sheetOf hn hR x (fun hN2 => ?_) (fun S s hS eS => ?_)
  · refine wp_astore (loc' := [(2, 1), (0, x), (0, o), (0, w), (2, 0), (9, 0), (9, 0)]) dX7_tells_5 (Nat.le_of_ble_eq_true rfl) rfl ?_
    refine wp_aload dX7_tells_7 rfl ?_
    refine wp_ifnull (tgt := 32) dX7_tells_9 (by decide) (fun _ => ?_) (fun h => absurd h (by decide))
    refine wp_bipush dX7_tells_32 (by decide) (by decide) ?_
    refine wp_iret rfl dX7_tells_34 ?_
    exact kB (Or.inl (by omega))
  · subst eS
    have bS := hS.b
    have g1S : M S 1 = B s 0 := by have q := (hB s hS.1).1; rw [← hS.2] at q; exact q
    have g2S : M S 2 = B s 1 := by have q := (hB s hS.1).2.1; rw [← hS.2] at q; exact q
    have g3S := hV.r hS.1
    refine wp_astore (loc' := [(2, 1), (0, (s : Int)), (0, o), (0, w), (2, (S : Int)), (9, 0), (9, 0)]) dX7_tells_5 (Nat.le_of_ble_eq_true rfl) rfl ?_
    refine wp_aload dX7_tells_7 rfl ?_
    refine wp_ifnull (tgt := 32) dX7_tells_9 (by decide) (fun h => absurd h (by omega)) (fun _ => ?_)
    refine wp_aload_n dX7_tells_12 rfl rfl ?_
    refine wp_get 1 rfl fl_RX7_10 rfl ⟨by omega, by omega⟩ dX7_tells_13 rfl (v := 2) (sr_1_0 (M := M) hR) ?_
    refine wp_iload_n dX7_tells_16 rfl rfl ?_
    refine wp_callV0 (d' := d - 1) cv_RX7_87 2 rfl [(0, o)] [] rfl rfl (Or.inl ⟨_, _, rfl, by decide, rfl, by omega, by omega⟩) (by omega) (Nat.le_of_ble_eq_true rfl) dX7_tells_17 rfl (Nat.le_of_ble_eq_true rfl) (by omega) (loc1 := [(2, 2), (0, o)]) rfl ?_
    refine sp_has_2 (by omega) o (fun h17 => ?_) (fun h17 => ?_)
    · refine wp_if_eq (tgt := 32) dX7_tells_20 (by decide) (fun h => absurd h (by decide)) (fun _ => ?_)
      refine wp_iload_n dX7_tells_23 rfl rfl ?_
      refine wp_if_lt (tgt := 32) dX7_tells_24 (by decide) (fun h24 => ?_) (fun h24 => ?_)
      · refine wp_bipush dX7_tells_32 (by decide) (by decide) ?_
        refine wp_iret rfl dX7_tells_34 ?_
        exact kB (Or.inl (by omega))
      · refine wp_iload_n dX7_tells_27 rfl rfl ?_
        refine wp_iconst dX7_tells_28 (by decide) ?_
        refine wp_icmp_le (tgt := 35) dX7_tells_29 (by decide) (fun h29 => ?_) (fun h29 => ?_)
        · refine wp_aload dX7_tells_35 rfl ?_
          refine wp_callV0 (d' := d - 1) cv_RX7_216 S rfl [] [] rfl rfl (Or.inl ⟨_, _, hS.k0, by decide, rfl, by omega, by omega⟩) (by omega) (Nat.le_of_ble_eq_true rfl) dX7_tells_37 rfl (Nat.le_of_ble_eq_true rfl) (by omega) (loc1 := [(2, (S : Int))]) rfl ?_
          refine wp_aload_n dX4_isMissing_0 rfl rfl ?_
          refine wp_get S rfl fl_RX4_13 hS.k0 ⟨by omega, by omega⟩ dX4_isMissing_1 rfl (v := (M S 1)) (rfl) ?_
          refine wp_iconst dX4_isMissing_4 (by decide) ?_
          refine wp_icmp_ne (tgt := 12) dX4_isMissing_5 (by decide) (fun h5 => ?_) (fun h5 => ?_)
          · refine wp_iconst dX4_isMissing_12 (by decide) ?_
            refine wp_zret rfl (by omega) dX4_isMissing_13 ?_
            refine wp_if_eq (tgt := 46) dX7_tells_40 (by decide) (fun _ => ?_) (fun h => absurd h (by decide))
            refine wp_aload dX7_tells_46 rfl ?_
            refine wp_get S rfl fl_RX7_219 hS.k0 ⟨by omega, by omega⟩ dX7_tells_48 rfl (v := (M S 2)) (rfl) ?_
            refine wp_bipush dX7_tells_51 (by decide) (by decide) ?_
            refine wp_icmp_le (tgt := 59) dX7_tells_53 (by decide) (fun h53 => ?_) (fun h53 => ?_)
            · refine wp_iload_n dX7_tells_59 rfl rfl ?_
              refine wp_if_ne (tgt := 81) dX7_tells_60 (by decide) (fun h60 => ?_) (fun h60 => ?_)
              · refine wp_aload_n dX7_tells_81 rfl rfl ?_
                refine wp_aload dX7_tells_82 rfl ?_
                refine wp_iload_n dX7_tells_84 rfl rfl ?_
                refine wp_iload_n dX7_tells_85 rfl rfl ?_
                refine wp_callV0 (d' := d - 1) cv_RX7_224 1 rfl [(2, (S : Int)), (0, o), (0, w)] [] rfl rfl (Or.inl ⟨_, _, rfl, by decide, rfl, by omega, by omega⟩) (by omega) (Nat.le_of_ble_eq_true rfl) dX7_tells_86 rfl (Nat.le_of_ble_eq_true rfl) (by omega) (loc1 := [(2, 1), (2, (S : Int)), (0, o), (0, w), (9, 0), (9, 0), (9, 0), (9, 0)]) rfl ?_
                refine sp_fitting hS hn (by omega) hI hB hV (by omega) (by omega) (fun M1 hF1 hR1 => ?_)
                have hb48 : bsum (fitF (evC M) (fun i => B s (2 + i)) (B s 1).toNat A w o) (hmA (M 25 1) w) < 2 ^ 41 := Nat.lt_of_lt_of_le (bsum_lt _ _) (Nat.pow_le_pow_right (by decide) hh.1)
                have hb10 : w ≠ 3 → w ≠ 4 → bsum (fitF (evC M) (fun i => B s (2 + i)) (B s 1).toNat A w o) (hmA (M 25 1) w) < 2 ^ 10 := fun a b => Nat.lt_of_lt_of_le (bsum_lt _ _) (Nat.pow_le_pow_right (by decide) (hh.2 a b (by omega)))
                have hpb := pop_bsum (fitF (evC M) (fun i => B s (2 + i)) (B s 1).toNat A w o) 48 (hmA (M 25 1) w) (by omega)
                have hit := bsum_hit (f := (fitF (evC M) (fun i => B s (2 + i)) (B s 1).toNat A w o)) (hmA (M 25 1) w)
                generalize eX : bsum (fitF (evC M) (fun i => B s (2 + i)) (B s 1).toNat A w o) (hmA (M 25 1) w) = X at *
                refine wp_lstore (loc' := [(2, 1), (0, (s : Int)), (0, o), (0, w), (2, (S : Int)), (1, (X : Int)), (9, 0)]) dX7_tells_89 (Nat.le_of_ble_eq_true rfl) rfl ?_
                refine wp_iload_n dX7_tells_91 rfl rfl ?_
                refine wp_iconst dX7_tells_92 (by decide) ?_
                refine wp_icmp_ne (tgt := 102) dX7_tells_93 (by decide) (fun h93 => ?_) (fun h93 => ?_)
                · refine wp_iload_n dX7_tells_102 rfl rfl ?_
                  refine wp_iconst dX7_tells_103 (by decide) ?_
                  refine wp_icmp_ne (tgt := 124) dX7_tells_104 (by decide) (fun h104 => ?_) (fun h104 => ?_)
                  · refine wp_lload dX7_tells_124 rfl ?_
                    refine wp_l2i dX7_tells_126 ?_
                    refine wp_iret rfl dX7_tells_127 ?_
                    clear hit
                    rw [wrap_id (by have := hb10 (by omega) (by omega); omega), ← eX, show ((bsum (fitF (evC M) (fun i => B s (2 + i)) (B s 1).toNat A w o) (hmA (M 25 1) w) : Nat) : Int) = tlsA (evC M) (fun i => B s (2 + i)) (B s 1).toNat (M 25 1) A o w from ((if_neg (by omega)).trans ((if_neg (by omega)).trans (if_neg (by omega)))).symm]
                    exact k (by omega) (by show B s 0 ≠ -1; omega) (by show B s 1 ≤ 30; omega) M1 (hF1) hR1
                  · refine wp_lload dX7_tells_107 rfl ?_
                    refine wp_lconst (v := 0) dX7_tells_109 (by decide) (by decide) ?_
                    refine wp_lcmp dX7_tells_110 ?_
                    refine wp_if_ne (tgt := 118) dX7_tells_111 (by decide) (fun h111 => ?_) (fun h111 => ?_)
                    · refine wp_lload dX7_tells_118 rfl ?_
                      refine wp_callS0 (d' := d - 1) cs_RX7_234 [(1, (X : Int))] [] rfl rfl (Nat.le_of_ble_eq_true rfl) dX7_tells_120 rfl (Nat.le_of_ble_eq_true rfl) (by omega) (loc1 := [(1, (X : Int)), (9, 0), (9, 0)]) rfl ?_
                      rcases hit with ⟨-, e0⟩ | ⟨t, kq, ht, hf, ha, e0⟩
                      · exfalso; apply h111; unfold lcp; rw [e0]; rfl
                      refine sp_ntzL (by omega) e0 (by omega) (by omega) ?_
                      refine wp_iret rfl dX7_tells_123 ?_
                      rw [← lst_at hf (hmA (M 25 1) w) 0 (by omega) (by omega) (fun v _ y => ha v y), show lstF (fitF (evC M) (fun i => B s (2 + i)) (B s 1).toNat A w o) (hmA (M 25 1) w) 0 = tlsA (evC M) (fun i => B s (2 + i)) (B s 1).toNat (M 25 1) A o w from ((if_neg (by omega)).trans ((if_neg (by omega)).trans (if_pos (by omega)))).symm]
                      exact k (by omega) (by show B s 0 ≠ -1; omega) (by show B s 1 ≤ 30; omega) M1 (hF1) hR1
                    · refine wp_iconst dX7_tells_114 (by decide) ?_
                      refine wp_goto (tgt := 123) dX7_tells_115 (by decide) ?_
                      refine wp_iret rfl dX7_tells_123 ?_
                      rcases hit with ⟨ha, -⟩ | ⟨t, kq, ht, hf, ha, e0⟩
                      · rw [← lst_no (f := (fitF (evC M) (fun i => B s (2 + i)) (B s 1).toNat A w o)) (hmA (M 25 1) w) 0 (fun v _ y => ha v (by omega)), show lstF (fitF (evC M) (fun i => B s (2 + i)) (B s 1).toNat A w o) (hmA (M 25 1) w) 0 = tlsA (evC M) (fun i => B s (2 + i)) (B s 1).toNat (M 25 1) A o w from ((if_neg (by omega)).trans ((if_neg (by omega)).trans (if_pos (by omega)))).symm]
                        exact k (by omega) (by show B s 0 ≠ -1; omega) (by show B s 1 ≤ 30; omega) M1 hF1 hR1
                      · exfalso
                        have q1 : 0 < X := by rw [e0]; exact Nat.mul_pos (Nat.two_pow_pos t) (by omega)
                        have q2 : lcp (X : Int) 0 = 1 := if_pos (by omega)
                        omega
                · refine wp_lload dX7_tells_96 rfl ?_
                  refine wp_callS0 (d' := d - 1) cs_RX7_228 [(1, (X : Int))] [] rfl rfl (Nat.le_of_ble_eq_true rfl) dX7_tells_98 rfl (Nat.le_of_ble_eq_true rfl) (by omega) (loc1 := [(1, (X : Int)), (9, 0)]) rfl ?_
                  refine sp_bitCount (by omega) ?_
                  refine wp_iret rfl dX7_tells_101 ?_
                  clear hit
                  rw [hpb, show ((cntF (fitF (evC M) (fun i => B s (2 + i)) (B s 1).toNat A w o) (hmA (M 25 1) w) : Nat) : Int) = tlsA (evC M) (fun i => B s (2 + i)) (B s 1).toNat (M 25 1) A o w from ((if_neg (by omega)).trans (if_pos (by omega))).symm]
                  exact k (by omega) (by show B s 0 ≠ -1; omega) (by show B s 1 ≤ 30; omega) M1 (hF1) hR1
              · refine wp_aload_n dX7_tells_63 rfl rfl ?_
                refine wp_get 1 rfl fl_RX7_19 rfl ⟨by omega, by omega⟩ dX7_tells_64 rfl (v := 16) (sr_1_2 (M := M) hR) ?_
                refine wp_aload_n dX7_tells_67 rfl rfl ?_
                refine wp_get 1 rfl fl_RX7_10 rfl ⟨by omega, by omega⟩ dX7_tells_68 rfl (v := 2) (sr_1_0 (M := M) hR) ?_
                refine wp_callV0 (d' := d - 1) cv_RX7_203 16 rfl [(2, 2)] [] rfl rfl (Or.inl ⟨_, _, rfl, by decide, rfl, by omega, by omega⟩) (by omega) (Nat.le_of_ble_eq_true rfl) dX7_tells_71 rfl (Nat.le_of_ble_eq_true rfl) (by omega) (loc1 := [(2, 16), (2, 2), (9, 0)]) rfl ?_
                refine sp_become_16_2 (by omega) hR ?_
                have hT := TJ.bec hI
                have hRb := hT.1
                have hFb := (becF_16_2 M).mono VW.b
                refine wp_aload_n dX7_tells_74 rfl rfl ?_
                refine wp_aload dX7_tells_75 rfl ?_
                refine wp_callV0 (d' := d - 1) cv_RX7_220 1 rfl [(2, (S : Int))] [] rfl rfl (Or.inl ⟨_, _, rfl, by decide, rfl, by omega, by omega⟩) (by omega) (Nat.le_of_ble_eq_true rfl) dX7_tells_77 rfl (Nat.le_of_ble_eq_true rfl) (by omega) (loc1 := [(2, 1), (2, (S : Int)), (9, 0)]) rfl ?_
                refine sp_fo hS hn (by omega) hT (hB.fr hFb VW.q) hV (fun M1 hF1 hR1 => ?_)
                refine wp_iret rfl dX7_tells_80 ?_
                rw [show (ftA (evC M) (fun i => B s (2 + i)) (B s 1).toNat 0 A) = tlsA (evC M) (fun i => B s (2 + i)) (B s 1).toNat (M 25 1) A o w from (if_pos (by omega)).symm]
                exact k (by omega) (by show B s 0 ≠ -1; omega) (by show B s 1 ≤ 30; omega) M1 (hFb.tr hF1) hR1
            · refine wp_bipush dX7_tells_56 (by decide) (by decide) ?_
              refine wp_iret rfl dX7_tells_58 ?_
              exact kB (Or.inr ⟨by omega, by show B s 0 ≠ -1; omega, by show 30 < B s 1; omega⟩)
          · refine wp_iconst dX4_isMissing_8 (by decide) ?_
            refine wp_goto (tgt := 13) dX4_isMissing_9 (by decide) ?_
            refine wp_zret rfl (by omega) dX4_isMissing_13 ?_
            refine wp_if_eq (tgt := 46) dX7_tells_40 (by decide) (fun h => absurd h (by decide)) (fun _ => ?_)
            refine wp_bipush dX7_tells_43 (by decide) (by decide) ?_
            refine wp_iret rfl dX7_tells_45 ?_
            exact kN (by omega) (by show B s 0 = -1; omega)
        · refine wp_bipush dX7_tells_32 (by decide) (by decide) ?_
          refine wp_iret rfl dX7_tells_34 ?_
          exact kB (Or.inl (by omega))
    · refine wp_if_eq (tgt := 32) dX7_tells_20 (by decide) (fun _ => ?_) (fun h => absurd h (by decide))
      refine wp_bipush dX7_tells_32 (by decide) (by decide) ?_
      refine wp_iret rfl dX7_tells_34 ?_
      exact kB (Or.inl (by omega))
