/-! ===== the model: looks, friendOf, ahead ===== -/
def lkI (f : Nat → Int) (a w : Int) : Nat → Nat → Int × Int → Int × Int
  | 0, _, r => r
  | m + 1, t, r => lkI f a w m (t + 1) (if f t = a ∧ (r.1 = -1 ∨ (t : Int) < r.1) then ((t : Int), w) else r)
def lkO (E : Ev) (A : Ls) (a : Int) : Nat → Nat → Int × Int → Int × Int
  | 0, _, r => r
  | m + 1, i, r => lkO E A a m (i + 1) (lkI (at0 (odA E A i)) a (awA E A i) (lnA A).length 0 r)
theorem lkI_no {f : Nat → Int} {a w : Int} : ∀ (m t : Nat) (r : Int × Int), r.1 ≠ -1 → r.1 ≤ (t : Int) → lkI f a w m t r = r
  | 0, _, _, _, _ => rfl
  | m + 1, t, r, h1, h2 => by
    unfold lkI
    rw [if_neg (by omega)]
    exact lkI_no m (t + 1) r h1 (by omega)
theorem lkI_eq {f : Nat → Int} {a w : Int} : ∀ (m t : Nat) (r : Int × Int), t + m ≤ 5 → lkI f a w m t r = if plcO f a m t < 5 ∧ (r.1 = -1 ∨ plcO f a m t < r.1) then (plcO f a m t, w) else r
  | 0, t, r, _ => by
    have : plcO f a 0 t = 5 := rfl
    rw [this, if_neg (by omega)]
    rfl
  | m + 1, t, r, h => by
    unfold lkI plcO
    by_cases c : f t = a
    · rw [if_pos c]
      by_cases q : r.1 = -1 ∨ (t : Int) < r.1
      · rw [if_pos ⟨c, q⟩, if_pos ⟨by omega, q⟩]
        exact lkI_no m (t + 1) _ (show (t : Int) ≠ -1 by omega) (show (t : Int) ≤ ((t + 1 : Nat) : Int) by omega)
      · rw [if_neg (fun h => q h.2), if_neg (fun h => q h.2)]
        exact lkI_no m (t + 1) r (by omega) (by omega)
    · rw [if_neg c, if_neg (fun h => c h.1)]
      exact lkI_eq m (t + 1) r (by omega)
theorem plcO_in {f : Nat → Int} {a : Int} : ∀ (m t : Nat), t + m ≤ 5 → ((∃ q, t ≤ q ∧ q < t + m ∧ f q = a) → plcO f a m t < 5) ∧ (plcO f a m t < 5 → ∃ q, t ≤ q ∧ q < t + m ∧ f q = a)
  | 0, t, _ => ⟨fun ⟨q, h1, h2, _⟩ => absurd h2 (by omega), fun h => absurd h (by unfold plcO; omega)⟩
  | m + 1, t, h => by
    have ih := plcO_in (f := f) (a := a) m (t + 1) (by omega)
    unfold plcO
    by_cases c : f t = a
    · rw [if_pos c]
      exact ⟨fun _ => by omega, fun _ => ⟨t, by omega, by omega, c⟩⟩
    · rw [if_neg c]
      refine ⟨fun ⟨q, h1, h2, h3⟩ => ih.1 ⟨q, ?_, by omega, h3⟩, fun h4 => ?_⟩
      · by_cases e : q = t
        · subst e; exact absurd h3 c
        · omega
      · obtain ⟨q, h1, h2, h3⟩ := ih.2 h4
        exact ⟨q, by omega, by omega, h3⟩
theorem plA2_mem {E : Ev} {A : Ls} {a : Int} {i : Nat} (hO : okO (lnA A).length (odA E A i)) (hN : (lnA A).length ≤ 5) (hp : (odA E A i).Perm (lnA A)) : (plA2 E A a i < 5 ↔ a ∈ lnA A) ∧ 0 ≤ plA2 E A a i ∧ plA2 E A a i ≤ 5 := by
  have h := plcO_in (f := at0 (odA E A i)) (a := a) (lnA A).length 0 (by omega)
  have hr := plcO_r (f := at0 (odA E A i)) (a := a) (lnA A).length 0 (by omega)
  refine ⟨⟨fun h1 => ?_, fun h1 => h.1 ?_⟩, hr⟩
  · obtain ⟨q, _, h2, h3⟩ := h.2 h1
    rw [← h3]
    exact hp.subset (at_mem (by rw [hO.1]; omega))
  · have h2 := hp.symm.subset h1
    obtain ⟨q, hq, e⟩ := List.getElem_of_mem h2
    refine ⟨q, by omega, by rw [hO.1] at hq; omega, ?_⟩
    rw [← e]
    simp [at0, List.getD_eq_getElem?_getD, List.getElem?_eq_getElem hq]
theorem plA_mem {A : Ls} {a : Int} : plA A a ≠ -1 ↔ a ∈ lnA A := by
  rw [lnA_mem]
  constructor
  · intro h
    rcases fst_r (f := A.2 5) (x := a) (A.1 3).toNat 0 with e | ⟨q, _, b, _, d⟩
    · exact absurd e h
    · exact ⟨q, by omega, d⟩
  · intro ⟨q, h1, h2⟩ e
    exact fst_no (A.1 3).toNat 0 e q (by omega) (by omega) h2
theorem lstP_le {E : Ev} {A : Ls} {a : Int} : ∀ (m i : Nat) (c : Int), lstP E A a m i c ≤ c
  | 0, _, c => Int.le_refl c
  | m + 1, i, c => by
    unfold lstP
    split
    · have := lstP_le (E := E) (A := A) (a := a) m (i + 1) (plA2 E A a i)
      omega
    · exact lstP_le m (i + 1) c
theorem lkO_eq {E : Ev} {A : Ls} {a : Int} (hN : (lnA A).length ≤ 5) (hp : ∀ i, i < (flA E A).length → plA2 E A a i < 5 ∧ 0 ≤ plA2 E A a i) : ∀ (m i : Nat) (r : Int × Int), i + m = (flA E A).length → 0 ≤ r.1 → lkO E A a m i r = (lstP E A a m i r.1, if lstP E A a m i r.1 = r.1 then r.2 else nerA E A a (lstP E A a m i r.1) m i)
  | 0, i, r, _, _ => by
    show r = (r.1, if r.1 = r.1 then r.2 else _)
    rw [if_pos rfl]
  | m + 1, i, r, hm, h0 => by
    have hq := hp i (by omega)
    unfold lkO lstP nerA
    rw [lkI_eq _ _ _ (by omega)]
    by_cases c : plA2 E A a i < r.1
    · rw [if_pos ⟨hq.1, Or.inr c⟩, if_pos c]
      have ih := lkO_eq hN hp m (i + 1) (plA2 E A a i, awA E A i) (by omega) hq.2
      have hl := lstP_le (E := E) (A := A) (a := a) m (i + 1) (plA2 E A a i)
      refine ih.trans ?_
      show (lstP E A a m (i + 1) (plA2 E A a i), _) = _
      rw [if_neg (show ¬ lstP E A a m (i + 1) (plA2 E A a i) = r.1 by omega)]
      by_cases c2 : plA2 E A a i = lstP E A a m (i + 1) (plA2 E A a i)
      · rw [if_pos c2, if_pos c2.symm]
      · rw [if_neg c2, if_neg (fun h => c2 h.symm)]
    · rw [if_neg (fun h => by have h2 : r.1 = -1 ∨ plA2 E A a i < r.1 := h.2; omega), if_neg c]
      have ih := lkO_eq hN hp m (i + 1) r (by omega) h0
      have hl := lstP_le (E := E) (A := A) (a := a) m (i + 1) r.1
      refine ih.trans ?_
      by_cases c2 : lstP E A a m (i + 1) r.1 = r.1
      · rw [if_pos c2, if_pos c2]
      · rw [if_neg c2, if_neg c2, if_neg (show ¬ plA2 E A a i = lstP E A a m (i + 1) r.1 by omega)]
theorem lkO_out {E : Ev} {A : Ls} {a : Int} (hN : (lnA A).length ≤ 5) (hp : ∀ i, i < (flA E A).length → ¬ plA2 E A a i < 5) : ∀ (m i : Nat) (r : Int × Int), i + m = (flA E A).length → lkO E A a m i r = r
  | 0, _, _, _ => rfl
  | m + 1, i, r, hm => by
    unfold lkO
    rw [lkI_eq _ _ _ (by omega), if_neg (fun h => hp i (by omega) h.1)]
    exact lkO_out hN hp m (i + 1) r (by omega)
/-- what looking leaves, one in the line -/
theorem look_in {E : Ev} {A : Ls} {a : Int} {M : Mm} (hG : GJ M A E) (ha : plA A a ≠ -1) : lkO E A a (flA E A).length 0 (-1, -1) = (lsB E A a, nerA E A a (lsB E A a) (flA E A).length 0) := by
  have hk := lnA_ok hG.1.2.2.1
  have hp : ∀ i, i < (flA E A).length → plA2 E A a i < 5 ∧ 0 ≤ plA2 E A a i := fun i hi => by
    have h := plA2_mem (a := a) (hG.ix hi).2.1 hk.2.1 (hG.ix hi).1
    exact ⟨h.1.mpr (plA_mem.mp ha), h.2.1⟩
  have hf := fl_pos E A
  obtain ⟨n, hn⟩ : ∃ n, (flA E A).length = n + 1 := ⟨(flA E A).length - 1, by omega⟩
  have h0 := hp 0 hf
  show lkO E A a (flA E A).length 0 (-1, -1) = (lstP E A a (flA E A).length 0 5, nerA E A a (lstP E A a (flA E A).length 0 5) (flA E A).length 0)
  rw [hn]
  unfold lkO lstP nerA
  rw [lkI_eq _ _ _ (by have := hk.2.1; omega), if_pos ⟨h0.1, Or.inl rfl⟩, if_pos h0.1]
  have ih := lkO_eq hk.2.1 hp n (0 + 1) (plA2 E A a 0, awA E A 0) (by omega) h0.2
  refine ih.trans ?_
  show (lstP E A a n (0 + 1) (plA2 E A a 0), _) = _
  by_cases c2 : plA2 E A a 0 = lstP E A a n (0 + 1) (plA2 E A a 0)
  · rw [if_pos c2, if_pos c2.symm]
  · rw [if_neg c2, if_neg (fun h => c2 h.symm)]
theorem look_out {E : Ev} {A : Ls} {a : Int} {M : Mm} (hG : GJ M A E) (ha : plA A a = -1) : lkO E A a (flA E A).length 0 (-1, -1) = (-1, -1) ∧ lsB E A a = 5 := by
  have hk := lnA_ok hG.1.2.2.1
  have hp : ∀ i, i < (flA E A).length → ¬ plA2 E A a i < 5 := fun i hi h1 => by
    have h := plA2_mem (a := a) (hG.ix hi).2.1 hk.2.1 (hG.ix hi).1
    exact plA_mem.mpr (h.1.mp h1) ha
  refine ⟨lkO_out hk.2.1 hp _ 0 _ (by omega), ?_⟩
  have : ∀ m i, i + m = (flA E A).length → lstP E A a m i 5 = 5 := by
    intro m
    induction m with
    | zero => intro i _; rfl
    | succ m ih =>
      intro i hm
      unfold lstP
      rw [if_neg (hp i (by omega))]
      exact ih (i + 1) (by omega)
  exact this _ 0 (by omega)
/-- cells that looking at one order changes -/
def Vla (i j : Nat) : Prop := i = 79 ∨ (i = 69 ∧ (j = 36 ∨ j = 37))
theorem Vla.o : ∀ i j, Vla i j → VMo i j := by
  intro i j h
  unfold Vla at h
  unfold VMo
  omega
theorem GJ.fl {M M' : Mm} {A : Ls} {E : Ev} (h : GJ M A E) (f : Fr Vla M M') : GJ M' A E := ⟨h.1.fro (f.mono Vla.o), h.2.fr (f _ _ (by unfold Vla; omega)) (fun j => f _ _ (by unfold Vla; omega)) (fun j => f _ _ (by unfold Vla; omega)) (f _ _ (by unfold Vla; omega))⟩
set_option maxRecDepth 20000 in
set_option maxHeartbeats 4000000 in
theorem lp_lki  {l : Launch} {g : Gw} {d n : Nat} (hn : 90 ≤ n) {E : Ev} {A : Ls} {a : Int} {i : Nat} (hi : i < (flA E A).length) (h120 : (flA E A).length ≤ 120) (hN3 : A.1 3 = ((lnA A).length : Int)) (hN5 : (lnA A).length ≤ 5) : ∀ (m q : Nat) (r : Int × Int) (M : Mm) (Q : Option Wd → Mm → Prop), q + m = (lnA A).length → GJ M A E → M 69 36 = r.1 → M 69 37 = r.2 → (∀ j, j < (lnA A).length → M 79 j = at0 (odA E A i) j) → (∀ M' u, GJ M' A E → M' 69 36 = (lkI (at0 (odA E A i)) a (awA E A i) m q r).1 → M' 69 37 = (lkI (at0 (odA E A i)) a (awA E A i) m q r).2 → Fr Vla M M' → Wp l g d 0 0 n m_X8_looks 91 [] [(2, 69), (0, a), (0, (i : Int)), u] M' Q) → Wp l g d 0 0 n m_X8_looks 36 [] [(2, 69), (0, a), (0, (i : Int)), (0, (q : Int))] M Q := by
  intro m
  induction m with
  | zero =>
    intro q r M Q hm hG h36 h37 hw k
    have hR := hG.1.1
    refine wp_iload_n dX8_looks_36 rfl rfl ?_
    refine wp_aload_n dX8_looks_37 rfl rfl ?_
    refine wp_get 69 rfl fl_RX8_123 rfl ⟨by omega, by omega⟩ dX8_looks_38 rfl (v := ((lnA A).length : Int)) ((hG.1.2.1.2.2.2.1.trans hN3)) ?_
    refine wp_icmp_ge (tgt := 91) dX8_looks_41 (by decide) (fun _ => ?_) (fun h => absurd h (by omega))
    exact k M _ hG h36 h37 Fr.rf
  | succ m ih =>
    intro q r M Q hm hG h36 h37 hw k
    have hR := hG.1.1
    refine wp_iload_n dX8_looks_36 rfl rfl ?_
    refine wp_aload_n dX8_looks_37 rfl rfl ?_
    refine wp_get 69 rfl fl_RX8_123 rfl ⟨by omega, by omega⟩ dX8_looks_38 rfl (v := ((lnA A).length : Int)) ((hG.1.2.1.2.2.2.1.trans hN3)) ?_
    refine wp_icmp_ge (tgt := 91) dX8_looks_41 (by decide) (fun h => absurd h (by omega)) (fun _ => ?_)
    refine wp_aload_n dX8_looks_44 rfl rfl ?_
    refine wp_get 69 rfl fl_RX8_42 rfl ⟨by omega, by omega⟩ dX8_looks_45 rfl (v := 79) (sr_69_32 (M := M) hR) ?_
    refine wp_iload_n dX8_looks_48 rfl rfl ?_
    refine wp_iald 79 rfl rfl ⟨by omega, by omega⟩ ⟨by omega, by omega⟩ dX8_looks_49 (v := (at0 (odA E A i) q)) (hw q (by omega)) ?_
    refine wp_iload_n dX8_looks_50 rfl rfl ?_
    refine wp_icmp_ne (tgt := 85) dX8_looks_51 (by decide) (fun h51 => ?_) (fun h51 => ?_)
    · refine wp_iinc (loc' := [(2, 69), (0, a), (0, (i : Int)), (0, ((q : Int) + 1))]) dX8_looks_85 rfl (by omega) rfl ?_
      refine wp_goto (tgt := 36) dX8_looks_88 (by decide) ?_
      have e : lkI (at0 (odA E A i)) a (awA E A i) (m + 1) q r = lkI (at0 (odA E A i)) a (awA E A i) m (q + 1) r := by
        show lkI _ a _ m (q + 1) (if _ then _ else r) = _
        rw [if_neg (by omega)]
      rw [e] at k
      exact ih (q + 1) r M Q (by omega) hG h36 h37 hw k
    · refine wp_aload_n dX8_looks_54 rfl rfl ?_
      refine wp_get 69 rfl fl_RX8_410 rfl ⟨by omega, by omega⟩ dX8_looks_55 rfl (v := r.1) (h36) ?_
      refine wp_iconst dX8_looks_58 (by decide) ?_
      refine wp_icmp_eq (tgt := 70) dX8_looks_59 (by decide) (fun h59 => ?_) (fun h59 => ?_)
      · refine wp_aload_n dX8_looks_70 rfl rfl ?_
        refine wp_iload_n dX8_looks_71 rfl rfl ?_
        refine wp_puti 69 rfl fl_RX8_410 rfl ⟨by omega, by omega⟩ dX8_looks_72 rfl rfl ?_
        refine wp_aload_n dX8_looks_75 rfl rfl ?_
        refine wp_aload_n dX8_looks_76 rfl rfl ?_
        refine wp_get 69 rfl fl_RX8_35 rfl ⟨by omega, by omega⟩ dX8_looks_77 rfl (v := 77) (sr_69_29 (M := M) hR) ?_
        refine wp_iload_n dX8_looks_80 rfl rfl ?_
        refine wp_iald 77 rfl rfl ⟨by omega, by omega⟩ ⟨by omega, by omega⟩ dX8_looks_81 (v := (awA E A i)) ((hG.at (i := i) hi).2) ?_
        refine wp_puti 69 rfl fl_RX8_413 rfl ⟨by omega, by omega⟩ dX8_looks_82 rfl rfl ?_
        refine wp_iinc (loc' := [(2, 69), (0, a), (0, (i : Int)), (0, ((q : Int) + 1))]) dX8_looks_85 rfl (by omega) rfl ?_
        refine wp_goto (tgt := 36) dX8_looks_88 (by decide) ?_
        have e : lkI (at0 (odA E A i)) a (awA E A i) (m + 1) q r = lkI (at0 (odA E A i)) a (awA E A i) m (q + 1) ((q : Int), (awA E A i)) := by
          show lkI _ a _ m (q + 1) (if _ then _ else r) = _
          rw [if_pos (by omega)]
        rw [e] at k
        have f1 : Fr Vla M (mu (mu M 69 36 (q : Int)) 69 37 (awA E A i)) := (Fr.rf.put (by unfold Vla; omega)).put (by unfold Vla; omega)
        exact ih (q + 1) ((q : Int), (awA E A i)) _ Q (by omega) (hG.fl f1) rfl rfl (fun j hj => hw j hj) (fun M9 u9 G9 a9 b9 F9 => k M9 u9 G9 a9 b9 (f1.tr F9))
      · refine wp_iload_n dX8_looks_62 rfl rfl ?_
        refine wp_aload_n dX8_looks_63 rfl rfl ?_
        refine wp_get 69 rfl fl_RX8_410 rfl ⟨by omega, by omega⟩ dX8_looks_64 rfl (v := r.1) (h36) ?_
        refine wp_icmp_ge (tgt := 85) dX8_looks_67 (by decide) (fun h67 => ?_) (fun h67 => ?_)
        · refine wp_iinc (loc' := [(2, 69), (0, a), (0, (i : Int)), (0, ((q : Int) + 1))]) dX8_looks_85 rfl (by omega) rfl ?_
          refine wp_goto (tgt := 36) dX8_looks_88 (by decide) ?_
          have e : lkI (at0 (odA E A i)) a (awA E A i) (m + 1) q r = lkI (at0 (odA E A i)) a (awA E A i) m (q + 1) r := by
            show lkI _ a _ m (q + 1) (if _ then _ else r) = _
            rw [if_neg (by omega)]
          rw [e] at k
          exact ih (q + 1) r M Q (by omega) hG h36 h37 hw k
        · refine wp_aload_n dX8_looks_70 rfl rfl ?_
          refine wp_iload_n dX8_looks_71 rfl rfl ?_
          refine wp_puti 69 rfl fl_RX8_410 rfl ⟨by omega, by omega⟩ dX8_looks_72 rfl rfl ?_
          refine wp_aload_n dX8_looks_75 rfl rfl ?_
          refine wp_aload_n dX8_looks_76 rfl rfl ?_
          refine wp_get 69 rfl fl_RX8_35 rfl ⟨by omega, by omega⟩ dX8_looks_77 rfl (v := 77) (sr_69_29 (M := M) hR) ?_
          refine wp_iload_n dX8_looks_80 rfl rfl ?_
          refine wp_iald 77 rfl rfl ⟨by omega, by omega⟩ ⟨by omega, by omega⟩ dX8_looks_81 (v := (awA E A i)) ((hG.at (i := i) hi).2) ?_
          refine wp_puti 69 rfl fl_RX8_413 rfl ⟨by omega, by omega⟩ dX8_looks_82 rfl rfl ?_
          refine wp_iinc (loc' := [(2, 69), (0, a), (0, (i : Int)), (0, ((q : Int) + 1))]) dX8_looks_85 rfl (by omega) rfl ?_
          refine wp_goto (tgt := 36) dX8_looks_88 (by decide) ?_
          have e : lkI (at0 (odA E A i)) a (awA E A i) (m + 1) q r = lkI (at0 (odA E A i)) a (awA E A i) m (q + 1) ((q : Int), (awA E A i)) := by
            show lkI _ a _ m (q + 1) (if _ then _ else r) = _
            rw [if_pos (by omega)]
          rw [e] at k
          have f1 : Fr Vla M (mu (mu M 69 36 (q : Int)) 69 37 (awA E A i)) := (Fr.rf.put (by unfold Vla; omega)).put (by unfold Vla; omega)
          exact ih (q + 1) ((q : Int), (awA E A i)) _ Q (by omega) (hG.fl f1) rfl rfl (fun j hj => hw j hj) (fun M9 u9 G9 a9 b9 F9 => k M9 u9 G9 a9 b9 (f1.tr F9))
set_option maxRecDepth 20000 in
set_option maxHeartbeats 4000000 in
theorem lp_lko  {l : Launch} {g : Gw} {d n : Nat} (hn : 90 ≤ n) (hd : 2 ≤ d) {E : Ev} {A : Ls} {a : Int} (h120 : (flA E A).length ≤ 120) (hN3 : A.1 3 = ((lnA A).length : Int)) (hN5 : (lnA A).length ≤ 5) : ∀ (m i : Nat) (r : Int × Int) (u3 : Wd) (M : Mm) (Q : Option Wd → Mm → Prop), i + m = (flA E A).length → GJ M A E → M 69 36 = r.1 → M 69 37 = r.2 → (∀ M', GJ M' A E → M' 69 36 = (lkO E A a m i r).1 → M' 69 37 = (lkO E A a m i r).2 → Fr Vla M M' → Q none M') → Wp l g d 0 0 n m_X8_looks 16 [] [(2, 69), (0, a), (0, (i : Int)), u3] M Q := by
  intro m
  induction m with
  | zero =>
    intro i r u3 M Q hm hG h36 h37 k
    have hR := hG.1.1
    refine wp_iload_n dX8_looks_16 rfl rfl ?_
    refine wp_aload_n dX8_looks_17 rfl rfl ?_
    refine wp_get 69 rfl fl_RX8_371 rfl ⟨by omega, by omega⟩ dX8_looks_18 rfl (v := ((flA E A).length : Int)) (hG.2.1.1) ?_
    refine wp_icmp_ge (tgt := 97) dX8_looks_21 (by decide) (fun _ => ?_) (fun h => absurd h (by omega))
    refine wp_vret rfl dX8_looks_97 ?_
    exact k M hG h36 h37 Fr.rf
  | succ m ih =>
    intro i r u3 M Q hm hG h36 h37 k
    have hR := hG.1.1
    refine wp_iload_n dX8_looks_16 rfl rfl ?_
    refine wp_aload_n dX8_looks_17 rfl rfl ?_
    refine wp_get 69 rfl fl_RX8_371 rfl ⟨by omega, by omega⟩ dX8_looks_18 rfl (v := ((flA E A).length : Int)) (hG.2.1.1) ?_
    refine wp_icmp_ge (tgt := 97) dX8_looks_21 (by decide) (fun h => absurd h (by omega)) (fun _ => ?_)
    refine wp_aload_n dX8_looks_24 rfl rfl ?_
    refine wp_aload_n dX8_looks_25 rfl rfl ?_
    refine wp_get 69 rfl fl_RX8_32 rfl ⟨by omega, by omega⟩ dX8_looks_26 rfl (v := 76) (sr_69_28 (M := M) hR) ?_
    refine wp_iload_n dX8_looks_29 rfl rfl ?_
    refine wp_iald 76 rfl rfl ⟨by omega, by omega⟩ ⟨by omega, by omega⟩ dX8_looks_30 (v := (dgA E A i)) ((hG.at (i := i) (by omega)).1) ?_
    refine wp_callV0 (d' := d - 1) cv_RX8_380 69 rfl [(0, (dgA E A i))] [] rfl rfl (Or.inl ⟨_, _, rfl, by decide, rfl, by omega, by omega⟩) (by omega) (Nat.le_of_ble_eq_true rfl) dX8_looks_31 rfl (Nat.le_of_ble_eq_true rfl) (by omega) (loc1 := [(2, 69), (0, (dgA E A i)), (9, 0), (9, 0)]) rfl ?_
    have hi : i < (flA E A).length := by omega
    refine sp_spm hn hR (hG.ix hi).2.1 hN5 (hG.1.2.1.2.2.2.1.trans hN3) (fun M1 f1 w1 => ?_)
    have f1l : Fr Vla M M1 := f1.mono (fun i j h => Or.inl h)
    have G1 := hG.fl f1l
    refine wp_iconst dX8_looks_34 (by decide) ?_
    refine wp_istore_n (loc' := [(2, 69), (0, a), (0, (i : Int)), (0, 0)]) dX8_looks_35 rfl (Nat.le_of_ble_eq_true rfl) rfl ?_
    refine lp_lki hn hi h120 hN3 hN5 (lnA A).length 0 r M1 Q (by omega) G1 ((f1 _ _ (by unfold V79; omega)).trans h36) ((f1 _ _ (by unfold V79; omega)).trans h37) w1 (fun M2 u G2 a2 b2 F2 => ?_)
    refine wp_iinc (loc' := [(2, 69), (0, a), (0, ((i : Int) + 1)), u]) dX8_looks_91 rfl (by omega) rfl ?_
    refine wp_goto (tgt := 16) dX8_looks_94 (by decide) ?_
    exact ih (i + 1) _ _ M2 Q (by omega) G2 a2 b2 (fun M3 G3 a3 b3 F3 => k M3 G3 a3 b3 ((f1l.tr F2).tr F3))
set_option maxRecDepth 20000 in
set_option maxHeartbeats 4000000 in
theorem sp_lkm {l : Launch} {g : Gw} {d n : Nat} {M : Mm} {Q : Option Wd → Mm → Prop} (hn : 90 ≤ n) {A : Ls} {E : Ev} (hI : MJ M A E) (hd : 72 ≤ d) (a : Int) (k : ∀ M', GJ M' A E → M' 69 36 = (lkO E A a (flA E A).length 0 (-1, -1)).1 → M' 69 37 = (lkO E A a (flA E A).length 0 (-1, -1)).2 → Fr VMo M M' → Q none M') : Wp l g d 0 0 n m_X8_looks 0 [] [(2, 69), (0, a), (9, 0), (9, 0)] M Q := by
  obtain ⟨hR, hA, hW, hr, hX⟩ := id hI
  have w2 := hW.1
  have w5 := hW.2.1
  have w3 := hW.2.2.1
  have w32 := hW.2.2.2.1
  have hok := lnA_ok hW
  have hll := lnA_len A
  have hN3 : A.1 3 = ((lnA A).length : Int) := by omega
  obtain ⟨N2, hN2⟩ := Int.eq_ofNat_of_zero_le w2
  refine wp_aload_n dX8_looks_0 rfl rfl ?_
  refine wp_callV0 (d' := d - 1) cv_RX8_401 69 rfl [] [] rfl rfl (Or.inl ⟨_, _, rfl, by decide, rfl, by omega, by omega⟩) (by omega) (Nat.le_of_ble_eq_true rfl) dX8_looks_1 rfl (Nat.le_of_ble_eq_true rfl) (by omega) (loc1 := [(2, 69), (9, 0), (9, 0), (9, 0), (9, 0)]) rfl ?_
  refine sp_grw hn hI (by omega) (fun M1 G1 T1 F1 => ?_)
  have h120 : (flA E A).length ≤ 120 := G1.2.2.2.1.le hok.2.1
  refine wp_aload_n dX8_looks_4 rfl rfl ?_
  refine wp_iconst dX8_looks_5 (by decide) ?_
  refine wp_puti 69 rfl fl_RX8_410 rfl ⟨by omega, by omega⟩ dX8_looks_6 rfl rfl ?_
  refine wp_aload_n dX8_looks_9 rfl rfl ?_
  refine wp_iconst dX8_looks_10 (by decide) ?_
  refine wp_puti 69 rfl fl_RX8_413 rfl ⟨by omega, by omega⟩ dX8_looks_11 rfl rfl ?_
  refine wp_iconst dX8_looks_14 (by decide) ?_
  refine wp_istore_n (loc' := [(2, 69), (0, a), (0, 0), (9, 0)]) dX8_looks_15 rfl (Nat.le_of_ble_eq_true rfl) rfl ?_
  have f2 : Fr Vla M1 (mu (mu M1 69 36 (-1)) 69 37 (-1)) := (Fr.rf.put (by unfold Vla; omega)).put (by unfold Vla; omega)
  exact lp_lko hn (by omega) h120 hN3 hok.2.1 (flA E A).length 0 (-1, -1) _ _ Q (by omega) (G1.fl f2) rfl rfl (fun M3 G3 a3 b3 F3 => k M3 G3 a3 b3 (F1.tr ((f2.tr F3).mono Vla.o)))
