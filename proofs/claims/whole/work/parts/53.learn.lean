/-! ===== the class's search: learn ===== -/
def lnA (A : Ls) : Od := (List.range (A.1 3).toNat).map (A.2 5)
theorem lnA_len (A : Ls) : (lnA A).length = (A.1 3).toNat := by simp [lnA]
theorem lnA_at {A : Ls} {p : Nat} (h : p < (A.1 3).toNat) : at0 (lnA A) p = A.2 5 p := by
  show ((List.range (A.1 3).toNat).map (A.2 5)).getD p 0 = _
  rw [List.getD_eq_getElem?_getD, List.getElem?_map, List.getElem?_range h]
  rfl
theorem lnA_mem {A : Ls} {a : Int} : a ∈ lnA A ↔ ∃ p : Nat, p < (A.1 3).toNat ∧ A.2 5 p = a := by
  unfold lnA
  rw [List.mem_map]
  exact ⟨fun ⟨p, h1, h2⟩ => ⟨p, List.mem_range.mp h1, h2⟩, fun ⟨p, h1, h2⟩ => ⟨p, List.mem_range.mpr h1, h2⟩⟩
def VZ (i j : Nat) : Prop := VX i j ∨ i = 57 ∨ i = 58 ∨ i = 59
theorem VZ.n : ∀ i j, VZ i j → VN i j := by
  intro i j h
  unfold VZ VX at h
  unfold VN VX
  omega
def LJ (L : Nat) (M : Mm) (A : Ls) (E : Ev) : Prop := SR M ∧ txOK M ∧ Rc M L A ∧ Wf A ∧ (0 ≤ A.1 1 ∧ A.1 1 < M 25 1) ∧ evC M = E ∧ M 52 10 = (L : Int) ∧ M 52 11 = A.1 3
theorem LJ.fr {L : Nat} {M M' : Mm} {A : Ls} {E : Ev} (h : LJ L M A E) (hL : L ≤ 16) (f : Fr VZ M M') (hR : SR M') : LJ L M' A E := by
  obtain ⟨h1, h2, h3, h4, h5, h6, h7, h8⟩ := h
  have fn := f.mono VZ.n
  have g : ∀ i j, ¬ VZ i j → M' i j = M i j := f
  refine ⟨hR, h2.frN fn, h3.frV f (fun i j v => by unfold VZ VX at v; omega), h4, ?_, (evC_frN fn).trans h6, ?_, ?_⟩
  · rw [g 25 1 (by unfold VZ VX; omega)]; exact h5
  · rw [g 52 10 (by unfold VZ VX; omega)]; exact h7
  · rw [g 52 11 (by unfold VZ VX; omega)]; exact h8
def mv (E : Ev) (A : Ls) (a b : Int) : Int := if mindsA E A a b = true then 1 else 0
def Tq (M : Mm) (E : Ev) (A : Ls) (p q : Nat) : Prop := ∀ p' q' : Nat, (p' : Int) < A.1 3 → (q' : Int) < A.1 3 → (p' < p ∨ (p' = p ∧ q' < q)) → M 57 (A.2 5 p' * 5 + A.2 5 q').toNat = mv E A (A.2 5 p') (A.2 5 q')
def Lq (M : Mm) (E : Ev) (A : Ls) (p : Nat) : Prop := ∀ p' : Nat, (p' : Int) < A.1 3 → p' < p → M 58 (A.2 5 p').toNat = lastsA E A (A.2 5 p') ∧ M 59 (A.2 5 p').toNat = irksA E A (A.2 5 p')
theorem Tq.put {M M' : Mm} {E : Ev} {A : Ls} {p q : Nat} (hW : Wf A) (h : Tq M E A p q) (hp : (p : Int) < A.1 3) (hq : (q : Int) < A.1 3) (e : ∀ j, M' 57 j = if j = (A.2 5 p * 5 + A.2 5 q).toNat then mv E A (A.2 5 p) (A.2 5 q) else M 57 j) : Tq M' E A p (q + 1) := by
  obtain ⟨w0, w1, w2, w3, w4, w5, w6⟩ := hW
  intro p' q' h1 h2 h3
  rw [e]
  have b1 := w4 p hp
  have b2 := w4 q hq
  have b3 := w4 p' h1
  have b4 := w4 q' h2
  by_cases c : (A.2 5 p' * 5 + A.2 5 q').toNat = (A.2 5 p * 5 + A.2 5 q).toNat
  · rw [if_pos c, show A.2 5 p' = A.2 5 p by omega, show A.2 5 q' = A.2 5 q by omega]
  · rw [if_neg c]
    refine h p' q' h1 h2 ?_
    rcases h3 with h3 | ⟨h3, h4⟩
    · exact Or.inl h3
    · refine Or.inr ⟨h3, ?_⟩
      have : q' ≠ q := fun e2 => c (by rw [h3, e2])
      omega
theorem Tq.nx {M : Mm} {E : Ev} {A : Ls} {p q : Nat} (h : Tq M E A p q) (hq : A.1 3 ≤ (q : Int)) : Tq M E A (p + 1) 0 := by
  intro p' q' h1 h2 h3
  exact h p' q' h1 h2 (by omega)
theorem Lq.put {M M' : Mm} {E : Ev} {A : Ls} {p : Nat} (hW : Wf A) (h : Lq M E A p) (hp : (p : Int) < A.1 3) (e1 : ∀ j, M' 58 j = if j = (A.2 5 p).toNat then lastsA E A (A.2 5 p) else M 58 j) (e2 : ∀ j, M' 59 j = if j = (A.2 5 p).toNat then irksA E A (A.2 5 p) else M 59 j) : Lq M' E A (p + 1) := by
  obtain ⟨w0, w1, w2, w3, w4, w5, w6⟩ := hW
  intro p' h1 h3
  rw [e1, e2]
  have b1 := w4 p hp
  have b3 := w4 p' h1
  by_cases c : (A.2 5 p').toNat = (A.2 5 p).toNat
  · rw [if_pos c, if_pos c, show A.2 5 p' = A.2 5 p by omega]; exact ⟨rfl, rfl⟩
  · rw [if_neg c, if_neg c]
    refine h p' h1 ?_
    have : p' ≠ p := fun e => c (by rw [e])
    omega
def VZ2 (i j : Nat) : Prop := VX i j ∨ i = 57
theorem VZ2.z : ∀ i j, VZ2 i j → VZ i j := by
  intro i j h
  unfold VZ2 VX at h
  unfold VZ VX
  omega
set_option maxRecDepth 20000 in
set_option maxHeartbeats 4000000 in
theorem lp_learn2_2  {l : Launch} {g : Gw} {d n : Nat} (hn : 60 ≤ n) (hd : 6 ≤ d) {A : Ls} {E : Ev} {p N : Nat} {Q : Option Wd → Mm → Prop} (hN : A.1 3 = (N : Int)) (hp : (p : Int) < A.1 3) : ∀ (m q : Nat) (M : Mm) (u : Wd), q + m = N → LJ 2 M A E → Tq M E A p q → (∀ u3 u4 M', LJ 2 M' A E → Tq M' E A (p + 1) 0 → Fr VZ2 M M' → SR M' → Wp l g d 0 0 n m_X3_learn 132 [] [(2, 52), (0, (p : Int)), (0, A.2 5 p), u3, u4] M' Q) → Wp l g d 0 0 n m_X3_learn 71 [] [(2, 52), (0, (p : Int)), (0, A.2 5 p), (0, (q : Int)), u] M Q := by
  intro m
  induction m with
  | zero =>
    intro q M u hq hJ hT k
    obtain ⟨hR, hX, hA, hW, hr, hE, hLd, hL⟩ := id hJ
    obtain ⟨a0, a1, a2, a3, ar, al⟩ := id hA
    obtain ⟨w0, w1, w2, w3, w4, w5, w6⟩ := id hW
    refine wp_iload_n dX3_learn_71 rfl rfl ?_
    refine wp_aload_n dX3_learn_72 rfl rfl ?_
    refine wp_get 52 rfl fl_RX3_57 rfl ⟨by omega, by omega⟩ dX3_learn_73 rfl (v := (M 52 11)) (rfl) ?_
    refine wp_icmp_ge (tgt := 132) dX3_learn_76 (by decide) (fun _ => ?_) (fun h => absurd h (by omega))
    exact k _ _ M hJ (hT.nx (by omega)) Fr.rf hR
  | succ m ih =>
    intro q M u hq hJ hT k
    obtain ⟨hR, hX, hA, hW, hr, hE, hLd, hL⟩ := id hJ
    obtain ⟨a0, a1, a2, a3, ar, al⟩ := id hA
    obtain ⟨w0, w1, w2, w3, w4, w5, w6⟩ := id hW
    have hvp := w4 p hp
    refine wp_iload_n dX3_learn_71 rfl rfl ?_
    refine wp_aload_n dX3_learn_72 rfl rfl ?_
    refine wp_get 52 rfl fl_RX3_57 rfl ⟨by omega, by omega⟩ dX3_learn_73 rfl (v := (M 52 11)) (rfl) ?_
    refine wp_icmp_ge (tgt := 132) dX3_learn_76 (by decide) (fun h => absurd h (by omega)) (fun _ => ?_)
    refine wp_aload_n dX3_learn_79 rfl rfl ?_
    refine wp_get 52 rfl fl_RX3_38 rfl ⟨by omega, by omega⟩ dX3_learn_80 rfl (v := 2) (hLd) ?_
    refine wp_iload_n dX3_learn_83 rfl rfl ?_
    refine wp_callV0 (d' := d - 1) cv_RX3_70 2 rfl [(0, (q : Int))] [] rfl rfl (Or.inl ⟨_, _, rfl, by decide, rfl, by omega, by omega⟩) (by omega) (Nat.le_of_ble_eq_true rfl) dX3_learn_84 rfl (Nat.le_of_ble_eq_true rfl) (by omega) (loc1 := [(2, 2), (0, (q : Int))]) rfl ?_
    refine sp_at_2 hn hR (q : Int) (fun _ => ?_) (fun h => absurd (by omega) h)
    rw [show M 8 ((q : Int)).toNat = A.2 5 q from al q (by omega)]
    have hv84 := w4 q (by omega)
    refine wp_istore (loc' := [(2, 52), (0, (p : Int)), (0, (A.2 5 p)), (0, (q : Int)), (0, (A.2 5 q))]) dX3_learn_87 (Nat.le_of_ble_eq_true rfl) rfl ?_
    refine wp_aload_n dX3_learn_89 rfl rfl ?_
    refine wp_get 52 rfl fl_RX3_38 rfl ⟨by omega, by omega⟩ dX3_learn_90 rfl (v := 2) (hLd) ?_
    refine wp_iload dX3_learn_93 rfl ?_
    refine wp_callV0 (d' := d - 1) cv_RX3_81 2 rfl [(0, (A.2 5 q))] [] rfl rfl (Or.inl ⟨_, _, rfl, by decide, rfl, by omega, by omega⟩) (by omega) (Nat.le_of_ble_eq_true rfl) dX3_learn_95 rfl (Nat.le_of_ble_eq_true rfl) (by omega) (loc1 := [(2, 2), (0, (A.2 5 q))]) rfl ?_
    refine sp_has_2 hn (A.2 5 q) (fun _ => ?_) (fun h => absurd (by omega) h)
    refine wp_if_eq (tgt := 126) dX3_learn_98 (by decide) (fun h => absurd h (by decide)) (fun _ => ?_)
    refine wp_aload_n dX3_learn_101 rfl rfl ?_
    refine wp_get 52 rfl fl_RX3_24 rfl ⟨by omega, by omega⟩ dX3_learn_102 rfl (v := 57) (sr_52_7 (M := M) hR) ?_
    refine wp_iload_n dX3_learn_105 rfl rfl ?_
    refine wp_iconst dX3_learn_106 (by decide) ?_
    refine wp_imul dX3_learn_107 (by omega) ?_
    refine wp_iload dX3_learn_108 rfl ?_
    refine wp_iadd dX3_learn_110 (by omega) ?_
    refine wp_aload_n dX3_learn_111 rfl rfl ?_
    refine wp_get 52 rfl fl_RX3_34 rfl ⟨by omega, by omega⟩ dX3_learn_112 rfl (v := 51) (sr_52_0 (M := M) hR) ?_
    refine wp_aload_n dX3_learn_115 rfl rfl ?_
    refine wp_get 52 rfl fl_RX3_38 rfl ⟨by omega, by omega⟩ dX3_learn_116 rfl (v := 2) (hLd) ?_
    refine wp_iload_n dX3_learn_119 rfl rfl ?_
    refine wp_iload dX3_learn_120 rfl ?_
    refine wp_callV0 (d' := d - 1) cv_RX3_94 51 rfl [(2, 2), (0, (A.2 5 p)), (0, (A.2 5 q))] [(0, (((A.2 5 p) * 5) + (A.2 5 q))), (2, 57)] rfl rfl (Or.inl ⟨_, _, rfl, by decide, rfl, by omega, by omega⟩) (by omega) (Nat.le_of_ble_eq_true rfl) dX3_learn_122 rfl (Nat.le_of_ble_eq_true rfl) (by omega) (loc1 := [(2, 51), (2, 2), (0, (A.2 5 p)), (0, (A.2 5 q)), (9, 0), (9, 0)]) rfl ?_
    refine sp_minds_2 hn (by omega) hR hX hA hW hr (A.2 5 p) (A.2 5 q) (fun hm M1 f1 hR1 => ?_) (fun hm M1 f1 hR1 => ?_)
    · refine wp_zast 57 rfl rfl ⟨by omega, by omega⟩ ⟨by omega, by omega⟩ (by omega) dX3_learn_125 (jn := ((((A.2 5 p) * 5) + (A.2 5 q))).toNat) rfl ?_
      refine wp_iinc (loc' := [(2, 52), (0, (p : Int)), (0, (A.2 5 p)), (0, ((q : Int) + 1)), (0, (A.2 5 q))]) dX3_learn_126 rfl (by omega) rfl ?_
      refine wp_goto (tgt := 71) dX3_learn_129 (by decide) ?_
      have f2 : Fr VZ2 M (mu M1 57 ((((A.2 5 p) * 5) + (A.2 5 q))).toNat 1) := (f1.mono (fun i j h => Or.inl h)).put (Or.inr rfl)
      have hR2 := SR.row (M := M1) (i := 57) (j := ((A.2 5 p) * 5 + (A.2 5 q)).toNat) (v := 1) (by decide) hR1
      have ev : mv E A (A.2 5 p) (A.2 5 q) = 1 := by unfold mv; rw [← hE]; exact if_pos hm
      refine ih (q + 1) _ _ (by omega) (hJ.fr (by omega) (f2.mono VZ2.z) hR2) (hT.put hW hp (by omega) (fun j => ?_)) (fun u3 u4 M2 b1 b2 b3 b4 => k u3 u4 M2 b1 b2 (f2.tr b3) b4)
      · rw [ev, ← f1 57 j (by unfold VX; omega)]; rfl
    · refine wp_zast 57 rfl rfl ⟨by omega, by omega⟩ ⟨by omega, by omega⟩ (by omega) dX3_learn_125 (jn := ((((A.2 5 p) * 5) + (A.2 5 q))).toNat) rfl ?_
      refine wp_iinc (loc' := [(2, 52), (0, (p : Int)), (0, (A.2 5 p)), (0, ((q : Int) + 1)), (0, (A.2 5 q))]) dX3_learn_126 rfl (by omega) rfl ?_
      refine wp_goto (tgt := 71) dX3_learn_129 (by decide) ?_
      have f2 : Fr VZ2 M (mu M1 57 ((((A.2 5 p) * 5) + (A.2 5 q))).toNat 0) := (f1.mono (fun i j h => Or.inl h)).put (Or.inr rfl)
      have hR2 := SR.row (M := M1) (i := 57) (j := ((A.2 5 p) * 5 + (A.2 5 q)).toNat) (v := 0) (by decide) hR1
      have ev : mv E A (A.2 5 p) (A.2 5 q) = 0 := by unfold mv; rw [← hE]; exact if_neg (by rw [hm]; decide)
      refine ih (q + 1) _ _ (by omega) (hJ.fr (by omega) (f2.mono VZ2.z) hR2) (hT.put hW hp (by omega) (fun j => ?_)) (fun u3 u4 M2 b1 b2 b3 b4 => k u3 u4 M2 b1 b2 (f2.tr b3) b4)
      · rw [ev, ← f1 57 j (by unfold VX; omega)]; rfl
set_option maxRecDepth 20000 in
set_option maxHeartbeats 4000000 in
theorem lp_learn2_16  {l : Launch} {g : Gw} {d n : Nat} (hn : 60 ≤ n) (hd : 6 ≤ d) {A : Ls} {E : Ev} {p N : Nat} {Q : Option Wd → Mm → Prop} (hN : A.1 3 = (N : Int)) (hp : (p : Int) < A.1 3) : ∀ (m q : Nat) (M : Mm) (u : Wd), q + m = N → LJ 16 M A E → Tq M E A p q → (∀ u3 u4 M', LJ 16 M' A E → Tq M' E A (p + 1) 0 → Fr VZ2 M M' → SR M' → Wp l g d 0 0 n m_X3_learn 132 [] [(2, 52), (0, (p : Int)), (0, A.2 5 p), u3, u4] M' Q) → Wp l g d 0 0 n m_X3_learn 71 [] [(2, 52), (0, (p : Int)), (0, A.2 5 p), (0, (q : Int)), u] M Q := by
  intro m
  induction m with
  | zero =>
    intro q M u hq hJ hT k
    obtain ⟨hR, hX, hA, hW, hr, hE, hLd, hL⟩ := id hJ
    obtain ⟨a0, a1, a2, a3, ar, al⟩ := id hA
    obtain ⟨w0, w1, w2, w3, w4, w5, w6⟩ := id hW
    refine wp_iload_n dX3_learn_71 rfl rfl ?_
    refine wp_aload_n dX3_learn_72 rfl rfl ?_
    refine wp_get 52 rfl fl_RX3_57 rfl ⟨by omega, by omega⟩ dX3_learn_73 rfl (v := (M 52 11)) (rfl) ?_
    refine wp_icmp_ge (tgt := 132) dX3_learn_76 (by decide) (fun _ => ?_) (fun h => absurd h (by omega))
    exact k _ _ M hJ (hT.nx (by omega)) Fr.rf hR
  | succ m ih =>
    intro q M u hq hJ hT k
    obtain ⟨hR, hX, hA, hW, hr, hE, hLd, hL⟩ := id hJ
    obtain ⟨a0, a1, a2, a3, ar, al⟩ := id hA
    obtain ⟨w0, w1, w2, w3, w4, w5, w6⟩ := id hW
    have hvp := w4 p hp
    refine wp_iload_n dX3_learn_71 rfl rfl ?_
    refine wp_aload_n dX3_learn_72 rfl rfl ?_
    refine wp_get 52 rfl fl_RX3_57 rfl ⟨by omega, by omega⟩ dX3_learn_73 rfl (v := (M 52 11)) (rfl) ?_
    refine wp_icmp_ge (tgt := 132) dX3_learn_76 (by decide) (fun h => absurd h (by omega)) (fun _ => ?_)
    refine wp_aload_n dX3_learn_79 rfl rfl ?_
    refine wp_get 52 rfl fl_RX3_38 rfl ⟨by omega, by omega⟩ dX3_learn_80 rfl (v := 16) (hLd) ?_
    refine wp_iload_n dX3_learn_83 rfl rfl ?_
    refine wp_callV0 (d' := d - 1) cv_RX3_70 16 rfl [(0, (q : Int))] [] rfl rfl (Or.inl ⟨_, _, rfl, by decide, rfl, by omega, by omega⟩) (by omega) (Nat.le_of_ble_eq_true rfl) dX3_learn_84 rfl (Nat.le_of_ble_eq_true rfl) (by omega) (loc1 := [(2, 16), (0, (q : Int))]) rfl ?_
    refine sp_at_16 hn hR (q : Int) (fun _ => ?_) (fun h => absurd (by omega) h)
    rw [show M 22 ((q : Int)).toNat = A.2 5 q from al q (by omega)]
    have hv84 := w4 q (by omega)
    refine wp_istore (loc' := [(2, 52), (0, (p : Int)), (0, (A.2 5 p)), (0, (q : Int)), (0, (A.2 5 q))]) dX3_learn_87 (Nat.le_of_ble_eq_true rfl) rfl ?_
    refine wp_aload_n dX3_learn_89 rfl rfl ?_
    refine wp_get 52 rfl fl_RX3_38 rfl ⟨by omega, by omega⟩ dX3_learn_90 rfl (v := 16) (hLd) ?_
    refine wp_iload dX3_learn_93 rfl ?_
    refine wp_callV0 (d' := d - 1) cv_RX3_81 16 rfl [(0, (A.2 5 q))] [] rfl rfl (Or.inl ⟨_, _, rfl, by decide, rfl, by omega, by omega⟩) (by omega) (Nat.le_of_ble_eq_true rfl) dX3_learn_95 rfl (Nat.le_of_ble_eq_true rfl) (by omega) (loc1 := [(2, 16), (0, (A.2 5 q))]) rfl ?_
    refine sp_has_16 hn (A.2 5 q) (fun _ => ?_) (fun h => absurd (by omega) h)
    refine wp_if_eq (tgt := 126) dX3_learn_98 (by decide) (fun h => absurd h (by decide)) (fun _ => ?_)
    refine wp_aload_n dX3_learn_101 rfl rfl ?_
    refine wp_get 52 rfl fl_RX3_24 rfl ⟨by omega, by omega⟩ dX3_learn_102 rfl (v := 57) (sr_52_7 (M := M) hR) ?_
    refine wp_iload_n dX3_learn_105 rfl rfl ?_
    refine wp_iconst dX3_learn_106 (by decide) ?_
    refine wp_imul dX3_learn_107 (by omega) ?_
    refine wp_iload dX3_learn_108 rfl ?_
    refine wp_iadd dX3_learn_110 (by omega) ?_
    refine wp_aload_n dX3_learn_111 rfl rfl ?_
    refine wp_get 52 rfl fl_RX3_34 rfl ⟨by omega, by omega⟩ dX3_learn_112 rfl (v := 51) (sr_52_0 (M := M) hR) ?_
    refine wp_aload_n dX3_learn_115 rfl rfl ?_
    refine wp_get 52 rfl fl_RX3_38 rfl ⟨by omega, by omega⟩ dX3_learn_116 rfl (v := 16) (hLd) ?_
    refine wp_iload_n dX3_learn_119 rfl rfl ?_
    refine wp_iload dX3_learn_120 rfl ?_
    refine wp_callV0 (d' := d - 1) cv_RX3_94 51 rfl [(2, 16), (0, (A.2 5 p)), (0, (A.2 5 q))] [(0, (((A.2 5 p) * 5) + (A.2 5 q))), (2, 57)] rfl rfl (Or.inl ⟨_, _, rfl, by decide, rfl, by omega, by omega⟩) (by omega) (Nat.le_of_ble_eq_true rfl) dX3_learn_122 rfl (Nat.le_of_ble_eq_true rfl) (by omega) (loc1 := [(2, 51), (2, 16), (0, (A.2 5 p)), (0, (A.2 5 q)), (9, 0), (9, 0)]) rfl ?_
    refine sp_minds_16 hn (by omega) hR hX hA hW hr (A.2 5 p) (A.2 5 q) (fun hm M1 f1 hR1 => ?_) (fun hm M1 f1 hR1 => ?_)
    · refine wp_zast 57 rfl rfl ⟨by omega, by omega⟩ ⟨by omega, by omega⟩ (by omega) dX3_learn_125 (jn := ((((A.2 5 p) * 5) + (A.2 5 q))).toNat) rfl ?_
      refine wp_iinc (loc' := [(2, 52), (0, (p : Int)), (0, (A.2 5 p)), (0, ((q : Int) + 1)), (0, (A.2 5 q))]) dX3_learn_126 rfl (by omega) rfl ?_
      refine wp_goto (tgt := 71) dX3_learn_129 (by decide) ?_
      have f2 : Fr VZ2 M (mu M1 57 ((((A.2 5 p) * 5) + (A.2 5 q))).toNat 1) := (f1.mono (fun i j h => Or.inl h)).put (Or.inr rfl)
      have hR2 := SR.row (M := M1) (i := 57) (j := ((A.2 5 p) * 5 + (A.2 5 q)).toNat) (v := 1) (by decide) hR1
      have ev : mv E A (A.2 5 p) (A.2 5 q) = 1 := by unfold mv; rw [← hE]; exact if_pos hm
      refine ih (q + 1) _ _ (by omega) (hJ.fr (by omega) (f2.mono VZ2.z) hR2) (hT.put hW hp (by omega) (fun j => ?_)) (fun u3 u4 M2 b1 b2 b3 b4 => k u3 u4 M2 b1 b2 (f2.tr b3) b4)
      · rw [ev, ← f1 57 j (by unfold VX; omega)]; rfl
    · refine wp_zast 57 rfl rfl ⟨by omega, by omega⟩ ⟨by omega, by omega⟩ (by omega) dX3_learn_125 (jn := ((((A.2 5 p) * 5) + (A.2 5 q))).toNat) rfl ?_
      refine wp_iinc (loc' := [(2, 52), (0, (p : Int)), (0, (A.2 5 p)), (0, ((q : Int) + 1)), (0, (A.2 5 q))]) dX3_learn_126 rfl (by omega) rfl ?_
      refine wp_goto (tgt := 71) dX3_learn_129 (by decide) ?_
      have f2 : Fr VZ2 M (mu M1 57 ((((A.2 5 p) * 5) + (A.2 5 q))).toNat 0) := (f1.mono (fun i j h => Or.inl h)).put (Or.inr rfl)
      have hR2 := SR.row (M := M1) (i := 57) (j := ((A.2 5 p) * 5 + (A.2 5 q)).toNat) (v := 0) (by decide) hR1
      have ev : mv E A (A.2 5 p) (A.2 5 q) = 0 := by unfold mv; rw [← hE]; exact if_neg (by rw [hm]; decide)
      refine ih (q + 1) _ _ (by omega) (hJ.fr (by omega) (f2.mono VZ2.z) hR2) (hT.put hW hp (by omega) (fun j => ?_)) (fun u3 u4 M2 b1 b2 b3 b4 => k u3 u4 M2 b1 b2 (f2.tr b3) b4)
      · rw [ev, ← f1 57 j (by unfold VX; omega)]; rfl
set_option maxRecDepth 20000 in
set_option maxHeartbeats 4000000 in
theorem lp_learn_2  {l : Launch} {g : Gw} {d n : Nat} (hn : 60 ≤ n) (hd : 6 ≤ d) {A : Ls} {E : Ev} {N : Nat} {Q : Option Wd → Mm → Prop} (hN : A.1 3 = (N : Int)) : ∀ (m p : Nat) (M : Mm) (u2 u3 u4 : Wd), p + m = N → LJ 2 M A E → Tq M E A p 0 → Lq M E A p → (∀ M', LJ 2 M' A E → Tq M' E A N 0 → Lq M' E A N → Fr VZ M M' → Q none M') → Wp l g d 0 0 n m_X3_learn 2 [] [(2, 52), (0, (p : Int)), u2, u3, u4] M Q := by
  intro m
  induction m with
  | zero =>
    intro p M u2 u3 u4 hp hJ hT hq k
    obtain ⟨hR, hX, hA, hW, hr, hE, hLd, hL⟩ := id hJ
    obtain ⟨a0, a1, a2, a3, ar, al⟩ := id hA
    obtain ⟨w0, w1, w2, w3, w4, w5, w6⟩ := id hW
    refine wp_iload_n dX3_learn_2 rfl rfl ?_
    refine wp_aload_n dX3_learn_3 rfl rfl ?_
    refine wp_get 52 rfl fl_RX3_57 rfl ⟨by omega, by omega⟩ dX3_learn_4 rfl (v := (M 52 11)) (rfl) ?_
    refine wp_icmp_ge (tgt := 138) dX3_learn_7 (by decide) (fun _ => ?_) (fun h => absurd h (by omega))
    refine wp_vret rfl dX3_learn_138 ?_
    have hpN : p = N := by omega
    subst hpN
    exact k M hJ hT hq Fr.rf
  | succ m ih =>
    intro p M u2 u3 u4 hp hJ hT hq k
    obtain ⟨hR, hX, hA, hW, hr, hE, hLd, hL⟩ := id hJ
    obtain ⟨a0, a1, a2, a3, ar, al⟩ := id hA
    obtain ⟨w0, w1, w2, w3, w4, w5, w6⟩ := id hW
    refine wp_iload_n dX3_learn_2 rfl rfl ?_
    refine wp_aload_n dX3_learn_3 rfl rfl ?_
    refine wp_get 52 rfl fl_RX3_57 rfl ⟨by omega, by omega⟩ dX3_learn_4 rfl (v := (M 52 11)) (rfl) ?_
    refine wp_icmp_ge (tgt := 138) dX3_learn_7 (by decide) (fun h => absurd h (by omega)) (fun _ => ?_)
    refine wp_aload_n dX3_learn_10 rfl rfl ?_
    refine wp_get 52 rfl fl_RX3_38 rfl ⟨by omega, by omega⟩ dX3_learn_11 rfl (v := 2) (hLd) ?_
    refine wp_iload_n dX3_learn_14 rfl rfl ?_
    refine wp_callV0 (d' := d - 1) cv_RX3_70 2 rfl [(0, (p : Int))] [] rfl rfl (Or.inl ⟨_, _, rfl, by decide, rfl, by omega, by omega⟩) (by omega) (Nat.le_of_ble_eq_true rfl) dX3_learn_15 rfl (Nat.le_of_ble_eq_true rfl) (by omega) (loc1 := [(2, 2), (0, (p : Int))]) rfl ?_
    refine sp_at_2 hn hR (p : Int) (fun _ => ?_) (fun h => absurd (by omega) h)
    rw [show M 8 ((p : Int)).toNat = A.2 5 p from al p (by omega)]
    have hvp := w4 p (by omega)
    refine wp_istore_n (loc' := [(2, 52), (0, (p : Int)), (0, (A.2 5 p)), u3, u4]) dX3_learn_18 rfl (Nat.le_of_ble_eq_true rfl) rfl ?_
    refine wp_aload_n dX3_learn_19 rfl rfl ?_
    refine wp_get 52 rfl fl_RX3_38 rfl ⟨by omega, by omega⟩ dX3_learn_20 rfl (v := 2) (hLd) ?_
    refine wp_iload_n dX3_learn_23 rfl rfl ?_
    refine wp_callV0 (d' := d - 1) cv_RX3_81 2 rfl [(0, (A.2 5 p))] [] rfl rfl (Or.inl ⟨_, _, rfl, by decide, rfl, by omega, by omega⟩) (by omega) (Nat.le_of_ble_eq_true rfl) dX3_learn_24 rfl (Nat.le_of_ble_eq_true rfl) (by omega) (loc1 := [(2, 2), (0, (A.2 5 p))]) rfl ?_
    refine sp_has_2 hn (A.2 5 p) (fun _ => ?_) (fun h => absurd (by omega) h)
    refine wp_if_ne (tgt := 33) dX3_learn_27 (by decide) (fun _ => ?_) (fun h => absurd h (by decide))
    refine wp_aload_n dX3_learn_33 rfl rfl ?_
    refine wp_get 52 rfl fl_RX3_28 rfl ⟨by omega, by omega⟩ dX3_learn_34 rfl (v := 58) (sr_52_8 (M := M) hR) ?_
    refine wp_iload_n dX3_learn_37 rfl rfl ?_
    refine wp_aload_n dX3_learn_38 rfl rfl ?_
    refine wp_get 52 rfl fl_RX3_34 rfl ⟨by omega, by omega⟩ dX3_learn_39 rfl (v := 51) (sr_52_0 (M := M) hR) ?_
    refine wp_aload_n dX3_learn_42 rfl rfl ?_
    refine wp_get 52 rfl fl_RX3_38 rfl ⟨by omega, by omega⟩ dX3_learn_43 rfl (v := 2) (hLd) ?_
    refine wp_iload_n dX3_learn_46 rfl rfl ?_
    refine wp_callV0 (d' := d - 1) cv_RX3_85 51 rfl [(2, 2), (0, (A.2 5 p))] [(0, (A.2 5 p)), (2, 58)] rfl rfl (Or.inl ⟨_, _, rfl, by decide, rfl, by omega, by omega⟩) (by omega) (Nat.le_of_ble_eq_true rfl) dX3_learn_47 rfl (Nat.le_of_ble_eq_true rfl) (by omega) (loc1 := [(2, 51), (2, 2), (0, (A.2 5 p)), (9, 0)]) rfl ?_
    refine sp_lasts_2 hn (by omega) hR hX hA hW hr (A.2 5 p) (by omega) (fun M1 f1 hR1 => ?_)
    rw [hE]
    have hLd1 : M1 52 10 = 2 := (f1 52 10 (by unfold VX; omega)).trans hLd
    refine wp_iast 58 rfl rfl ⟨by omega, by omega⟩ ⟨by omega, by omega⟩ dX3_learn_50 (jn := ((A.2 5 p)).toNat) rfl ?_
    refine wp_aload_n dX3_learn_51 rfl rfl ?_
    refine wp_get 52 rfl fl_RX3_31 rfl ⟨by omega, by omega⟩ dX3_learn_52 rfl (v := 59) (sr_52_9 (M := M1) hR1) ?_
    refine wp_iload_n dX3_learn_55 rfl rfl ?_
    refine wp_aload_n dX3_learn_56 rfl rfl ?_
    refine wp_get 52 rfl fl_RX3_34 rfl ⟨by omega, by omega⟩ dX3_learn_57 rfl (v := 51) (sr_52_0 (M := M1) hR1) ?_
    refine wp_aload_n dX3_learn_60 rfl rfl ?_
    refine wp_get 52 rfl fl_RX3_38 rfl ⟨by omega, by omega⟩ dX3_learn_61 rfl (v := 2) (hLd1) ?_
    refine wp_iload_n dX3_learn_64 rfl rfl ?_
    refine wp_callV0 (d' := d - 1) cv_RX3_91 51 rfl [(2, 2), (0, (A.2 5 p))] [(0, (A.2 5 p)), (2, 59)] rfl rfl (Or.inl ⟨_, _, rfl, by decide, rfl, by omega, by omega⟩) (by omega) (Nat.le_of_ble_eq_true rfl) dX3_learn_65 rfl (Nat.le_of_ble_eq_true rfl) (by omega) (loc1 := [(2, 51), (2, 2), (0, (A.2 5 p)), (9, 0)]) rfl ?_
    have f2 : Fr VZ M (mu M1 58 (A.2 5 p).toNat (lastsA E A (A.2 5 p))) := (f1.mono (fun i j h => Or.inl h)).put (Or.inr (Or.inr (Or.inl rfl)))
    have hR2 := SR.row (M := M1) (i := 58) (j := (A.2 5 p).toNat) (v := (lastsA E A (A.2 5 p))) (by decide) hR1
    obtain ⟨-, hX2, hA2, hW2, hr2, hE2, hLd2, -⟩ := hJ.fr (by omega) f2 hR2
    refine sp_irks_2 hn (by omega) hR2 hX2 hA2 hW2 hr2 (A.2 5 p) (by omega) (fun M3 f3 hR3 => ?_)
    rw [hE2]
    refine wp_iast 59 rfl rfl ⟨by omega, by omega⟩ ⟨by omega, by omega⟩ dX3_learn_68 (jn := ((A.2 5 p)).toNat) rfl ?_
    refine wp_iconst dX3_learn_69 (by decide) ?_
    refine wp_istore_n (loc' := [(2, 52), (0, (p : Int)), (0, (A.2 5 p)), (0, 0), u4]) dX3_learn_70 rfl (Nat.le_of_ble_eq_true rfl) rfl ?_
    have f4 : Fr VZ M (mu M3 59 (A.2 5 p).toNat (irksA E A (A.2 5 p))) := (f2.tr (f3.mono (fun i j h => Or.inl h))).put (Or.inr (Or.inr (Or.inr rfl)))
    have hR4 := SR.row (M := M3) (i := 59) (j := (A.2 5 p).toNat) (v := (irksA E A (A.2 5 p))) (by decide) hR3
    have hJ4 := hJ.fr (by omega) f4 hR4
    have e57 : ∀ j, (mu M3 59 (A.2 5 p).toNat (irksA E A (A.2 5 p))) 57 j = M 57 j := fun j => (f3 57 j (by unfold VX; omega)).trans (f1 57 j (by unfold VX; omega))
    have hT4 : Tq (mu M3 59 (A.2 5 p).toNat (irksA E A (A.2 5 p))) E A p 0 := fun p' q' h1 h2 h3 => (e57 _).trans (hT p' q' h1 h2 h3)
    have e58 : ∀ j, (mu M3 59 (A.2 5 p).toNat (irksA E A (A.2 5 p))) 58 j = if j = (A.2 5 p).toNat then lastsA E A (A.2 5 p) else M 58 j := fun j => by
      show M3 58 j = _
      rw [f3 58 j (by unfold VX; omega), ← f1 58 j (by unfold VX; omega)]
      rfl
    have e59 : ∀ j, (mu M3 59 (A.2 5 p).toNat (irksA E A (A.2 5 p))) 59 j = if j = (A.2 5 p).toNat then irksA E A (A.2 5 p) else M 59 j := fun j => by
      rw [← f1 59 j (by unfold VX; omega), show M1 59 j = M3 59 j from (f3 59 j (by unfold VX; omega)).symm]
      rfl
    have hL4 : Lq (mu M3 59 (A.2 5 p).toNat (irksA E A (A.2 5 p))) E A (p + 1) := hq.put hW (by omega) e58 e59
    refine lp_learn2_2 hn hd hN (by omega) N 0 _ _ (by omega) hJ4 hT4 (fun u3 u4 M5 b1 b2 b3 b4 => ?_)
    refine wp_iinc (loc' := [(2, 52), (0, ((p : Int) + 1)), (0, (A.2 5 p)), u3, u4]) dX3_learn_132 rfl (by omega) rfl ?_
    refine wp_goto (tgt := 2) dX3_learn_135 (by decide) ?_
    refine ih (p + 1) M5 _ _ _ (by omega) b1 b2 (fun p' h1 h2 => ?_) (fun M6 c1 c2 c3 c4 => k M6 c1 c2 c3 (f4.tr ((b3.mono VZ2.z).tr c4)))
    rw [b3 58 _ (by unfold VZ2 VX; omega), b3 59 _ (by unfold VZ2 VX; omega)]
    exact hL4 p' h1 h2
set_option maxRecDepth 20000 in
set_option maxHeartbeats 4000000 in
theorem sp_learn_2 {l : Launch} {g : Gw} {d n : Nat} {M : Mm} {Q : Option Wd → Mm → Prop} (hn : 60 ≤ n) (hd : 6 ≤ d) {A : Ls} {E : Ev} (hJ : LJ 2 M A E) (k : ∀ M', LJ 2 M' A E → Tq M' E A (A.1 3).toNat 0 → Lq M' E A (A.1 3).toNat → Fr VZ M M' → Q none M') : Wp l g d 0 0 n m_X3_learn 0 [] [(2, 52), (9, 0), (9, 0), (9, 0), (9, 0)] M Q := by
  have hR := hJ.1
  refine wp_iconst dX3_learn_0 (by decide) ?_
  refine wp_istore_n (loc' := [(2, 52), (0, 0), (9, 0), (9, 0), (9, 0)]) dX3_learn_1 rfl (Nat.le_of_ble_eq_true rfl) rfl ?_
  exact lp_learn_2 hn hd (N := (A.1 3).toNat) (by have := hJ.2.2.2.1.2.2.1; omega) (A.1 3).toNat 0 M _ _ _ (by omega) hJ (fun p' q' h1 h2 h3 => by omega) (fun p' h1 h2 => by omega) k
set_option maxRecDepth 20000 in
set_option maxHeartbeats 4000000 in
theorem lp_learn_16  {l : Launch} {g : Gw} {d n : Nat} (hn : 60 ≤ n) (hd : 6 ≤ d) {A : Ls} {E : Ev} {N : Nat} {Q : Option Wd → Mm → Prop} (hN : A.1 3 = (N : Int)) : ∀ (m p : Nat) (M : Mm) (u2 u3 u4 : Wd), p + m = N → LJ 16 M A E → Tq M E A p 0 → Lq M E A p → (∀ M', LJ 16 M' A E → Tq M' E A N 0 → Lq M' E A N → Fr VZ M M' → Q none M') → Wp l g d 0 0 n m_X3_learn 2 [] [(2, 52), (0, (p : Int)), u2, u3, u4] M Q := by
  intro m
  induction m with
  | zero =>
    intro p M u2 u3 u4 hp hJ hT hq k
    obtain ⟨hR, hX, hA, hW, hr, hE, hLd, hL⟩ := id hJ
    obtain ⟨a0, a1, a2, a3, ar, al⟩ := id hA
    obtain ⟨w0, w1, w2, w3, w4, w5, w6⟩ := id hW
    refine wp_iload_n dX3_learn_2 rfl rfl ?_
    refine wp_aload_n dX3_learn_3 rfl rfl ?_
    refine wp_get 52 rfl fl_RX3_57 rfl ⟨by omega, by omega⟩ dX3_learn_4 rfl (v := (M 52 11)) (rfl) ?_
    refine wp_icmp_ge (tgt := 138) dX3_learn_7 (by decide) (fun _ => ?_) (fun h => absurd h (by omega))
    refine wp_vret rfl dX3_learn_138 ?_
    have hpN : p = N := by omega
    subst hpN
    exact k M hJ hT hq Fr.rf
  | succ m ih =>
    intro p M u2 u3 u4 hp hJ hT hq k
    obtain ⟨hR, hX, hA, hW, hr, hE, hLd, hL⟩ := id hJ
    obtain ⟨a0, a1, a2, a3, ar, al⟩ := id hA
    obtain ⟨w0, w1, w2, w3, w4, w5, w6⟩ := id hW
    refine wp_iload_n dX3_learn_2 rfl rfl ?_
    refine wp_aload_n dX3_learn_3 rfl rfl ?_
    refine wp_get 52 rfl fl_RX3_57 rfl ⟨by omega, by omega⟩ dX3_learn_4 rfl (v := (M 52 11)) (rfl) ?_
    refine wp_icmp_ge (tgt := 138) dX3_learn_7 (by decide) (fun h => absurd h (by omega)) (fun _ => ?_)
    refine wp_aload_n dX3_learn_10 rfl rfl ?_
    refine wp_get 52 rfl fl_RX3_38 rfl ⟨by omega, by omega⟩ dX3_learn_11 rfl (v := 16) (hLd) ?_
    refine wp_iload_n dX3_learn_14 rfl rfl ?_
    refine wp_callV0 (d' := d - 1) cv_RX3_70 16 rfl [(0, (p : Int))] [] rfl rfl (Or.inl ⟨_, _, rfl, by decide, rfl, by omega, by omega⟩) (by omega) (Nat.le_of_ble_eq_true rfl) dX3_learn_15 rfl (Nat.le_of_ble_eq_true rfl) (by omega) (loc1 := [(2, 16), (0, (p : Int))]) rfl ?_
    refine sp_at_16 hn hR (p : Int) (fun _ => ?_) (fun h => absurd (by omega) h)
    rw [show M 22 ((p : Int)).toNat = A.2 5 p from al p (by omega)]
    have hvp := w4 p (by omega)
    refine wp_istore_n (loc' := [(2, 52), (0, (p : Int)), (0, (A.2 5 p)), u3, u4]) dX3_learn_18 rfl (Nat.le_of_ble_eq_true rfl) rfl ?_
    refine wp_aload_n dX3_learn_19 rfl rfl ?_
    refine wp_get 52 rfl fl_RX3_38 rfl ⟨by omega, by omega⟩ dX3_learn_20 rfl (v := 16) (hLd) ?_
    refine wp_iload_n dX3_learn_23 rfl rfl ?_
    refine wp_callV0 (d' := d - 1) cv_RX3_81 16 rfl [(0, (A.2 5 p))] [] rfl rfl (Or.inl ⟨_, _, rfl, by decide, rfl, by omega, by omega⟩) (by omega) (Nat.le_of_ble_eq_true rfl) dX3_learn_24 rfl (Nat.le_of_ble_eq_true rfl) (by omega) (loc1 := [(2, 16), (0, (A.2 5 p))]) rfl ?_
    refine sp_has_16 hn (A.2 5 p) (fun _ => ?_) (fun h => absurd (by omega) h)
    refine wp_if_ne (tgt := 33) dX3_learn_27 (by decide) (fun _ => ?_) (fun h => absurd h (by decide))
    refine wp_aload_n dX3_learn_33 rfl rfl ?_
    refine wp_get 52 rfl fl_RX3_28 rfl ⟨by omega, by omega⟩ dX3_learn_34 rfl (v := 58) (sr_52_8 (M := M) hR) ?_
    refine wp_iload_n dX3_learn_37 rfl rfl ?_
    refine wp_aload_n dX3_learn_38 rfl rfl ?_
    refine wp_get 52 rfl fl_RX3_34 rfl ⟨by omega, by omega⟩ dX3_learn_39 rfl (v := 51) (sr_52_0 (M := M) hR) ?_
    refine wp_aload_n dX3_learn_42 rfl rfl ?_
    refine wp_get 52 rfl fl_RX3_38 rfl ⟨by omega, by omega⟩ dX3_learn_43 rfl (v := 16) (hLd) ?_
    refine wp_iload_n dX3_learn_46 rfl rfl ?_
    refine wp_callV0 (d' := d - 1) cv_RX3_85 51 rfl [(2, 16), (0, (A.2 5 p))] [(0, (A.2 5 p)), (2, 58)] rfl rfl (Or.inl ⟨_, _, rfl, by decide, rfl, by omega, by omega⟩) (by omega) (Nat.le_of_ble_eq_true rfl) dX3_learn_47 rfl (Nat.le_of_ble_eq_true rfl) (by omega) (loc1 := [(2, 51), (2, 16), (0, (A.2 5 p)), (9, 0)]) rfl ?_
    refine sp_lasts_16 hn (by omega) hR hX hA hW hr (A.2 5 p) (by omega) (fun M1 f1 hR1 => ?_)
    rw [hE]
    have hLd1 : M1 52 10 = 16 := (f1 52 10 (by unfold VX; omega)).trans hLd
    refine wp_iast 58 rfl rfl ⟨by omega, by omega⟩ ⟨by omega, by omega⟩ dX3_learn_50 (jn := ((A.2 5 p)).toNat) rfl ?_
    refine wp_aload_n dX3_learn_51 rfl rfl ?_
    refine wp_get 52 rfl fl_RX3_31 rfl ⟨by omega, by omega⟩ dX3_learn_52 rfl (v := 59) (sr_52_9 (M := M1) hR1) ?_
    refine wp_iload_n dX3_learn_55 rfl rfl ?_
    refine wp_aload_n dX3_learn_56 rfl rfl ?_
    refine wp_get 52 rfl fl_RX3_34 rfl ⟨by omega, by omega⟩ dX3_learn_57 rfl (v := 51) (sr_52_0 (M := M1) hR1) ?_
    refine wp_aload_n dX3_learn_60 rfl rfl ?_
    refine wp_get 52 rfl fl_RX3_38 rfl ⟨by omega, by omega⟩ dX3_learn_61 rfl (v := 16) (hLd1) ?_
    refine wp_iload_n dX3_learn_64 rfl rfl ?_
    refine wp_callV0 (d' := d - 1) cv_RX3_91 51 rfl [(2, 16), (0, (A.2 5 p))] [(0, (A.2 5 p)), (2, 59)] rfl rfl (Or.inl ⟨_, _, rfl, by decide, rfl, by omega, by omega⟩) (by omega) (Nat.le_of_ble_eq_true rfl) dX3_learn_65 rfl (Nat.le_of_ble_eq_true rfl) (by omega) (loc1 := [(2, 51), (2, 16), (0, (A.2 5 p)), (9, 0)]) rfl ?_
    have f2 : Fr VZ M (mu M1 58 (A.2 5 p).toNat (lastsA E A (A.2 5 p))) := (f1.mono (fun i j h => Or.inl h)).put (Or.inr (Or.inr (Or.inl rfl)))
    have hR2 := SR.row (M := M1) (i := 58) (j := (A.2 5 p).toNat) (v := (lastsA E A (A.2 5 p))) (by decide) hR1
    obtain ⟨-, hX2, hA2, hW2, hr2, hE2, hLd2, -⟩ := hJ.fr (by omega) f2 hR2
    refine sp_irks_16 hn (by omega) hR2 hX2 hA2 hW2 hr2 (A.2 5 p) (by omega) (fun M3 f3 hR3 => ?_)
    rw [hE2]
    refine wp_iast 59 rfl rfl ⟨by omega, by omega⟩ ⟨by omega, by omega⟩ dX3_learn_68 (jn := ((A.2 5 p)).toNat) rfl ?_
    refine wp_iconst dX3_learn_69 (by decide) ?_
    refine wp_istore_n (loc' := [(2, 52), (0, (p : Int)), (0, (A.2 5 p)), (0, 0), u4]) dX3_learn_70 rfl (Nat.le_of_ble_eq_true rfl) rfl ?_
    have f4 : Fr VZ M (mu M3 59 (A.2 5 p).toNat (irksA E A (A.2 5 p))) := (f2.tr (f3.mono (fun i j h => Or.inl h))).put (Or.inr (Or.inr (Or.inr rfl)))
    have hR4 := SR.row (M := M3) (i := 59) (j := (A.2 5 p).toNat) (v := (irksA E A (A.2 5 p))) (by decide) hR3
    have hJ4 := hJ.fr (by omega) f4 hR4
    have e57 : ∀ j, (mu M3 59 (A.2 5 p).toNat (irksA E A (A.2 5 p))) 57 j = M 57 j := fun j => (f3 57 j (by unfold VX; omega)).trans (f1 57 j (by unfold VX; omega))
    have hT4 : Tq (mu M3 59 (A.2 5 p).toNat (irksA E A (A.2 5 p))) E A p 0 := fun p' q' h1 h2 h3 => (e57 _).trans (hT p' q' h1 h2 h3)
    have e58 : ∀ j, (mu M3 59 (A.2 5 p).toNat (irksA E A (A.2 5 p))) 58 j = if j = (A.2 5 p).toNat then lastsA E A (A.2 5 p) else M 58 j := fun j => by
      show M3 58 j = _
      rw [f3 58 j (by unfold VX; omega), ← f1 58 j (by unfold VX; omega)]
      rfl
    have e59 : ∀ j, (mu M3 59 (A.2 5 p).toNat (irksA E A (A.2 5 p))) 59 j = if j = (A.2 5 p).toNat then irksA E A (A.2 5 p) else M 59 j := fun j => by
      rw [← f1 59 j (by unfold VX; omega), show M1 59 j = M3 59 j from (f3 59 j (by unfold VX; omega)).symm]
      rfl
    have hL4 : Lq (mu M3 59 (A.2 5 p).toNat (irksA E A (A.2 5 p))) E A (p + 1) := hq.put hW (by omega) e58 e59
    refine lp_learn2_16 hn hd hN (by omega) N 0 _ _ (by omega) hJ4 hT4 (fun u3 u4 M5 b1 b2 b3 b4 => ?_)
    refine wp_iinc (loc' := [(2, 52), (0, ((p : Int) + 1)), (0, (A.2 5 p)), u3, u4]) dX3_learn_132 rfl (by omega) rfl ?_
    refine wp_goto (tgt := 2) dX3_learn_135 (by decide) ?_
    refine ih (p + 1) M5 _ _ _ (by omega) b1 b2 (fun p' h1 h2 => ?_) (fun M6 c1 c2 c3 c4 => k M6 c1 c2 c3 (f4.tr ((b3.mono VZ2.z).tr c4)))
    rw [b3 58 _ (by unfold VZ2 VX; omega), b3 59 _ (by unfold VZ2 VX; omega)]
    exact hL4 p' h1 h2
set_option maxRecDepth 20000 in
set_option maxHeartbeats 4000000 in
theorem sp_learn_16 {l : Launch} {g : Gw} {d n : Nat} {M : Mm} {Q : Option Wd → Mm → Prop} (hn : 60 ≤ n) (hd : 6 ≤ d) {A : Ls} {E : Ev} (hJ : LJ 16 M A E) (k : ∀ M', LJ 16 M' A E → Tq M' E A (A.1 3).toNat 0 → Lq M' E A (A.1 3).toNat → Fr VZ M M' → Q none M') : Wp l g d 0 0 n m_X3_learn 0 [] [(2, 52), (9, 0), (9, 0), (9, 0), (9, 0)] M Q := by
  have hR := hJ.1
  refine wp_iconst dX3_learn_0 (by decide) ?_
  refine wp_istore_n (loc' := [(2, 52), (0, 0), (9, 0), (9, 0), (9, 0)]) dX3_learn_1 rfl (Nat.le_of_ble_eq_true rfl) rfl ?_
  exact lp_learn_16 hn hd (N := (A.1 3).toNat) (by have := hJ.2.2.2.1.2.2.1; omega) (A.1 3).toNat 0 M _ _ _ (by omega) hJ (fun p' q' h1 h2 h3 => by omega) (fun p' h1 h2 => by omega) k
