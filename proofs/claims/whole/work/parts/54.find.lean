/-! ===== the class's search: find ===== -/
/-- passings never pass the place in the list -/
def AB (l : List (Od × Int)) : Prop := ∀ i : Nat, i < l.length → 0 ≤ (l.getD i pr0).2 ∧ (l.getD i pr0).2 ≤ (i : Int)
theorem AB.keep {l : List (Od × Int)} (h : AB l) {i : Nat} (hi : i < l.length) {x : Od} {w : Int} (hg : l.getD i pr0 = (x, w)) (y : Od) : AB (keepA l y (w + 1)) := by
  unfold keepA
  split
  · exact h
  · intro j hj
    have hw := h i hi
    rw [hg] at hw
    simp only [List.length_append, List.length_cons, List.length_nil] at hj
    by_cases c : j < l.length
    · rw [show (l ++ [(y, w + 1)]).getD j pr0 = l.getD j pr0 by simp [List.getD_eq_getElem?_getD, List.getElem?_append_left c]]
      exact h j c
    · have e : j = l.length := by omega
      subst e
      rw [show (l ++ [(y, w + 1)]).getD l.length pr0 = (y, w + 1) by simp [List.getD_eq_getElem?_getD]]
      have hw : 0 ≤ w ∧ w ≤ (i : Int) := hw
      exact ⟨by show 0 ≤ w + 1; omega, by show w + 1 ≤ _; omega⟩
theorem sp_inv {cn : Od → Nat → Bool} {x : Od} {w : Int} {i : Nat} : ∀ (m p : Nat) (S : St), i < S.1.length → S.1.getD i pr0 = (x, w) → AB S.1 → i < (spA cn x w m p S).1.length ∧ AB (spA cn x w m p S).1
  | 0, _, S, h1, _, h3 => ⟨h1, h3⟩
  | m + 1, p, S, h1, h2, h3 => by
    unfold spA
    split
    · have kg := keep_get h1 (swp x p) (w + 1)
      exact sp_inv m (p + 1) _ kg.2 (kg.1.trans h2) (h3.keep h1 h2 _)
    · exact sp_inv m (p + 1) _ h1 h2 h3
theorem lnA_ok {A : Ls} (hW : Wf A) : okO (lnA A).length (lnA A) ∧ (lnA A).length ≤ 5 ∧ (∀ a ∈ lnA A, 0 ≤ a ∧ a < A.1 2) := by
  obtain ⟨w0, w1, w2, w3, w4, w5, w6⟩ := hW
  have hm : ∀ a ∈ lnA A, 0 ≤ a ∧ a < A.1 2 := by
    intro a ha
    obtain ⟨q, hq, rfl⟩ := lnA_mem.mp ha
    exact w4 q (by omega)
  refine ⟨⟨rfl, fun a ha => ?_⟩, by rw [lnA_len]; omega, hm⟩
  have := hm a ha
  omega
theorem Tq.tb {M : Mm} {E : Ev} {A : Ls} (h : Tq M E A (A.1 3).toNat 0) : Tb M E A (lnA A) := by
  intro a ha b hb
  obtain ⟨q, hq, rfl⟩ := lnA_mem.mp ha
  obtain ⟨r, hr, rfl⟩ := lnA_mem.mp hb
  exact h q r (by omega) (by omega) (Or.inl hq)
/-- the counter of searches, and where codes were found last -/
def SQ (M : Mm) : Prop := 0 ≤ M 52 5 ∧ M 52 5 < 2000000000 ∧ ∀ c : Nat, c < 3125 → M 55 c ≤ M 52 5
/-- what a search leaves -/
def FJ (L : Nat) (M : Mm) (A : Ls) (E : Ev) : Prop := QJ L M A E (lnA A) ∧ SJ M (lnA A) (findA (cnA E A) (lnA A)) ∧ AB (findA (cnA E A) (lnA A)).1 ∧ Lq M E A (A.1 3).toNat
theorem bf_inv {cn : Od → Nat → Bool} {N : Nat} : ∀ (m i : Nat) (S : St), AB S.1 → AB (bfA cn N m i S).1
  | 0, _, _, h => h
  | m + 1, i, S, h => by
    unfold bfA
    split
    · rename_i hi
      exact bf_inv m (i + 1) _ (sp_inv (N - 1) 1 S hi rfl h).2
    · exact h
def VI (i j : Nat) : Prop := VX i j ∨ VY i j
theorem VI.n : ∀ i j, VI i j → VN i j := by
  intro i j h
  unfold VI VX VY at h
  unfold VN VX
  omega
theorem VI.c : ∀ i j, VI i j → VN i j ∧ ¬ ((i = 2 ∧ j < 4) ∨ (2 < i ∧ i ≤ 8)) := by
  intro i j h
  refine ⟨VI.n i j h, ?_⟩
  unfold VI VX VY at h
  omega
theorem VI.q : ∀ i j, VI i j → ¬ VS i j := by
  intro i j h
  unfold VI VX VY at h
  unfold VS
  omega
theorem VI.sr {M M' : Mm} (h : Fr VI M M') (hR : SR M) : SR M' := hR.frL h (by unfold VI VX VY; decide +kernel)
theorem VZ.i : ∀ i j, VZ i j → VI i j := by
  intro i j h
  unfold VZ VX at h
  unfold VI VX VY
  omega
set_option maxRecDepth 20000 in
set_option maxHeartbeats 4000000 in
theorem sp_spread_2 {l : Launch} {g : Gw} {d n : Nat} {M : Mm} {Q : Option Wd → Mm → Prop} (hn : 60 ≤ n) (hd : 5 ≤ d) {A : Ls} {E : Ev} {x0 : Od} (hx0 : okO x0.length x0) {S : St} {i : Nat} (hQ : QJ 2 M A E x0) (hS : SJ M x0 S) (hAB : AB S.1) (hi : i < S.1.length) (k : ∀ M', SJ M' x0 (spA (cnA E A) (S.1.getD i pr0).1 (S.1.getD i pr0).2 (x0.length - 1) 1 S) → Fr VO M M' → Q none M') : Wp l g d 0 0 n m_X3_spread 0 [] [(2, 52), (0, (i : Int)), (9, 0), (9, 0), (9, 0)] M Q := by
  have hd4 : 4 ≤ d := by omega
  obtain ⟨hR, hA, hW, hLd, hL, hN, hxm, hT⟩ := id hQ
  obtain ⟨hF, hI, hP, hPB⟩ := id hS
  have h120 := hPB.le hN
  refine wp_aload_n dX3_spread_0 rfl rfl ?_
  refine wp_iload_n dX3_spread_1 rfl rfl ?_
  refine wp_callV0 (d' := d - 1) cv_RX3_98 52 rfl [(0, (i : Int))] [] rfl rfl (Or.inl ⟨_, _, rfl, by decide, rfl, by omega, by omega⟩) (by omega) (Nat.le_of_ble_eq_true rfl) dX3_spread_2 rfl (Nat.le_of_ble_eq_true rfl) (by omega) (loc1 := [(2, 52), (0, (i : Int)), (9, 0), (9, 0)]) rfl ?_
  refine sp_layO hn hR hF h120 hL hN hi (getD_ok (hPB.ok hx0) hi) (fun M1 e1 e2 hR1 => ?_)
  have f1 : Fr VO M M1 := e1.mono (fun i j h => Or.inr (by show 53 ≤ i ∧ i ≤ 56; have : i = 56 := h; omega))
  have hS1 : SJ M1 x0 S := ⟨hF.fr (e1 52 3 (by decide)) (fun j => e1 53 j (by show ¬ (53 = 56); decide)) (fun j => e1 54 j (by show ¬ (54 = 56); decide)), hI.fr (e1 52 5 (by decide)) (fun j => e1 55 j (by show ¬ (55 = 56); decide)), (e1 52 12 (by decide)).trans hP, hPB⟩
  refine wp_iconst dX3_spread_5 (by decide) ?_
  refine wp_istore_n (loc' := [(2, 52), (0, (i : Int)), (0, 1), (9, 0), (9, 0)]) dX3_spread_6 rfl (Nat.le_of_ble_eq_true rfl) rfl ?_
  have hab := hAB i hi
  have hgi : (S.1.getD i pr0).1.Perm x0 := hPB.2 _ (List.mem_map.mpr ⟨S.1[i], List.getElem_mem hi, by simp [List.getD_eq_getElem?_getD, List.getElem?_eq_getElem hi]⟩)
  by_cases h0 : x0.length = 0
  · have hL1 : M1 52 11 = (x0.length : Int) := (e1 52 11 (by decide)).trans hL
    refine wp_iload_n dX3_spread_7 rfl rfl ?_
    refine wp_aload_n dX3_spread_8 rfl rfl ?_
    refine wp_get 52 rfl fl_RX3_57 rfl ⟨by omega, by omega⟩ dX3_spread_9 rfl (v := (M1 52 11)) (rfl) ?_
    refine wp_icmp_ge (tgt := 122) dX3_spread_12 (by decide) (fun _ => ?_) (fun h => absurd h (by have := hL1; omega))
    refine wp_vret rfl dX3_spread_122 ?_
    rw [show x0.length - 1 = 0 by omega] at k
    exact k M1 hS1 f1
  · refine lp_spread_2 hn hd4 hx0 hgi ⟨hab.1, by have := h120; omega⟩ (x0.length - 1) 1 S M1 _ _ Q (by omega) (by omega) (hQ.fr (by omega) f1) hS1 hi rfl e2 (fun M2 c1 c2 => k M2 c1 (f1.tr c2))
set_option maxRecDepth 20000 in
set_option maxHeartbeats 4000000 in
theorem lp_find_2  {l : Launch} {g : Gw} {d n : Nat} (hn : 60 ≤ n) (hd : 6 ≤ d) {A : Ls} {E : Ev} {x0 : Od} (hx0 : okO x0.length x0) : ∀ (m i : Nat) (S : St) (M : Mm) (Q : Option Wd → Mm → Prop), i + m = 121 → i ≤ S.1.length → QJ 2 M A E x0 → SJ M x0 S → AB S.1 → (∀ M', SJ M' x0 (bfA (cnA E A) x0.length m i S) → Fr VO M M' → Q none M') → Wp l g d 0 0 n m_X3_find 79 [] [(2, 52), (2, 2), (0, (i : Int))] M Q := by
  intro m
  induction m with
  | zero =>
    intro i S M Q hm hi hQ hS hAB k
    have := hS.2.2.2.le hQ.2.2.2.2.2.1
    omega
  | succ m ih =>
    intro i S M Q hm hi hQ hS hAB k
    obtain ⟨hR, hA, hW, hLd, hL, hN, hxm, hT⟩ := id hQ
    obtain ⟨hF, hI, hP, hPB⟩ := id hS
    have h120 := hPB.le hN
    have h3 := hF.1
    refine wp_iload_n dX3_find_79 rfl rfl ?_
    refine wp_aload_n dX3_find_80 rfl rfl ?_
    refine wp_get 52 rfl fl_RX3_58 rfl ⟨by omega, by omega⟩ dX3_find_81 rfl (v := (M 52 3)) (rfl) ?_
    refine wp_icmp_ge (tgt := 104) dX3_find_84 (by decide) (fun h84 => ?_) (fun h84 => ?_)
    · refine wp_vret rfl dX3_find_104 ?_
      have e : bfA (cnA E A) x0.length (m + 1) i S = S := if_neg (by omega)
      rw [e] at k
      exact k M hS Fr.rf
    · refine wp_iload_n dX3_find_87 rfl rfl ?_
      refine wp_bipush dX3_find_88 (by decide) (by decide) ?_
      refine wp_icmp_ge (tgt := 104) dX3_find_90 (by decide) (fun h => absurd h (by omega)) (fun _ => ?_)
      refine wp_aload_n dX3_find_93 rfl rfl ?_
      refine wp_iload_n dX3_find_94 rfl rfl ?_
      refine wp_callV0 (d' := d - 1) cv_RX3_78 52 rfl [(0, (i : Int))] [] rfl rfl (Or.inl ⟨_, _, rfl, by decide, rfl, by omega, by omega⟩) (by omega) (Nat.le_of_ble_eq_true rfl) dX3_find_95 rfl (Nat.le_of_ble_eq_true rfl) (by omega) (loc1 := [(2, 52), (0, (i : Int)), (9, 0), (9, 0), (9, 0)]) rfl ?_
      refine sp_spread_2 hn (by omega) hx0 hQ hS hAB (i := i) (by omega) (fun M1 c1 c2 => ?_)
      have hR1 := VY.sr (c2.mono VO.y) hR
      refine wp_iinc (loc' := [(2, 52), (2, 2), (0, ((i : Int) + 1))]) dX3_find_98 rfl (by omega) rfl ?_
      refine wp_goto (tgt := 79) dX3_find_101 (by decide) ?_
      have si := sp_inv (cn := cnA E A) (x := (S.1.getD i pr0).1) (w := (S.1.getD i pr0).2) (i := i) (x0.length - 1) 1 S (by omega) rfl hAB
      have e : bfA (cnA E A) x0.length (m + 1) i S = bfA (cnA E A) x0.length m (i + 1) (spA (cnA E A) (S.1.getD i pr0).1 (S.1.getD i pr0).2 (x0.length - 1) 1 S) := if_pos (by omega)
      rw [e] at k
      exact ih (i + 1) _ M1 Q (by omega) (by omega) (hQ.fr (by omega) c2) c1 si.2 (fun M2 b1 b2 => k M2 b1 (c2.tr b2))
set_option maxRecDepth 20000 in
set_option maxHeartbeats 4000000 in
theorem sp_spread_16 {l : Launch} {g : Gw} {d n : Nat} {M : Mm} {Q : Option Wd → Mm → Prop} (hn : 60 ≤ n) (hd : 5 ≤ d) {A : Ls} {E : Ev} {x0 : Od} (hx0 : okO x0.length x0) {S : St} {i : Nat} (hQ : QJ 16 M A E x0) (hS : SJ M x0 S) (hAB : AB S.1) (hi : i < S.1.length) (k : ∀ M', SJ M' x0 (spA (cnA E A) (S.1.getD i pr0).1 (S.1.getD i pr0).2 (x0.length - 1) 1 S) → Fr VO M M' → Q none M') : Wp l g d 0 0 n m_X3_spread 0 [] [(2, 52), (0, (i : Int)), (9, 0), (9, 0), (9, 0)] M Q := by
  have hd4 : 4 ≤ d := by omega
  obtain ⟨hR, hA, hW, hLd, hL, hN, hxm, hT⟩ := id hQ
  obtain ⟨hF, hI, hP, hPB⟩ := id hS
  have h120 := hPB.le hN
  refine wp_aload_n dX3_spread_0 rfl rfl ?_
  refine wp_iload_n dX3_spread_1 rfl rfl ?_
  refine wp_callV0 (d' := d - 1) cv_RX3_98 52 rfl [(0, (i : Int))] [] rfl rfl (Or.inl ⟨_, _, rfl, by decide, rfl, by omega, by omega⟩) (by omega) (Nat.le_of_ble_eq_true rfl) dX3_spread_2 rfl (Nat.le_of_ble_eq_true rfl) (by omega) (loc1 := [(2, 52), (0, (i : Int)), (9, 0), (9, 0)]) rfl ?_
  refine sp_layO hn hR hF h120 hL hN hi (getD_ok (hPB.ok hx0) hi) (fun M1 e1 e2 hR1 => ?_)
  have f1 : Fr VO M M1 := e1.mono (fun i j h => Or.inr (by show 53 ≤ i ∧ i ≤ 56; have : i = 56 := h; omega))
  have hS1 : SJ M1 x0 S := ⟨hF.fr (e1 52 3 (by decide)) (fun j => e1 53 j (by show ¬ (53 = 56); decide)) (fun j => e1 54 j (by show ¬ (54 = 56); decide)), hI.fr (e1 52 5 (by decide)) (fun j => e1 55 j (by show ¬ (55 = 56); decide)), (e1 52 12 (by decide)).trans hP, hPB⟩
  refine wp_iconst dX3_spread_5 (by decide) ?_
  refine wp_istore_n (loc' := [(2, 52), (0, (i : Int)), (0, 1), (9, 0), (9, 0)]) dX3_spread_6 rfl (Nat.le_of_ble_eq_true rfl) rfl ?_
  have hab := hAB i hi
  have hgi : (S.1.getD i pr0).1.Perm x0 := hPB.2 _ (List.mem_map.mpr ⟨S.1[i], List.getElem_mem hi, by simp [List.getD_eq_getElem?_getD, List.getElem?_eq_getElem hi]⟩)
  by_cases h0 : x0.length = 0
  · have hL1 : M1 52 11 = (x0.length : Int) := (e1 52 11 (by decide)).trans hL
    refine wp_iload_n dX3_spread_7 rfl rfl ?_
    refine wp_aload_n dX3_spread_8 rfl rfl ?_
    refine wp_get 52 rfl fl_RX3_57 rfl ⟨by omega, by omega⟩ dX3_spread_9 rfl (v := (M1 52 11)) (rfl) ?_
    refine wp_icmp_ge (tgt := 122) dX3_spread_12 (by decide) (fun _ => ?_) (fun h => absurd h (by have := hL1; omega))
    refine wp_vret rfl dX3_spread_122 ?_
    rw [show x0.length - 1 = 0 by omega] at k
    exact k M1 hS1 f1
  · refine lp_spread_16 hn hd4 hx0 hgi ⟨hab.1, by have := h120; omega⟩ (x0.length - 1) 1 S M1 _ _ Q (by omega) (by omega) (hQ.fr (by omega) f1) hS1 hi rfl e2 (fun M2 c1 c2 => k M2 c1 (f1.tr c2))
set_option maxRecDepth 20000 in
set_option maxHeartbeats 4000000 in
theorem lp_find_16  {l : Launch} {g : Gw} {d n : Nat} (hn : 60 ≤ n) (hd : 6 ≤ d) {A : Ls} {E : Ev} {x0 : Od} (hx0 : okO x0.length x0) : ∀ (m i : Nat) (S : St) (M : Mm) (Q : Option Wd → Mm → Prop), i + m = 121 → i ≤ S.1.length → QJ 16 M A E x0 → SJ M x0 S → AB S.1 → (∀ M', SJ M' x0 (bfA (cnA E A) x0.length m i S) → Fr VO M M' → Q none M') → Wp l g d 0 0 n m_X3_find 79 [] [(2, 52), (2, 16), (0, (i : Int))] M Q := by
  intro m
  induction m with
  | zero =>
    intro i S M Q hm hi hQ hS hAB k
    have := hS.2.2.2.le hQ.2.2.2.2.2.1
    omega
  | succ m ih =>
    intro i S M Q hm hi hQ hS hAB k
    obtain ⟨hR, hA, hW, hLd, hL, hN, hxm, hT⟩ := id hQ
    obtain ⟨hF, hI, hP, hPB⟩ := id hS
    have h120 := hPB.le hN
    have h3 := hF.1
    refine wp_iload_n dX3_find_79 rfl rfl ?_
    refine wp_aload_n dX3_find_80 rfl rfl ?_
    refine wp_get 52 rfl fl_RX3_58 rfl ⟨by omega, by omega⟩ dX3_find_81 rfl (v := (M 52 3)) (rfl) ?_
    refine wp_icmp_ge (tgt := 104) dX3_find_84 (by decide) (fun h84 => ?_) (fun h84 => ?_)
    · refine wp_vret rfl dX3_find_104 ?_
      have e : bfA (cnA E A) x0.length (m + 1) i S = S := if_neg (by omega)
      rw [e] at k
      exact k M hS Fr.rf
    · refine wp_iload_n dX3_find_87 rfl rfl ?_
      refine wp_bipush dX3_find_88 (by decide) (by decide) ?_
      refine wp_icmp_ge (tgt := 104) dX3_find_90 (by decide) (fun h => absurd h (by omega)) (fun _ => ?_)
      refine wp_aload_n dX3_find_93 rfl rfl ?_
      refine wp_iload_n dX3_find_94 rfl rfl ?_
      refine wp_callV0 (d' := d - 1) cv_RX3_78 52 rfl [(0, (i : Int))] [] rfl rfl (Or.inl ⟨_, _, rfl, by decide, rfl, by omega, by omega⟩) (by omega) (Nat.le_of_ble_eq_true rfl) dX3_find_95 rfl (Nat.le_of_ble_eq_true rfl) (by omega) (loc1 := [(2, 52), (0, (i : Int)), (9, 0), (9, 0), (9, 0)]) rfl ?_
      refine sp_spread_16 hn (by omega) hx0 hQ hS hAB (i := i) (by omega) (fun M1 c1 c2 => ?_)
      have hR1 := VY.sr (c2.mono VO.y) hR
      refine wp_iinc (loc' := [(2, 52), (2, 16), (0, ((i : Int) + 1))]) dX3_find_98 rfl (by omega) rfl ?_
      refine wp_goto (tgt := 79) dX3_find_101 (by decide) ?_
      have si := sp_inv (cn := cnA E A) (x := (S.1.getD i pr0).1) (w := (S.1.getD i pr0).2) (i := i) (x0.length - 1) 1 S (by omega) rfl hAB
      have e : bfA (cnA E A) x0.length (m + 1) i S = bfA (cnA E A) x0.length m (i + 1) (spA (cnA E A) (S.1.getD i pr0).1 (S.1.getD i pr0).2 (x0.length - 1) 1 S) := if_pos (by omega)
      rw [e] at k
      exact ih (i + 1) _ M1 Q (by omega) (by omega) (hQ.fr (by omega) c2) c1 si.2 (fun M2 b1 b2 => k M2 b1 (c2.tr b2))
