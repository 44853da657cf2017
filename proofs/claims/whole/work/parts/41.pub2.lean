theorem fb_holes : ∀ (m n : Nat) (f : Nat → Nat), (∀ i, i < n → f i < m) → (∀ i j, i < j → j < n → f i ≠ f j) → n ≤ m := by
  intro m
  induction m with
  | zero =>
    intro n f h1 _
    rcases Nat.eq_zero_or_pos n with h | h
    · omega
    · exact absurd (h1 0 h) (Nat.not_lt_zero _)
  | succ m ih =>
    intro n f h1 h2
    by_cases hx : ∃ i, i < n ∧ f i = m
    · obtain ⟨a, ha, hfa⟩ := hx
      have hg := ih (n - 1) (fun i => if i < a then f i else f (i + 1)) (by
        intro i hi
        by_cases q : i < a
        · simp only [if_pos q]
          have b1 := h1 i (by omega)
          have b2 := h2 i a q ha
          omega
        · simp only [if_neg q]
          have b1 := h1 (i + 1) (by omega)
          have b2 := h2 a (i + 1) (by omega) (by omega)
          omega) (by
        intro i j hij hj
        by_cases q : i < a
        · by_cases r : j < a
          · simp only [if_pos q, if_pos r]
            exact h2 i j hij (by omega)
          · simp only [if_pos q, if_neg r]
            exact h2 i (j + 1) (by omega) (by omega)
        · have r : ¬ j < a := by omega
          simp only [if_neg q, if_neg r]
          exact h2 (i + 1) (j + 1) (by omega) (by omega))
      omega
    · have hg := ih n f (fun i hi => by
        have b1 := h1 i hi
        have b2 : f i ≠ m := fun e => hx ⟨i, hi, e⟩
        omega) h2
      omega
/-- two of them in one place -/
theorem room_ {A : Ls} (hW : Wf A) {x : Int} (hx : 0 ≤ x ∧ x < A.1 2) (hp : plA A x = -1) : A.1 3 < A.1 2 := by
  obtain ⟨w0, w1, w2, w3, w4, w5, w6⟩ := hW
  have hno := fst_no (f := A.2 5) (x := x) (A.1 3).toNat 0 hp
  have h := fb_holes (A.1 2).toNat ((A.1 3).toNat + 1) (fun i => if i < (A.1 3).toNat then (A.2 5 i).toNat else x.toNat) (fun i hi => by
    show (if i < (A.1 3).toNat then (A.2 5 i).toNat else x.toNat) < _
    split
    · have := w4 i (by omega); omega
    · omega) (fun i j hij hj => by
    show (if i < (A.1 3).toNat then (A.2 5 i).toNat else x.toNat) ≠ (if j < (A.1 3).toNat then (A.2 5 j).toNat else x.toNat)
    rw [if_pos (by omega)]
    have h1 := w4 i (by omega)
    split
    · have h2 := w4 j (by omega)
      have h3 := w5 i j hij (by omega)
      omega
    · have h3 := hno i (by omega) (by omega)
      omega)
  omega
def toldA (E : Ev) (A : Ls) (o w : Int) : Int := if w = 0 then A.1 0 else if ¬ (0 ≤ o ∧ o < A.1 2) then -2 else if 10 ≤ w ∧ w ≤ 14 then (if mindsA E A o (w - 10) = true then 1 else 0) else if w = 5 then A.2 0 o.toNat else if w = 6 then plA A o else if w = 7 then lastsA E A o else if w = 8 then irksA E A o else if w = 9 then lkr (A.2 2) o (A.1 2).toNat else if w = 1 then A.2 1 o.toNat else if w = 2 then A.2 2 o.toNat else if w = 3 then A.2 3 o.toNat else if w = 4 then A.2 4 o.toNat else -2
set_option maxRecDepth 20000 in
set_option maxHeartbeats 4000000 in
theorem cs_come {l : Launch} {g : Gw} {d n : Nat} {M : Mm} {Q : Option Wd → Mm → Prop} (hn : 60 ≤ n) (hd : 10 ≤ d) {A : Ls} (hI : CJ M A) (x : Int) (kB : ¬ (0 ≤ x ∧ x < A.1 2) → Q (some (0, -2)) M) (kS : (0 ≤ x ∧ x < A.1 2) → plA A x ≠ -1 → Q (some (0, -3)) M) (k : (0 ≤ x ∧ x < A.1 2) → plA A x = -1 → Q (some (0, M 2 3 + 1 - 1)) (mu (mu (mu M 7 x.toNat 0) 8 (M 2 3).toNat x) 2 3 (M 2 3 + 1))) : Wp l g d 0 0 n m_X7_come 0 [] [(2, 1), (0, x)] M Q := by
  obtain ⟨hR, hX, hA, hW, hr⟩ := id hI
  obtain ⟨a0, a1, a2, a3, ar, al⟩ := id hA
  obtain ⟨w0, w1, w2, w3, w4, w5, w6⟩ := id hW
  have hX1 := hX.1
  have hX2 := hX.2.1
  refine wp_aload_n dX7_come_0 rfl rfl ?_
  refine wp_get 1 rfl fl_RX7_10 rfl ⟨by omega, by omega⟩ dX7_come_1 rfl (v := 2) (sr_1_0 (M := M) hR) ?_
  refine wp_iload_n dX7_come_4 rfl rfl ?_
  refine wp_callV0 (d' := d - 1) cv_RX7_87 2 rfl [(0, x)] [] rfl rfl (Or.inl ⟨_, _, rfl, by decide, rfl, by omega, by omega⟩) (by omega) (Nat.le_of_ble_eq_true rfl) dX7_come_5 rfl (Nat.le_of_ble_eq_true rfl) (by omega) (loc1 := [(2, 2), (0, x)]) rfl ?_
  refine sp_has_2 hn x (fun h5 => ?_) (fun h5 => ?_)
  · refine wp_if_ne (tgt := 14) dX7_come_8 (by decide) (fun _ => ?_) (fun h => absurd h (by decide))
    refine wp_aload_n dX7_come_14 rfl rfl ?_
    refine wp_get 1 rfl fl_RX7_10 rfl ⟨by omega, by omega⟩ dX7_come_15 rfl (v := 2) (sr_1_0 (M := M) hR) ?_
    refine wp_iload_n dX7_come_18 rfl rfl ?_
    refine wp_callV0 (d' := d - 1) cv_RX7_115 2 rfl [(0, x)] [] rfl rfl (Or.inl ⟨_, _, rfl, by decide, rfl, by omega, by omega⟩) (by omega) (Nat.le_of_ble_eq_true rfl) dX7_come_19 rfl (Nat.le_of_ble_eq_true rfl) (by omega) (loc1 := [(2, 2), (0, x), (9, 0)]) rfl ?_
    refine sp_placeOf_2 hn hR x (by omega) (by omega) ?_
    rw [show fst_ (M 8) x (M 2 3).toNat 0 = plA A x from pl_eq hA x (by omega)]
    refine wp_iconst dX7_come_22 (by decide) ?_
    refine wp_icmp_eq (tgt := 29) dX7_come_23 (by decide) (fun h23 => ?_) (fun h23 => ?_)
    · refine wp_aload_n dX7_come_29 rfl rfl ?_
      refine wp_get 1 rfl fl_RX7_10 rfl ⟨by omega, by omega⟩ dX7_come_30 rfl (v := 2) (sr_1_0 (M := M) hR) ?_
      refine wp_get 2 rfl fl_RX7_160 rfl ⟨by omega, by omega⟩ dX7_come_33 rfl (v := 7) (sr_2_8 (M := M) hR) ?_
      refine wp_iload_n dX7_come_36 rfl rfl ?_
      refine wp_iconst dX7_come_37 (by decide) ?_
      refine wp_iast 7 rfl rfl ⟨by omega, by omega⟩ ⟨by omega, by omega⟩ dX7_come_38 (jn := (x).toNat) rfl ?_
      refine wp_aload_n dX7_come_39 rfl rfl ?_
      refine wp_get 1 rfl fl_RX7_10 rfl ⟨by omega, by omega⟩ dX7_come_40 rfl (v := 2) (sr_1_0 (M := M) hR) ?_
      refine wp_iload_n dX7_come_43 rfl rfl ?_
      refine wp_callV0 (d' := d - 1) cv_RX7_163 2 rfl [(0, x)] [] rfl rfl (Or.inl ⟨_, _, rfl, by decide, rfl, by omega, by omega⟩) (by omega) (Nat.le_of_ble_eq_true rfl) dX7_come_44 rfl (Nat.le_of_ble_eq_true rfl) (by omega) (loc1 := [(2, 2), (0, x)]) rfl ?_
      have hroom := room_ hW (x := x) (by omega) h23
      refine sp_join_2 hn (SR.row (by decide) hR) x (by show 0 ≤ M 2 3; omega) (by show M 2 3 < 5; omega) ?_
      refine wp_iret rfl dX7_come_47 ?_
      exact k (by omega) h23
    · refine wp_bipush dX7_come_26 (by decide) (by decide) ?_
      refine wp_iret rfl dX7_come_28 ?_
      exact kS (by omega) (by omega)
  · refine wp_if_ne (tgt := 14) dX7_come_8 (by decide) (fun h => absurd h (by decide)) (fun _ => ?_)
    refine wp_bipush dX7_come_11 (by decide) (by decide) ?_
    refine wp_iret rfl dX7_come_13 ?_
    exact kB (by omega)
set_option maxRecDepth 20000 in
set_option maxHeartbeats 4000000 in
theorem cs_told {l : Launch} {g : Gw} {d n : Nat} {M : Mm} {Q : Option Wd → Mm → Prop} (hn : 60 ≤ n) (hd : 10 ≤ d) {A : Ls} (hI : CJ M A) (o w : Int) (k : ∀ M', Fr VX M M' → SR M' → Q (some (0, toldA (evC M) A o w)) M') : Wp l g d 0 0 n m_X7_told 0 [] [(2, 1), (0, o), (0, w), (9, 0)] M Q := by
  obtain ⟨hR, hX, hA, hW, hr⟩ := id hI
  obtain ⟨a0, a1, a2, a3, ar, al⟩ := id hA
  obtain ⟨w0, w1, w2, w3, w4, w5, w6⟩ := id hW
  have hX1 := hX.1
  have hX2 := hX.2.1
  refine wp_iload_n dX7_told_0 rfl rfl ?_
  refine wp_if_ne (tgt := 12) dX7_told_1 (by decide) (fun h1 => ?_) (fun h1 => ?_)
  · refine wp_aload_n dX7_told_12 rfl rfl ?_
    refine wp_get 1 rfl fl_RX7_10 rfl ⟨by omega, by omega⟩ dX7_told_13 rfl (v := 2) (sr_1_0 (M := M) hR) ?_
    refine wp_iload_n dX7_told_16 rfl rfl ?_
    refine wp_callV0 (d' := d - 1) cv_RX7_87 2 rfl [(0, o)] [] rfl rfl (Or.inl ⟨_, _, rfl, by decide, rfl, by omega, by omega⟩) (by omega) (Nat.le_of_ble_eq_true rfl) dX7_told_17 rfl (Nat.le_of_ble_eq_true rfl) (by omega) (loc1 := [(2, 2), (0, o)]) rfl ?_
    refine sp_has_2 hn o (fun h17 => ?_) (fun h17 => ?_)
    · refine wp_if_ne (tgt := 26) dX7_told_20 (by decide) (fun _ => ?_) (fun h => absurd h (by decide))
      refine wp_iload_n dX7_told_26 rfl rfl ?_
      refine wp_bipush dX7_told_27 (by decide) (by decide) ?_
      refine wp_icmp_lt (tgt := 63) dX7_told_29 (by decide) (fun h29 => ?_) (fun h29 => ?_)
      · refine wp_iload_n dX7_told_63 rfl rfl ?_
        by_cases h64_0 : w = 5
        · refine wp_tabIn dX7_told_64 0 (by omega) (by decide) rfl (tgt := 100) (by decide) ?_
          refine wp_aload_n dX7_told_100 rfl rfl ?_
          refine wp_get 1 rfl fl_RX7_10 rfl ⟨by omega, by omega⟩ dX7_told_101 rfl (v := 2) (sr_1_0 (M := M) hR) ?_
          refine wp_aload_n dX7_told_104 rfl rfl ?_
          refine wp_get 1 rfl fl_RX7_10 rfl ⟨by omega, by omega⟩ dX7_told_105 rfl (v := 2) (sr_1_0 (M := M) hR) ?_
          refine wp_get 2 rfl fl_RX7_107 rfl ⟨by omega, by omega⟩ dX7_told_108 rfl (v := 3) (sr_2_4 (M := M) hR) ?_
          refine wp_iload_n dX7_told_111 rfl rfl ?_
          refine wp_callV0 (d' := d - 1) cv_RX7_111 2 rfl [(2, 3), (0, o)] [] rfl rfl (Or.inl ⟨_, _, rfl, by decide, rfl, by omega, by omega⟩) (by omega) (Nat.le_of_ble_eq_true rfl) dX7_told_112 rfl (Nat.le_of_ble_eq_true rfl) (by omega) (loc1 := [(2, 2), (2, 3), (0, o)]) rfl ?_
          refine sp_of_kind_2 hn hR o (by omega) ?_
          rw [show M 3 o.toNat = A.2 0 o.toNat from ar 0 _ (by omega) (by omega)]
          refine wp_iret rfl dX7_told_115 ?_
          have e : toldA (evC M) A o w = (A.2 0 o.toNat) := by
            unfold toldA
            rw [if_neg (by omega), if_neg (by omega), if_neg (by omega), if_pos (by omega)]
          rw [← e]
          exact k _ Fr.rf hR
        by_cases h64_1 : w = 6
        · refine wp_tabIn dX7_told_64 1 (by omega) (by decide) rfl (tgt := 116) (by decide) ?_
          refine wp_aload_n dX7_told_116 rfl rfl ?_
          refine wp_get 1 rfl fl_RX7_10 rfl ⟨by omega, by omega⟩ dX7_told_117 rfl (v := 2) (sr_1_0 (M := M) hR) ?_
          refine wp_iload_n dX7_told_120 rfl rfl ?_
          refine wp_callV0 (d' := d - 1) cv_RX7_115 2 rfl [(0, o)] [] rfl rfl (Or.inl ⟨_, _, rfl, by decide, rfl, by omega, by omega⟩) (by omega) (Nat.le_of_ble_eq_true rfl) dX7_told_121 rfl (Nat.le_of_ble_eq_true rfl) (by omega) (loc1 := [(2, 2), (0, o), (9, 0)]) rfl ?_
          refine sp_placeOf_2 hn hR o (by omega) (by omega) ?_
          rw [show fst_ (M 8) o (M 2 3).toNat 0 = plA A o from pl_eq hA o (by omega)]
          refine wp_iret rfl dX7_told_124 ?_
          have e : toldA (evC M) A o w = (plA A o) := by
            unfold toldA
            rw [if_neg (by omega), if_neg (by omega), if_neg (by omega), if_neg (by omega), if_pos (by omega)]
          rw [← e]
          exact k _ Fr.rf hR
        by_cases h64_2 : w = 7
        · refine wp_tabIn dX7_told_64 2 (by omega) (by decide) rfl (tgt := 125) (by decide) ?_
          refine wp_aload_n dX7_told_125 rfl rfl ?_
          refine wp_get 1 rfl fl_RX7_41 rfl ⟨by omega, by omega⟩ dX7_told_126 rfl (v := 51) (sr_1_6 (M := M) hR) ?_
          refine wp_aload_n dX7_told_129 rfl rfl ?_
          refine wp_get 1 rfl fl_RX7_10 rfl ⟨by omega, by omega⟩ dX7_told_130 rfl (v := 2) (sr_1_0 (M := M) hR) ?_
          refine wp_iload_n dX7_told_133 rfl rfl ?_
          refine wp_callV0 (d' := d - 1) cv_RX7_118 51 rfl [(2, 2), (0, o)] [] rfl rfl (Or.inl ⟨_, _, rfl, by decide, rfl, by omega, by omega⟩) (by omega) (Nat.le_of_ble_eq_true rfl) dX7_told_134 rfl (Nat.le_of_ble_eq_true rfl) (by omega) (loc1 := [(2, 51), (2, 2), (0, o), (9, 0)]) rfl ?_
          refine sp_lasts_2 hn (by omega) hR hX hA hW hr o (by omega) (fun M1 hF1 hR1 => ?_)
          refine wp_iret rfl dX7_told_137 ?_
          have e : toldA (evC M) A o w = (lastsA (evC M) A o) := by
            unfold toldA
            rw [if_neg (by omega), if_neg (by omega), if_neg (by omega), if_neg (by omega), if_neg (by omega), if_pos (by omega)]
          rw [← e]
          exact k _ hF1 hR1
        by_cases h64_3 : w = 8
        · refine wp_tabIn dX7_told_64 3 (by omega) (by decide) rfl (tgt := 138) (by decide) ?_
          refine wp_aload_n dX7_told_138 rfl rfl ?_
          refine wp_get 1 rfl fl_RX7_41 rfl ⟨by omega, by omega⟩ dX7_told_139 rfl (v := 51) (sr_1_6 (M := M) hR) ?_
          refine wp_aload_n dX7_told_142 rfl rfl ?_
          refine wp_get 1 rfl fl_RX7_10 rfl ⟨by omega, by omega⟩ dX7_told_143 rfl (v := 2) (sr_1_0 (M := M) hR) ?_
          refine wp_iload_n dX7_told_146 rfl rfl ?_
          refine wp_callV0 (d' := d - 1) cv_RX7_122 51 rfl [(2, 2), (0, o)] [] rfl rfl (Or.inl ⟨_, _, rfl, by decide, rfl, by omega, by omega⟩) (by omega) (Nat.le_of_ble_eq_true rfl) dX7_told_147 rfl (Nat.le_of_ble_eq_true rfl) (by omega) (loc1 := [(2, 51), (2, 2), (0, o), (9, 0)]) rfl ?_
          refine sp_irks_2 hn (by omega) hR hX hA hW hr o (by omega) (fun M1 hF1 hR1 => ?_)
          refine wp_iret rfl dX7_told_150 ?_
          have e : toldA (evC M) A o w = (irksA (evC M) A o) := by
            unfold toldA
            rw [if_neg (by omega), if_neg (by omega), if_neg (by omega), if_neg (by omega), if_neg (by omega), if_neg (by omega), if_pos (by omega)]
          rw [← e]
          exact k _ hF1 hR1
        by_cases h64_4 : w = 9
        · refine wp_tabIn dX7_told_64 4 (by omega) (by decide) rfl (tgt := 151) (by decide) ?_
          refine wp_aload_n dX7_told_151 rfl rfl ?_
          refine wp_get 1 rfl fl_RX7_10 rfl ⟨by omega, by omega⟩ dX7_told_152 rfl (v := 2) (sr_1_0 (M := M) hR) ?_
          refine wp_iload_n dX7_told_155 rfl rfl ?_
          refine wp_callV0 (d' := d - 1) cv_RX7_125 2 rfl [(0, o)] [] rfl rfl (Or.inl ⟨_, _, rfl, by decide, rfl, by omega, by omega⟩) (by omega) (Nat.le_of_ble_eq_true rfl) dX7_told_156 rfl (Nat.le_of_ble_eq_true rfl) (by omega) (loc1 := [(2, 2), (0, o), (9, 0), (9, 0)]) rfl ?_
          refine sp_likersOf_2 hn hR o (by omega) (by omega) ?_
          rw [show lkr (M 5) o (M 2 2).toNat = lkr (A.2 2) o (A.1 2).toNat by rw [a2]; exact lkr_cong _ (fun q hq => ar 2 q (by omega) (by omega))]
          refine wp_iret rfl dX7_told_159 ?_
          have e : toldA (evC M) A o w = (lkr (A.2 2) o (A.1 2).toNat) := by
            unfold toldA
            rw [if_neg (by omega), if_neg (by omega), if_neg (by omega), if_neg (by omega), if_neg (by omega), if_neg (by omega), if_neg (by omega), if_pos (by omega)]
          rw [← e]
          exact k _ Fr.rf hR
        refine wp_tabOut dX7_told_64 (by omega) (tgt := 160) (by decide) ?_
        refine wp_aload_n dX7_told_160 rfl rfl ?_
        refine wp_get 1 rfl fl_RX7_10 rfl ⟨by omega, by omega⟩ dX7_told_161 rfl (v := 2) (sr_1_0 (M := M) hR) ?_
        refine wp_iload_n dX7_told_164 rfl rfl ?_
        refine wp_callV0 (d' := d - 1) cv_RX7_83 2 rfl [(0, w)] [] rfl rfl (Or.inl ⟨_, _, rfl, by decide, rfl, by omega, by omega⟩) (by omega) (Nat.le_of_ble_eq_true rfl) dX7_told_165 rfl (Nat.le_of_ble_eq_true rfl) (by omega) (loc1 := [(2, 2), (0, w)]) rfl ?_
        refine sp_rowOf_2 hn hR w (fun hw => ?_) (fun hw => ?_) (fun hw => ?_) (fun hw => ?_) (fun hw => ?_)
        · refine wp_astore_n (loc' := [(2, 1), (0, o), (0, w), (2, 4)]) dX7_told_168 rfl (Nat.le_of_ble_eq_true rfl) rfl ?_
          refine wp_aload_n dX7_told_169 rfl rfl ?_
          refine wp_ifnonnull (tgt := 178) dX7_told_170 (by decide) (fun _ => ?_) (fun h => absurd h (by decide))
          refine wp_aload_n dX7_told_178 rfl rfl ?_
          refine wp_get 1 rfl fl_RX7_10 rfl ⟨by omega, by omega⟩ dX7_told_179 rfl (v := 2) (sr_1_0 (M := M) hR) ?_
          refine wp_aload_n dX7_told_182 rfl rfl ?_
          refine wp_iload_n dX7_told_183 rfl rfl ?_
          refine wp_callV0 (d' := d - 1) cv_RX7_111 2 rfl [(2, 4), (0, o)] [] rfl rfl (Or.inl ⟨_, _, rfl, by decide, rfl, by omega, by omega⟩) (by omega) (Nat.le_of_ble_eq_true rfl) dX7_told_184 rfl (Nat.le_of_ble_eq_true rfl) (by omega) (loc1 := [(2, 2), (2, 4), (0, o)]) rfl ?_
          refine sp_of_number_2 hn hR o (by omega) ?_
          rw [show M 4 o.toNat = A.2 1 o.toNat from ar 1 _ (by omega) (by omega)]
          refine wp_iret rfl dX7_told_187 ?_
          have e : toldA (evC M) A o w = (A.2 1 o.toNat) := by
            unfold toldA
            rw [if_neg (by omega), if_neg (by omega), if_neg (by omega), if_neg (by omega), if_neg (by omega), if_neg (by omega), if_neg (by omega), if_neg (by omega), if_pos (by omega)]
          rw [← e]
          exact k _ Fr.rf hR
        · refine wp_astore_n (loc' := [(2, 1), (0, o), (0, w), (2, 5)]) dX7_told_168 rfl (Nat.le_of_ble_eq_true rfl) rfl ?_
          refine wp_aload_n dX7_told_169 rfl rfl ?_
          refine wp_ifnonnull (tgt := 178) dX7_told_170 (by decide) (fun _ => ?_) (fun h => absurd h (by decide))
          refine wp_aload_n dX7_told_178 rfl rfl ?_
          refine wp_get 1 rfl fl_RX7_10 rfl ⟨by omega, by omega⟩ dX7_told_179 rfl (v := 2) (sr_1_0 (M := M) hR) ?_
          refine wp_aload_n dX7_told_182 rfl rfl ?_
          refine wp_iload_n dX7_told_183 rfl rfl ?_
          refine wp_callV0 (d' := d - 1) cv_RX7_111 2 rfl [(2, 5), (0, o)] [] rfl rfl (Or.inl ⟨_, _, rfl, by decide, rfl, by omega, by omega⟩) (by omega) (Nat.le_of_ble_eq_true rfl) dX7_told_184 rfl (Nat.le_of_ble_eq_true rfl) (by omega) (loc1 := [(2, 2), (2, 5), (0, o)]) rfl ?_
          refine sp_of_likes_2 hn hR o (by omega) ?_
          rw [show M 5 o.toNat = A.2 2 o.toNat from ar 2 _ (by omega) (by omega)]
          refine wp_iret rfl dX7_told_187 ?_
          have e : toldA (evC M) A o w = (A.2 2 o.toNat) := by
            unfold toldA
            rw [if_neg (by omega), if_neg (by omega), if_neg (by omega), if_neg (by omega), if_neg (by omega), if_neg (by omega), if_neg (by omega), if_neg (by omega), if_neg (by omega), if_pos (by omega)]
          rw [← e]
          exact k _ Fr.rf hR
        · refine wp_astore_n (loc' := [(2, 1), (0, o), (0, w), (2, 6)]) dX7_told_168 rfl (Nat.le_of_ble_eq_true rfl) rfl ?_
          refine wp_aload_n dX7_told_169 rfl rfl ?_
          refine wp_ifnonnull (tgt := 178) dX7_told_170 (by decide) (fun _ => ?_) (fun h => absurd h (by decide))
          refine wp_aload_n dX7_told_178 rfl rfl ?_
          refine wp_get 1 rfl fl_RX7_10 rfl ⟨by omega, by omega⟩ dX7_told_179 rfl (v := 2) (sr_1_0 (M := M) hR) ?_
          refine wp_aload_n dX7_told_182 rfl rfl ?_
          refine wp_iload_n dX7_told_183 rfl rfl ?_
          refine wp_callV0 (d' := d - 1) cv_RX7_111 2 rfl [(2, 6), (0, o)] [] rfl rfl (Or.inl ⟨_, _, rfl, by decide, rfl, by omega, by omega⟩) (by omega) (Nat.le_of_ble_eq_true rfl) dX7_told_184 rfl (Nat.le_of_ble_eq_true rfl) (by omega) (loc1 := [(2, 2), (2, 6), (0, o)]) rfl ?_
          refine sp_of_gifts_2 hn hR o (by omega) ?_
          rw [show M 6 o.toNat = A.2 3 o.toNat from ar 3 _ (by omega) (by omega)]
          refine wp_iret rfl dX7_told_187 ?_
          have e : toldA (evC M) A o w = (A.2 3 o.toNat) := by
            unfold toldA
            rw [if_neg (by omega), if_neg (by omega), if_neg (by omega), if_neg (by omega), if_neg (by omega), if_neg (by omega), if_neg (by omega), if_neg (by omega), if_neg (by omega), if_neg (by omega), if_pos (by omega)]
          rw [← e]
          exact k _ Fr.rf hR
        · refine wp_astore_n (loc' := [(2, 1), (0, o), (0, w), (2, 7)]) dX7_told_168 rfl (Nat.le_of_ble_eq_true rfl) rfl ?_
          refine wp_aload_n dX7_told_169 rfl rfl ?_
          refine wp_ifnonnull (tgt := 178) dX7_told_170 (by decide) (fun _ => ?_) (fun h => absurd h (by decide))
          refine wp_aload_n dX7_told_178 rfl rfl ?_
          refine wp_get 1 rfl fl_RX7_10 rfl ⟨by omega, by omega⟩ dX7_told_179 rfl (v := 2) (sr_1_0 (M := M) hR) ?_
          refine wp_aload_n dX7_told_182 rfl rfl ?_
          refine wp_iload_n dX7_told_183 rfl rfl ?_
          refine wp_callV0 (d' := d - 1) cv_RX7_111 2 rfl [(2, 7), (0, o)] [] rfl rfl (Or.inl ⟨_, _, rfl, by decide, rfl, by omega, by omega⟩) (by omega) (Nat.le_of_ble_eq_true rfl) dX7_told_184 rfl (Nat.le_of_ble_eq_true rfl) (by omega) (loc1 := [(2, 2), (2, 7), (0, o)]) rfl ?_
          refine sp_of_served_2 hn hR o (by omega) ?_
          rw [show M 7 o.toNat = A.2 4 o.toNat from ar 4 _ (by omega) (by omega)]
          refine wp_iret rfl dX7_told_187 ?_
          have e : toldA (evC M) A o w = (A.2 4 o.toNat) := by
            unfold toldA
            rw [if_neg (by omega), if_neg (by omega), if_neg (by omega), if_neg (by omega), if_neg (by omega), if_neg (by omega), if_neg (by omega), if_neg (by omega), if_neg (by omega), if_neg (by omega), if_neg (by omega), if_pos (by omega)]
          rw [← e]
          exact k _ Fr.rf hR
        · refine wp_astore_n (loc' := [(2, 1), (0, o), (0, w), (2, 0)]) dX7_told_168 rfl (Nat.le_of_ble_eq_true rfl) rfl ?_
          refine wp_aload_n dX7_told_169 rfl rfl ?_
          refine wp_ifnonnull (tgt := 178) dX7_told_170 (by decide) (fun h => absurd h (by decide)) (fun _ => ?_)
          refine wp_bipush dX7_told_173 (by decide) (by decide) ?_
          refine wp_goto (tgt := 187) dX7_told_175 (by decide) ?_
          refine wp_iret rfl dX7_told_187 ?_
          have e : toldA (evC M) A o w = (-2) := by
            unfold toldA
            first | (rw [if_neg (by omega), if_pos (by omega)]; done) | rw [if_neg (by omega), if_neg (by omega), if_neg (by omega), if_neg (by omega), if_neg (by omega), if_neg (by omega), if_neg (by omega), if_neg (by omega), if_neg (by omega), if_neg (by omega), if_neg (by omega), if_neg (by omega)]
          rw [← e]
          exact k _ Fr.rf hR
      · refine wp_iload_n dX7_told_32 rfl rfl ?_
        refine wp_bipush dX7_told_33 (by decide) (by decide) ?_
        refine wp_icmp_ge (tgt := 63) dX7_told_35 (by decide) (fun h35 => ?_) (fun h35 => ?_)
        · refine wp_iload_n dX7_told_63 rfl rfl ?_
          by_cases h64_0 : w = 5
          · refine wp_tabIn dX7_told_64 0 (by omega) (by decide) rfl (tgt := 100) (by decide) ?_
            refine wp_aload_n dX7_told_100 rfl rfl ?_
            refine wp_get 1 rfl fl_RX7_10 rfl ⟨by omega, by omega⟩ dX7_told_101 rfl (v := 2) (sr_1_0 (M := M) hR) ?_
            refine wp_aload_n dX7_told_104 rfl rfl ?_
            refine wp_get 1 rfl fl_RX7_10 rfl ⟨by omega, by omega⟩ dX7_told_105 rfl (v := 2) (sr_1_0 (M := M) hR) ?_
            refine wp_get 2 rfl fl_RX7_107 rfl ⟨by omega, by omega⟩ dX7_told_108 rfl (v := 3) (sr_2_4 (M := M) hR) ?_
            refine wp_iload_n dX7_told_111 rfl rfl ?_
            refine wp_callV0 (d' := d - 1) cv_RX7_111 2 rfl [(2, 3), (0, o)] [] rfl rfl (Or.inl ⟨_, _, rfl, by decide, rfl, by omega, by omega⟩) (by omega) (Nat.le_of_ble_eq_true rfl) dX7_told_112 rfl (Nat.le_of_ble_eq_true rfl) (by omega) (loc1 := [(2, 2), (2, 3), (0, o)]) rfl ?_
            refine sp_of_kind_2 hn hR o (by omega) ?_
            rw [show M 3 o.toNat = A.2 0 o.toNat from ar 0 _ (by omega) (by omega)]
            refine wp_iret rfl dX7_told_115 ?_
            have e : toldA (evC M) A o w = (A.2 0 o.toNat) := by
              unfold toldA
              rw [if_neg (by omega), if_neg (by omega), if_neg (by omega), if_pos (by omega)]
            rw [← e]
            exact k _ Fr.rf hR
          by_cases h64_1 : w = 6
          · refine wp_tabIn dX7_told_64 1 (by omega) (by decide) rfl (tgt := 116) (by decide) ?_
            refine wp_aload_n dX7_told_116 rfl rfl ?_
            refine wp_get 1 rfl fl_RX7_10 rfl ⟨by omega, by omega⟩ dX7_told_117 rfl (v := 2) (sr_1_0 (M := M) hR) ?_
            refine wp_iload_n dX7_told_120 rfl rfl ?_
            refine wp_callV0 (d' := d - 1) cv_RX7_115 2 rfl [(0, o)] [] rfl rfl (Or.inl ⟨_, _, rfl, by decide, rfl, by omega, by omega⟩) (by omega) (Nat.le_of_ble_eq_true rfl) dX7_told_121 rfl (Nat.le_of_ble_eq_true rfl) (by omega) (loc1 := [(2, 2), (0, o), (9, 0)]) rfl ?_
            refine sp_placeOf_2 hn hR o (by omega) (by omega) ?_
            rw [show fst_ (M 8) o (M 2 3).toNat 0 = plA A o from pl_eq hA o (by omega)]
            refine wp_iret rfl dX7_told_124 ?_
            have e : toldA (evC M) A o w = (plA A o) := by
              unfold toldA
              rw [if_neg (by omega), if_neg (by omega), if_neg (by omega), if_neg (by omega), if_pos (by omega)]
            rw [← e]
            exact k _ Fr.rf hR
          by_cases h64_2 : w = 7
          · refine wp_tabIn dX7_told_64 2 (by omega) (by decide) rfl (tgt := 125) (by decide) ?_
            refine wp_aload_n dX7_told_125 rfl rfl ?_
            refine wp_get 1 rfl fl_RX7_41 rfl ⟨by omega, by omega⟩ dX7_told_126 rfl (v := 51) (sr_1_6 (M := M) hR) ?_
            refine wp_aload_n dX7_told_129 rfl rfl ?_
            refine wp_get 1 rfl fl_RX7_10 rfl ⟨by omega, by omega⟩ dX7_told_130 rfl (v := 2) (sr_1_0 (M := M) hR) ?_
            refine wp_iload_n dX7_told_133 rfl rfl ?_
            refine wp_callV0 (d' := d - 1) cv_RX7_118 51 rfl [(2, 2), (0, o)] [] rfl rfl (Or.inl ⟨_, _, rfl, by decide, rfl, by omega, by omega⟩) (by omega) (Nat.le_of_ble_eq_true rfl) dX7_told_134 rfl (Nat.le_of_ble_eq_true rfl) (by omega) (loc1 := [(2, 51), (2, 2), (0, o), (9, 0)]) rfl ?_
            refine sp_lasts_2 hn (by omega) hR hX hA hW hr o (by omega) (fun M1 hF1 hR1 => ?_)
            refine wp_iret rfl dX7_told_137 ?_
            have e : toldA (evC M) A o w = (lastsA (evC M) A o) := by
              unfold toldA
              rw [if_neg (by omega), if_neg (by omega), if_neg (by omega), if_neg (by omega), if_neg (by omega), if_pos (by omega)]
            rw [← e]
            exact k _ hF1 hR1
          by_cases h64_3 : w = 8
          · refine wp_tabIn dX7_told_64 3 (by omega) (by decide) rfl (tgt := 138) (by decide) ?_
            refine wp_aload_n dX7_told_138 rfl rfl ?_
            refine wp_get 1 rfl fl_RX7_41 rfl ⟨by omega, by omega⟩ dX7_told_139 rfl (v := 51) (sr_1_6 (M := M) hR) ?_
            refine wp_aload_n dX7_told_142 rfl rfl ?_
            refine wp_get 1 rfl fl_RX7_10 rfl ⟨by omega, by omega⟩ dX7_told_143 rfl (v := 2) (sr_1_0 (M := M) hR) ?_
            refine wp_iload_n dX7_told_146 rfl rfl ?_
            refine wp_callV0 (d' := d - 1) cv_RX7_122 51 rfl [(2, 2), (0, o)] [] rfl rfl (Or.inl ⟨_, _, rfl, by decide, rfl, by omega, by omega⟩) (by omega) (Nat.le_of_ble_eq_true rfl) dX7_told_147 rfl (Nat.le_of_ble_eq_true rfl) (by omega) (loc1 := [(2, 51), (2, 2), (0, o), (9, 0)]) rfl ?_
            refine sp_irks_2 hn (by omega) hR hX hA hW hr o (by omega) (fun M1 hF1 hR1 => ?_)
            refine wp_iret rfl dX7_told_150 ?_
            have e : toldA (evC M) A o w = (irksA (evC M) A o) := by
              unfold toldA
              rw [if_neg (by omega), if_neg (by omega), if_neg (by omega), if_neg (by omega), if_neg (by omega), if_neg (by omega), if_pos (by omega)]
            rw [← e]
            exact k _ hF1 hR1
          by_cases h64_4 : w = 9
          · refine wp_tabIn dX7_told_64 4 (by omega) (by decide) rfl (tgt := 151) (by decide) ?_
            refine wp_aload_n dX7_told_151 rfl rfl ?_
            refine wp_get 1 rfl fl_RX7_10 rfl ⟨by omega, by omega⟩ dX7_told_152 rfl (v := 2) (sr_1_0 (M := M) hR) ?_
            refine wp_iload_n dX7_told_155 rfl rfl ?_
            refine wp_callV0 (d' := d - 1) cv_RX7_125 2 rfl [(0, o)] [] rfl rfl (Or.inl ⟨_, _, rfl, by decide, rfl, by omega, by omega⟩) (by omega) (Nat.le_of_ble_eq_true rfl) dX7_told_156 rfl (Nat.le_of_ble_eq_true rfl) (by omega) (loc1 := [(2, 2), (0, o), (9, 0), (9, 0)]) rfl ?_
            refine sp_likersOf_2 hn hR o (by omega) (by omega) ?_
            rw [show lkr (M 5) o (M 2 2).toNat = lkr (A.2 2) o (A.1 2).toNat by rw [a2]; exact lkr_cong _ (fun q hq => ar 2 q (by omega) (by omega))]
            refine wp_iret rfl dX7_told_159 ?_
            have e : toldA (evC M) A o w = (lkr (A.2 2) o (A.1 2).toNat) := by
              unfold toldA
              rw [if_neg (by omega), if_neg (by omega), if_neg (by omega), if_neg (by omega), if_neg (by omega), if_neg (by omega), if_neg (by omega), if_pos (by omega)]
            rw [← e]
            exact k _ Fr.rf hR
          refine wp_tabOut dX7_told_64 (by omega) (tgt := 160) (by decide) ?_
          refine wp_aload_n dX7_told_160 rfl rfl ?_
          refine wp_get 1 rfl fl_RX7_10 rfl ⟨by omega, by omega⟩ dX7_told_161 rfl (v := 2) (sr_1_0 (M := M) hR) ?_
          refine wp_iload_n dX7_told_164 rfl rfl ?_
          refine wp_callV0 (d' := d - 1) cv_RX7_83 2 rfl [(0, w)] [] rfl rfl (Or.inl ⟨_, _, rfl, by decide, rfl, by omega, by omega⟩) (by omega) (Nat.le_of_ble_eq_true rfl) dX7_told_165 rfl (Nat.le_of_ble_eq_true rfl) (by omega) (loc1 := [(2, 2), (0, w)]) rfl ?_
          refine sp_rowOf_2 hn hR w (fun hw => ?_) (fun hw => ?_) (fun hw => ?_) (fun hw => ?_) (fun hw => ?_)
          · refine wp_astore_n (loc' := [(2, 1), (0, o), (0, w), (2, 4)]) dX7_told_168 rfl (Nat.le_of_ble_eq_true rfl) rfl ?_
            refine wp_aload_n dX7_told_169 rfl rfl ?_
            refine wp_ifnonnull (tgt := 178) dX7_told_170 (by decide) (fun _ => ?_) (fun h => absurd h (by decide))
            refine wp_aload_n dX7_told_178 rfl rfl ?_
            refine wp_get 1 rfl fl_RX7_10 rfl ⟨by omega, by omega⟩ dX7_told_179 rfl (v := 2) (sr_1_0 (M := M) hR) ?_
            refine wp_aload_n dX7_told_182 rfl rfl ?_
            refine wp_iload_n dX7_told_183 rfl rfl ?_
            refine wp_callV0 (d' := d - 1) cv_RX7_111 2 rfl [(2, 4), (0, o)] [] rfl rfl (Or.inl ⟨_, _, rfl, by decide, rfl, by omega, by omega⟩) (by omega) (Nat.le_of_ble_eq_true rfl) dX7_told_184 rfl (Nat.le_of_ble_eq_true rfl) (by omega) (loc1 := [(2, 2), (2, 4), (0, o)]) rfl ?_
            refine sp_of_number_2 hn hR o (by omega) ?_
            rw [show M 4 o.toNat = A.2 1 o.toNat from ar 1 _ (by omega) (by omega)]
            refine wp_iret rfl dX7_told_187 ?_
            have e : toldA (evC M) A o w = (A.2 1 o.toNat) := by
              unfold toldA
              rw [if_neg (by omega), if_neg (by omega), if_neg (by omega), if_neg (by omega), if_neg (by omega), if_neg (by omega), if_neg (by omega), if_neg (by omega), if_pos (by omega)]
            rw [← e]
            exact k _ Fr.rf hR
          · refine wp_astore_n (loc' := [(2, 1), (0, o), (0, w), (2, 5)]) dX7_told_168 rfl (Nat.le_of_ble_eq_true rfl) rfl ?_
            refine wp_aload_n dX7_told_169 rfl rfl ?_
            refine wp_ifnonnull (tgt := 178) dX7_told_170 (by decide) (fun _ => ?_) (fun h => absurd h (by decide))
            refine wp_aload_n dX7_told_178 rfl rfl ?_
            refine wp_get 1 rfl fl_RX7_10 rfl ⟨by omega, by omega⟩ dX7_told_179 rfl (v := 2) (sr_1_0 (M := M) hR) ?_
            refine wp_aload_n dX7_told_182 rfl rfl ?_
            refine wp_iload_n dX7_told_183 rfl rfl ?_
            refine wp_callV0 (d' := d - 1) cv_RX7_111 2 rfl [(2, 5), (0, o)] [] rfl rfl (Or.inl ⟨_, _, rfl, by decide, rfl, by omega, by omega⟩) (by omega) (Nat.le_of_ble_eq_true rfl) dX7_told_184 rfl (Nat.le_of_ble_eq_true rfl) (by omega) (loc1 := [(2, 2), (2, 5), (0, o)]) rfl ?_
            refine sp_of_likes_2 hn hR o (by omega) ?_
            rw [show M 5 o.toNat = A.2 2 o.toNat from ar 2 _ (by omega) (by omega)]
            refine wp_iret rfl dX7_told_187 ?_
            have e : toldA (evC M) A o w = (A.2 2 o.toNat) := by
              unfold toldA
              rw [if_neg (by omega), if_neg (by omega), if_neg (by omega), if_neg (by omega), if_neg (by omega), if_neg (by omega), if_neg (by omega), if_neg (by omega), if_neg (by omega), if_pos (by omega)]
            rw [← e]
            exact k _ Fr.rf hR
          · refine wp_astore_n (loc' := [(2, 1), (0, o), (0, w), (2, 6)]) dX7_told_168 rfl (Nat.le_of_ble_eq_true rfl) rfl ?_
            refine wp_aload_n dX7_told_169 rfl rfl ?_
            refine wp_ifnonnull (tgt := 178) dX7_told_170 (by decide) (fun _ => ?_) (fun h => absurd h (by decide))
            refine wp_aload_n dX7_told_178 rfl rfl ?_
            refine wp_get 1 rfl fl_RX7_10 rfl ⟨by omega, by omega⟩ dX7_told_179 rfl (v := 2) (sr_1_0 (M := M) hR) ?_
            refine wp_aload_n dX7_told_182 rfl rfl ?_
            refine wp_iload_n dX7_told_183 rfl rfl ?_
            refine wp_callV0 (d' := d - 1) cv_RX7_111 2 rfl [(2, 6), (0, o)] [] rfl rfl (Or.inl ⟨_, _, rfl, by decide, rfl, by omega, by omega⟩) (by omega) (Nat.le_of_ble_eq_true rfl) dX7_told_184 rfl (Nat.le_of_ble_eq_true rfl) (by omega) (loc1 := [(2, 2), (2, 6), (0, o)]) rfl ?_
            refine sp_of_gifts_2 hn hR o (by omega) ?_
            rw [show M 6 o.toNat = A.2 3 o.toNat from ar 3 _ (by omega) (by omega)]
            refine wp_iret rfl dX7_told_187 ?_
            have e : toldA (evC M) A o w = (A.2 3 o.toNat) := by
              unfold toldA
              rw [if_neg (by omega), if_neg (by omega), if_neg (by omega), if_neg (by omega), if_neg (by omega), if_neg (by omega), if_neg (by omega), if_neg (by omega), if_neg (by omega), if_neg (by omega), if_pos (by omega)]
            rw [← e]
            exact k _ Fr.rf hR
          · refine wp_astore_n (loc' := [(2, 1), (0, o), (0, w), (2, 7)]) dX7_told_168 rfl (Nat.le_of_ble_eq_true rfl) rfl ?_
            refine wp_aload_n dX7_told_169 rfl rfl ?_
            refine wp_ifnonnull (tgt := 178) dX7_told_170 (by decide) (fun _ => ?_) (fun h => absurd h (by decide))
            refine wp_aload_n dX7_told_178 rfl rfl ?_
            refine wp_get 1 rfl fl_RX7_10 rfl ⟨by omega, by omega⟩ dX7_told_179 rfl (v := 2) (sr_1_0 (M := M) hR) ?_
            refine wp_aload_n dX7_told_182 rfl rfl ?_
            refine wp_iload_n dX7_told_183 rfl rfl ?_
            refine wp_callV0 (d' := d - 1) cv_RX7_111 2 rfl [(2, 7), (0, o)] [] rfl rfl (Or.inl ⟨_, _, rfl, by decide, rfl, by omega, by omega⟩) (by omega) (Nat.le_of_ble_eq_true rfl) dX7_told_184 rfl (Nat.le_of_ble_eq_true rfl) (by omega) (loc1 := [(2, 2), (2, 7), (0, o)]) rfl ?_
            refine sp_of_served_2 hn hR o (by omega) ?_
            rw [show M 7 o.toNat = A.2 4 o.toNat from ar 4 _ (by omega) (by omega)]
            refine wp_iret rfl dX7_told_187 ?_
            have e : toldA (evC M) A o w = (A.2 4 o.toNat) := by
              unfold toldA
              rw [if_neg (by omega), if_neg (by omega), if_neg (by omega), if_neg (by omega), if_neg (by omega), if_neg (by omega), if_neg (by omega), if_neg (by omega), if_neg (by omega), if_neg (by omega), if_neg (by omega), if_pos (by omega)]
            rw [← e]
            exact k _ Fr.rf hR
          · refine wp_astore_n (loc' := [(2, 1), (0, o), (0, w), (2, 0)]) dX7_told_168 rfl (Nat.le_of_ble_eq_true rfl) rfl ?_
            refine wp_aload_n dX7_told_169 rfl rfl ?_
            refine wp_ifnonnull (tgt := 178) dX7_told_170 (by decide) (fun h => absurd h (by decide)) (fun _ => ?_)
            refine wp_bipush dX7_told_173 (by decide) (by decide) ?_
            refine wp_goto (tgt := 187) dX7_told_175 (by decide) ?_
            refine wp_iret rfl dX7_told_187 ?_
            have e : toldA (evC M) A o w = (-2) := by
              unfold toldA
              first | (rw [if_neg (by omega), if_pos (by omega)]; done) | rw [if_neg (by omega), if_neg (by omega), if_neg (by omega), if_neg (by omega), if_neg (by omega), if_neg (by omega), if_neg (by omega), if_neg (by omega), if_neg (by omega), if_neg (by omega), if_neg (by omega), if_neg (by omega)]
            rw [← e]
            exact k _ Fr.rf hR
        · refine wp_aload_n dX7_told_38 rfl rfl ?_
          refine wp_get 1 rfl fl_RX7_41 rfl ⟨by omega, by omega⟩ dX7_told_39 rfl (v := 51) (sr_1_6 (M := M) hR) ?_
          refine wp_aload_n dX7_told_42 rfl rfl ?_
          refine wp_get 1 rfl fl_RX7_10 rfl ⟨by omega, by omega⟩ dX7_told_43 rfl (v := 2) (sr_1_0 (M := M) hR) ?_
          refine wp_iload_n dX7_told_46 rfl rfl ?_
          refine wp_iload_n dX7_told_47 rfl rfl ?_
          refine wp_bipush dX7_told_48 (by decide) (by decide) ?_
          refine wp_isub dX7_told_50 (by omega) ?_
          refine wp_callV0 (d' := d - 1) cv_RX7_103 51 rfl [(2, 2), (0, o), (0, (w - 10))] [] rfl rfl (Or.inl ⟨_, _, rfl, by decide, rfl, by omega, by omega⟩) (by omega) (Nat.le_of_ble_eq_true rfl) dX7_told_51 rfl (Nat.le_of_ble_eq_true rfl) (by omega) (loc1 := [(2, 51), (2, 2), (0, o), (0, (w - 10)), (9, 0), (9, 0)]) rfl ?_
          refine sp_minds_2 hn (by omega) hR hX hA hW hr o (w - 10) (fun hm M1 hF1 hR1 => ?_) (fun hm M1 hF1 hR1 => ?_)
          · refine wp_if_eq (tgt := 61) dX7_told_54 (by decide) (fun h => absurd h (by decide)) (fun _ => ?_)
            refine wp_iconst dX7_told_57 (by decide) ?_
            refine wp_goto (tgt := 62) dX7_told_58 (by decide) ?_
            refine wp_iret rfl dX7_told_62 ?_
            have e : toldA (evC M) A o w = 1 := by
              unfold toldA
              rw [if_neg (by omega), if_neg (by omega), if_pos (by omega), if_pos hm]
            rw [← e]
            exact k _ hF1 hR1
          · refine wp_if_eq (tgt := 61) dX7_told_54 (by decide) (fun _ => ?_) (fun h => absurd h (by decide))
            refine wp_iconst dX7_told_61 (by decide) ?_
            refine wp_iret rfl dX7_told_62 ?_
            have e : toldA (evC M) A o w = 0 := by
              unfold toldA
              rw [if_neg (by omega), if_neg (by omega), if_pos (by omega), if_neg (by rw [hm]; decide)]
            rw [← e]
            exact k _ hF1 hR1
    · refine wp_if_ne (tgt := 26) dX7_told_20 (by decide) (fun h => absurd h (by decide)) (fun _ => ?_)
      refine wp_bipush dX7_told_23 (by decide) (by decide) ?_
      refine wp_iret rfl dX7_told_25 ?_
      have e : toldA (evC M) A o w = (-2) := by
        unfold toldA
        first | (rw [if_neg (by omega), if_pos (by omega)]; done) | rw [if_neg (by omega), if_neg (by omega), if_neg (by omega), if_neg (by omega), if_neg (by omega), if_neg (by omega), if_neg (by omega), if_neg (by omega), if_neg (by omega), if_neg (by omega), if_neg (by omega), if_neg (by omega)]
      rw [← e]
      exact k _ Fr.rf hR
  · refine wp_aload_n dX7_told_4 rfl rfl ?_
    refine wp_get 1 rfl fl_RX7_10 rfl ⟨by omega, by omega⟩ dX7_told_5 rfl (v := 2) (sr_1_0 (M := M) hR) ?_
    refine wp_get 2 rfl fl_RX7_95 rfl ⟨by omega, by omega⟩ dX7_told_8 rfl (v := (M 2 0)) (rfl) ?_
    refine wp_iret rfl dX7_told_11 ?_
    rw [a0]
    have e : toldA (evC M) A o w = A.1 0 := by
      unfold toldA
      rw [if_pos (by omega)]
    rw [← e]
    exact k _ Fr.rf hR

def VB_9 (i j : Nat) : Prop := (i = 9 ∧ j < 4) ∨ (9 < i ∧ i ≤ 15)
theorem becF_9_2 (M : Mm) : Fr VB_9 M (becM_9_2 M) := (Fr.put (Fr.put (Fr.put (Fr.put (Fr.put (Fr.put (Fr.put (Fr.put (Fr.put (Fr.put (Fr.put (Fr.put (Fr.put (Fr.put (Fr.put (Fr.put (Fr.put (Fr.put (Fr.put (Fr.put (Fr.put (Fr.put (Fr.put (Fr.put (Fr.put (Fr.put (Fr.put (Fr.put (Fr.put (Fr.put (Fr.put (Fr.put (Fr.put (Fr.put Fr.rf (Or.inl ⟨rfl, by decide⟩)) (Or.inl ⟨rfl, by decide⟩)) (Or.inl ⟨rfl, by decide⟩)) (Or.inl ⟨rfl, by decide⟩)) (Or.inr ⟨by decide, by decide⟩)) (Or.inr ⟨by decide, by decide⟩)) (Or.inr ⟨by decide, by decide⟩)) (Or.inr ⟨by decide, by decide⟩)) (Or.inr ⟨by decide, by decide⟩)) (Or.inr ⟨by decide, by decide⟩)) (Or.inr ⟨by decide, by decide⟩)) (Or.inr ⟨by decide, by decide⟩)) (Or.inr ⟨by decide, by decide⟩)) (Or.inr ⟨by decide, by decide⟩)) (Or.inr ⟨by decide, by decide⟩)) (Or.inr ⟨by decide, by decide⟩)) (Or.inr ⟨by decide, by decide⟩)) (Or.inr ⟨by decide, by decide⟩)) (Or.inr ⟨by decide, by decide⟩)) (Or.inr ⟨by decide, by decide⟩)) (Or.inr ⟨by decide, by decide⟩)) (Or.inr ⟨by decide, by decide⟩)) (Or.inr ⟨by decide, by decide⟩)) (Or.inr ⟨by decide, by decide⟩)) (Or.inr ⟨by decide, by decide⟩)) (Or.inr ⟨by decide, by decide⟩)) (Or.inr ⟨by decide, by decide⟩)) (Or.inr ⟨by decide, by decide⟩)) (Or.inr ⟨by decide, by decide⟩)) (Or.inr ⟨by decide, by decide⟩)) (Or.inr ⟨by decide, by decide⟩)) (Or.inr ⟨by decide, by decide⟩)) (Or.inr ⟨by decide, by decide⟩)) (Or.inr ⟨by decide, by decide⟩))
theorem becR_9_2 {M : Mm} (h : SR M) : SR (becM_9_2 M) := h.frL (becF_9_2 M) (by unfold VB_9; decide +kernel)
theorem becA_9_2 {M : Mm} {A : Ls} (h : Rc M 2 A) (hW : Wf A) : Rc (becM_9_2 M) 9 A := by
  obtain ⟨h0, h1, h2, h3, hq, hl⟩ := h
  obtain ⟨w0, w1, w2, w3, -⟩ := hW
  refine ⟨h0, h1, h2, h3, fun r i a b => ?_, fun q hq2 => ?_⟩
  · have e := hq r i a b
    rw [← e]
    rcases (show i = 0 ∨ i = 1 ∨ i = 2 ∨ i = 3 ∨ i = 4 by omega) with rfl | rfl | rfl | rfl | rfl <;> rcases (show r = 0 ∨ r = 1 ∨ r = 2 ∨ r = 3 ∨ r = 4 by omega) with rfl | rfl | rfl | rfl | rfl <;> rfl
  · have e := hl q hq2
    rw [← e]
    rcases (show q = 0 ∨ q = 1 ∨ q = 2 ∨ q = 3 ∨ q = 4 by omega) with rfl | rfl | rfl | rfl | rfl <;> rfl
def VB_2 (i j : Nat) : Prop := (i = 2 ∧ j < 4) ∨ (2 < i ∧ i ≤ 8)
theorem becF_2_9 (M : Mm) : Fr VB_2 M (becM_2_9 M) := (Fr.put (Fr.put (Fr.put (Fr.put (Fr.put (Fr.put (Fr.put (Fr.put (Fr.put (Fr.put (Fr.put (Fr.put (Fr.put (Fr.put (Fr.put (Fr.put (Fr.put (Fr.put (Fr.put (Fr.put (Fr.put (Fr.put (Fr.put (Fr.put (Fr.put (Fr.put (Fr.put (Fr.put (Fr.put (Fr.put (Fr.put (Fr.put (Fr.put (Fr.put Fr.rf (Or.inl ⟨rfl, by decide⟩)) (Or.inl ⟨rfl, by decide⟩)) (Or.inl ⟨rfl, by decide⟩)) (Or.inl ⟨rfl, by decide⟩)) (Or.inr ⟨by decide, by decide⟩)) (Or.inr ⟨by decide, by decide⟩)) (Or.inr ⟨by decide, by decide⟩)) (Or.inr ⟨by decide, by decide⟩)) (Or.inr ⟨by decide, by decide⟩)) (Or.inr ⟨by decide, by decide⟩)) (Or.inr ⟨by decide, by decide⟩)) (Or.inr ⟨by decide, by decide⟩)) (Or.inr ⟨by decide, by decide⟩)) (Or.inr ⟨by decide, by decide⟩)) (Or.inr ⟨by decide, by decide⟩)) (Or.inr ⟨by decide, by decide⟩)) (Or.inr ⟨by decide, by decide⟩)) (Or.inr ⟨by decide, by decide⟩)) (Or.inr ⟨by decide, by decide⟩)) (Or.inr ⟨by decide, by decide⟩)) (Or.inr ⟨by decide, by decide⟩)) (Or.inr ⟨by decide, by decide⟩)) (Or.inr ⟨by decide, by decide⟩)) (Or.inr ⟨by decide, by decide⟩)) (Or.inr ⟨by decide, by decide⟩)) (Or.inr ⟨by decide, by decide⟩)) (Or.inr ⟨by decide, by decide⟩)) (Or.inr ⟨by decide, by decide⟩)) (Or.inr ⟨by decide, by decide⟩)) (Or.inr ⟨by decide, by decide⟩)) (Or.inr ⟨by decide, by decide⟩)) (Or.inr ⟨by decide, by decide⟩)) (Or.inr ⟨by decide, by decide⟩)) (Or.inr ⟨by decide, by decide⟩))
theorem becR_2_9 {M : Mm} (h : SR M) : SR (becM_2_9 M) := h.frL (becF_2_9 M) (by unfold VB_2; decide +kernel)
theorem becA_2_9 {M : Mm} {A : Ls} (h : Rc M 9 A) (hW : Wf A) : Rc (becM_2_9 M) 2 A := by
  obtain ⟨h0, h1, h2, h3, hq, hl⟩ := h
  obtain ⟨w0, w1, w2, w3, -⟩ := hW
  refine ⟨h0, h1, h2, h3, fun r i a b => ?_, fun q hq2 => ?_⟩
  · have e := hq r i a b
    rw [← e]
    rcases (show i = 0 ∨ i = 1 ∨ i = 2 ∨ i = 3 ∨ i = 4 by omega) with rfl | rfl | rfl | rfl | rfl <;> rcases (show r = 0 ∨ r = 1 ∨ r = 2 ∨ r = 3 ∨ r = 4 by omega) with rfl | rfl | rfl | rfl | rfl <;> rfl
  · have e := hl q hq2
    rw [← e]
    rcases (show q = 0 ∨ q = 1 ∨ q = 2 ∨ q = 3 ∨ q = 4 by omega) with rfl | rfl | rfl | rfl | rfl <;> rfl
def VB_16 (i j : Nat) : Prop := (i = 16 ∧ j < 4) ∨ (16 < i ∧ i ≤ 22)
theorem becF_16_2 (M : Mm) : Fr VB_16 M (becM_16_2 M) := (Fr.put (Fr.put (Fr.put (Fr.put (Fr.put (Fr.put (Fr.put (Fr.put (Fr.put (Fr.put (Fr.put (Fr.put (Fr.put (Fr.put (Fr.put (Fr.put (Fr.put (Fr.put (Fr.put (Fr.put (Fr.put (Fr.put (Fr.put (Fr.put (Fr.put (Fr.put (Fr.put (Fr.put (Fr.put (Fr.put (Fr.put (Fr.put (Fr.put (Fr.put Fr.rf (Or.inl ⟨rfl, by decide⟩)) (Or.inl ⟨rfl, by decide⟩)) (Or.inl ⟨rfl, by decide⟩)) (Or.inl ⟨rfl, by decide⟩)) (Or.inr ⟨by decide, by decide⟩)) (Or.inr ⟨by decide, by decide⟩)) (Or.inr ⟨by decide, by decide⟩)) (Or.inr ⟨by decide, by decide⟩)) (Or.inr ⟨by decide, by decide⟩)) (Or.inr ⟨by decide, by decide⟩)) (Or.inr ⟨by decide, by decide⟩)) (Or.inr ⟨by decide, by decide⟩)) (Or.inr ⟨by decide, by decide⟩)) (Or.inr ⟨by decide, by decide⟩)) (Or.inr ⟨by decide, by decide⟩)) (Or.inr ⟨by decide, by decide⟩)) (Or.inr ⟨by decide, by decide⟩)) (Or.inr ⟨by decide, by decide⟩)) (Or.inr ⟨by decide, by decide⟩)) (Or.inr ⟨by decide, by decide⟩)) (Or.inr ⟨by decide, by decide⟩)) (Or.inr ⟨by decide, by decide⟩)) (Or.inr ⟨by decide, by decide⟩)) (Or.inr ⟨by decide, by decide⟩)) (Or.inr ⟨by decide, by decide⟩)) (Or.inr ⟨by decide, by decide⟩)) (Or.inr ⟨by decide, by decide⟩)) (Or.inr ⟨by decide, by decide⟩)) (Or.inr ⟨by decide, by decide⟩)) (Or.inr ⟨by decide, by decide⟩)) (Or.inr ⟨by decide, by decide⟩)) (Or.inr ⟨by decide, by decide⟩)) (Or.inr ⟨by decide, by decide⟩)) (Or.inr ⟨by decide, by decide⟩))
theorem becR_16_2 {M : Mm} (h : SR M) : SR (becM_16_2 M) := h.frL (becF_16_2 M) (by unfold VB_16; decide +kernel)
theorem becA_16_2 {M : Mm} {A : Ls} (h : Rc M 2 A) (hW : Wf A) : Rc (becM_16_2 M) 16 A := by
  obtain ⟨h0, h1, h2, h3, hq, hl⟩ := h
  obtain ⟨w0, w1, w2, w3, -⟩ := hW
  refine ⟨h0, h1, h2, h3, fun r i a b => ?_, fun q hq2 => ?_⟩
  · have e := hq r i a b
    rw [← e]
    rcases (show i = 0 ∨ i = 1 ∨ i = 2 ∨ i = 3 ∨ i = 4 by omega) with rfl | rfl | rfl | rfl | rfl <;> rcases (show r = 0 ∨ r = 1 ∨ r = 2 ∨ r = 3 ∨ r = 4 by omega) with rfl | rfl | rfl | rfl | rfl <;> rfl
  · have e := hl q hq2
    rw [← e]
    rcases (show q = 0 ∨ q = 1 ∨ q = 2 ∨ q = 3 ∨ q = 4 by omega) with rfl | rfl | rfl | rfl | rfl <;> rfl
set_option maxRecDepth 20000 in
set_option maxHeartbeats 4000000 in
theorem cs_image {l : Launch} {g : Gw} {d n : Nat} {M : Mm} {Q : Option Wd → Mm → Prop} (hn : 60 ≤ n) (hd : 10 ≤ d) (hR : SR M) (k : Q (some (0, M 2 2)) (mu (becM_9_2 M) 1 3 1)) : Wp l g d 0 0 n m_X7_image 0 [] [(2, 1)] M Q := by
  refine wp_aload_n dX7_image_0 rfl rfl ?_
  refine wp_get 1 rfl fl_RX7_16 rfl ⟨by omega, by omega⟩ dX7_image_1 rfl (v := 9) (sr_1_1 (M := M) hR) ?_
  refine wp_aload_n dX7_image_4 rfl rfl ?_
  refine wp_get 1 rfl fl_RX7_10 rfl ⟨by omega, by omega⟩ dX7_image_5 rfl (v := 2) (sr_1_0 (M := M) hR) ?_
  refine wp_callV0 (d' := d - 1) cv_RX7_203 9 rfl [(2, 2)] [] rfl rfl (Or.inl ⟨_, _, rfl, by decide, rfl, by omega, by omega⟩) (by omega) (Nat.le_of_ble_eq_true rfl) dX7_image_8 rfl (Nat.le_of_ble_eq_true rfl) (by omega) (loc1 := [(2, 9), (2, 2), (9, 0)]) rfl ?_
  refine sp_become_9_2 hn hR ?_
  have hRb := becR_9_2 hR
  refine wp_aload_n dX7_image_11 rfl rfl ?_
  refine wp_iconst dX7_image_12 (by decide) ?_
  refine wp_putz 1 rfl fl_RX7_260 rfl ⟨by omega, by omega⟩ dX7_image_13 rfl rfl (by omega) ?_
  refine wp_aload_n dX7_image_16 rfl rfl ?_
  refine wp_get 1 rfl fl_RX7_10 rfl ⟨by omega, by omega⟩ dX7_image_17 rfl (v := 2) (sr_1_0 (M := (becM_9_2 M)) hRb) ?_
  refine wp_get 2 rfl fl_RX7_264 rfl ⟨by omega, by omega⟩ dX7_image_20 rfl (v := (M 2 2)) (rfl) ?_
  refine wp_iret rfl dX7_image_23 ?_
  exact k
set_option maxRecDepth 20000 in
set_option maxHeartbeats 4000000 in
theorem cs_back {l : Launch} {g : Gw} {d n : Nat} {M : Mm} {Q : Option Wd → Mm → Prop} (hn : 60 ≤ n) (hd : 10 ≤ d) (hR : SR M) (kS : M 1 3 = 0 → Q (some (0, -3)) M) (k : M 1 3 ≠ 0 → Q (some (0, M 9 2)) (becM_2_9 M)) : Wp l g d 0 0 n m_X7_back 0 [] [(2, 1)] M Q := by
  refine wp_aload_n dX7_back_0 rfl rfl ?_
  refine wp_get 1 rfl fl_RX7_260 rfl ⟨by omega, by omega⟩ dX7_back_1 rfl (v := (M 1 3)) (rfl) ?_
  refine wp_if_ne (tgt := 10) dX7_back_4 (by decide) (fun h4 => ?_) (fun h4 => ?_)
  · refine wp_aload_n dX7_back_10 rfl rfl ?_
    refine wp_get 1 rfl fl_RX7_10 rfl ⟨by omega, by omega⟩ dX7_back_11 rfl (v := 2) (sr_1_0 (M := M) hR) ?_
    refine wp_aload_n dX7_back_14 rfl rfl ?_
    refine wp_get 1 rfl fl_RX7_16 rfl ⟨by omega, by omega⟩ dX7_back_15 rfl (v := 9) (sr_1_1 (M := M) hR) ?_
    refine wp_callV0 (d' := d - 1) cv_RX7_203 2 rfl [(2, 9)] [] rfl rfl (Or.inl ⟨_, _, rfl, by decide, rfl, by omega, by omega⟩) (by omega) (Nat.le_of_ble_eq_true rfl) dX7_back_18 rfl (Nat.le_of_ble_eq_true rfl) (by omega) (loc1 := [(2, 2), (2, 9), (9, 0)]) rfl ?_
    refine sp_become_2_9 hn hR ?_
    have hRb := becR_2_9 hR
    refine wp_aload_n dX7_back_21 rfl rfl ?_
    refine wp_get 1 rfl fl_RX7_10 rfl ⟨by omega, by omega⟩ dX7_back_22 rfl (v := 2) (sr_1_0 (M := (becM_2_9 M)) hRb) ?_
    refine wp_get 2 rfl fl_RX7_264 rfl ⟨by omega, by omega⟩ dX7_back_25 rfl (v := (M 9 2)) (rfl) ?_
    refine wp_iret rfl dX7_back_28 ?_
    exact k (by omega)
  · refine wp_bipush dX7_back_7 (by decide) (by decide) ?_
    refine wp_iret rfl dX7_back_9 ?_
    exact kS (by omega)
def cntC (M : Mm) (w : Int) : Int := if w = 0 then M 2 2 else if w = 1 then M 2 3 else if w = 2 then M 2 0 else if w = 3 then M 25 1 else if w = 4 then M 23 1 else if w = 5 then M 2 1 else -2
set_option maxRecDepth 20000 in
set_option maxHeartbeats 4000000 in
theorem cs_count {l : Launch} {g : Gw} {d n : Nat} {M : Mm} {Q : Option Wd → Mm → Prop} (hn : 60 ≤ n) (hd : 10 ≤ d) (hR : SR M) (w : Int) (k : Q (some (0, cntC M w)) M) : Wp l g d 0 0 n m_X7_count 0 [] [(2, 1), (0, w)] M Q := by
  refine wp_iload_n dX7_count_0 rfl rfl ?_
  by_cases h1_0 : w = 0
  · refine wp_tabIn dX7_count_1 0 (by omega) (by decide) rfl (tgt := 40) (by decide) ?_
    refine wp_aload_n dX7_count_40 rfl rfl ?_
    refine wp_get 1 rfl fl_RX7_10 rfl ⟨by omega, by omega⟩ dX7_count_41 rfl (v := 2) (sr_1_0 (M := M) hR) ?_
    refine wp_get 2 rfl fl_RX7_264 rfl ⟨by omega, by omega⟩ dX7_count_44 rfl (v := (M 2 2)) (rfl) ?_
    refine wp_iret rfl dX7_count_47 ?_
    have e : cntC M w = (M 2 2) := by
      unfold cntC
      (repeat' split) <;> first | rfl | omega
    rw [← e]
    exact k
  by_cases h1_1 : w = 1
  · refine wp_tabIn dX7_count_1 1 (by omega) (by decide) rfl (tgt := 48) (by decide) ?_
    refine wp_aload_n dX7_count_48 rfl rfl ?_
    refine wp_get 1 rfl fl_RX7_10 rfl ⟨by omega, by omega⟩ dX7_count_49 rfl (v := 2) (sr_1_0 (M := M) hR) ?_
    refine wp_get 2 rfl fl_RX7_209 rfl ⟨by omega, by omega⟩ dX7_count_52 rfl (v := (M 2 3)) (rfl) ?_
    refine wp_iret rfl dX7_count_55 ?_
    have e : cntC M w = (M 2 3) := by
      unfold cntC
      (repeat' split) <;> first | rfl | omega
    rw [← e]
    exact k
  by_cases h1_2 : w = 2
  · refine wp_tabIn dX7_count_1 2 (by omega) (by decide) rfl (tgt := 56) (by decide) ?_
    refine wp_aload_n dX7_count_56 rfl rfl ?_
    refine wp_get 1 rfl fl_RX7_10 rfl ⟨by omega, by omega⟩ dX7_count_57 rfl (v := 2) (sr_1_0 (M := M) hR) ?_
    refine wp_get 2 rfl fl_RX7_95 rfl ⟨by omega, by omega⟩ dX7_count_60 rfl (v := (M 2 0)) (rfl) ?_
    refine wp_iret rfl dX7_count_63 ?_
    have e : cntC M w = (M 2 0) := by
      unfold cntC
      (repeat' split) <;> first | rfl | omega
    rw [← e]
    exact k
  by_cases h1_3 : w = 3
  · refine wp_tabIn dX7_count_1 3 (by omega) (by decide) rfl (tgt := 64) (by decide) ?_
    refine wp_aload_n dX7_count_64 rfl rfl ?_
    refine wp_get 1 rfl fl_RX7_32 rfl ⟨by omega, by omega⟩ dX7_count_65 rfl (v := 25) (sr_1_5 (M := M) hR) ?_
    refine wp_get 25 rfl fl_RX7_243 rfl ⟨by omega, by omega⟩ dX7_count_68 rfl (v := (M 25 1)) (rfl) ?_
    refine wp_iret rfl dX7_count_71 ?_
    have e : cntC M w = (M 25 1) := by
      unfold cntC
      (repeat' split) <;> first | rfl | omega
    rw [← e]
    exact k
  by_cases h1_4 : w = 4
  · refine wp_tabIn dX7_count_1 4 (by omega) (by decide) rfl (tgt := 72) (by decide) ?_
    refine wp_aload_n dX7_count_72 rfl rfl ?_
    refine wp_get 1 rfl fl_RX7_25 rfl ⟨by omega, by omega⟩ dX7_count_73 rfl (v := 23) (sr_1_4 (M := M) hR) ?_
    refine wp_get 23 rfl fl_RX7_131 rfl ⟨by omega, by omega⟩ dX7_count_76 rfl (v := (M 23 1)) (rfl) ?_
    refine wp_iret rfl dX7_count_79 ?_
    have e : cntC M w = (M 23 1) := by
      unfold cntC
      (repeat' split) <;> first | rfl | omega
    rw [← e]
    exact k
  by_cases h1_5 : w = 5
  · refine wp_tabIn dX7_count_1 5 (by omega) (by decide) rfl (tgt := 80) (by decide) ?_
    refine wp_aload_n dX7_count_80 rfl rfl ?_
    refine wp_get 1 rfl fl_RX7_10 rfl ⟨by omega, by omega⟩ dX7_count_81 rfl (v := 2) (sr_1_0 (M := M) hR) ?_
    refine wp_get 2 rfl fl_RX7_139 rfl ⟨by omega, by omega⟩ dX7_count_84 rfl (v := (M 2 1)) (rfl) ?_
    refine wp_iret rfl dX7_count_87 ?_
    have e : cntC M w = (M 2 1) := by
      unfold cntC
      (repeat' split) <;> first | rfl | omega
    rw [← e]
    exact k
  refine wp_tabOut dX7_count_1 (by omega) (tgt := 88) (by decide) ?_
  refine wp_bipush dX7_count_88 (by decide) (by decide) ?_
  refine wp_iret rfl dX7_count_90 ?_
  have e : cntC M w = (-2) := by
    unfold cntC
    (repeat' split) <;> first | rfl | omega
  rw [← e]
  exact k
def tknA (A : Ls) (x y : Int) : Int := if ¬ (0 ≤ y ∧ y ≤ 5) then -2 else if ¬ (0 ≤ x ∧ x < A.1 2) then -11 else if undr (A.2 0 x.toNat) y = true then A.2 1 x.toNat else -13
set_option maxRecDepth 20000 in
set_option maxHeartbeats 4000000 in
theorem cs_taken {l : Launch} {g : Gw} {d n : Nat} {M : Mm} {Q : Option Wd → Mm → Prop} (hn : 60 ≤ n) (hd : 10 ≤ d) {A : Ls} (hI : CJ M A) (x y : Int) (k : Q (some (0, tknA A x y)) M) : Wp l g d 0 0 n m_X7_taken 0 [] [(2, 1), (0, x), (0, y)] M Q := by
  obtain ⟨hR, hX, hA, hW, hr⟩ := id hI
  obtain ⟨a0, a1, a2, a3, ar, al⟩ := id hA
  obtain ⟨w0, w1, w2, w3, w4, w5, w6⟩ := id hW
  have hX1 := hX.1
  have hX2 := hX.2.1
  refine wp_iload_n dX7_taken_0 rfl rfl ?_
  refine wp_if_lt (tgt := 10) dX7_taken_1 (by decide) (fun h1 => ?_) (fun h1 => ?_)
  · refine wp_bipush dX7_taken_10 (by decide) (by decide) ?_
    refine wp_iret rfl dX7_taken_12 ?_
    have e : tknA A x y = (-2) := by
      unfold tknA
      (repeat' split) <;> first | rfl | omega | contradiction | (rename_i hz; rw [hu] at hz; cases hz) | (rename_i hz; exact absurd hu hz)
    rw [← e]
    exact k
  · refine wp_iload_n dX7_taken_4 rfl rfl ?_
    refine wp_bipush dX7_taken_5 (by decide) (by decide) ?_
    refine wp_icmp_lt (tgt := 13) dX7_taken_7 (by decide) (fun h7 => ?_) (fun h7 => ?_)
    · refine wp_aload_n dX7_taken_13 rfl rfl ?_
      refine wp_get 1 rfl fl_RX7_10 rfl ⟨by omega, by omega⟩ dX7_taken_14 rfl (v := 2) (sr_1_0 (M := M) hR) ?_
      refine wp_iload_n dX7_taken_17 rfl rfl ?_
      refine wp_callV0 (d' := d - 1) cv_RX7_87 2 rfl [(0, x)] [] rfl rfl (Or.inl ⟨_, _, rfl, by decide, rfl, by omega, by omega⟩) (by omega) (Nat.le_of_ble_eq_true rfl) dX7_taken_18 rfl (Nat.le_of_ble_eq_true rfl) (by omega) (loc1 := [(2, 2), (0, x)]) rfl ?_
      refine sp_has_2 hn x (fun h18 => ?_) (fun h18 => ?_)
      · refine wp_if_ne (tgt := 27) dX7_taken_21 (by decide) (fun _ => ?_) (fun h => absurd h (by decide))
        refine wp_aload_n dX7_taken_27 rfl rfl ?_
        refine wp_get 1 rfl fl_RX7_10 rfl ⟨by omega, by omega⟩ dX7_taken_28 rfl (v := 2) (sr_1_0 (M := M) hR) ?_
        refine wp_aload_n dX7_taken_31 rfl rfl ?_
        refine wp_get 1 rfl fl_RX7_10 rfl ⟨by omega, by omega⟩ dX7_taken_32 rfl (v := 2) (sr_1_0 (M := M) hR) ?_
        refine wp_get 2 rfl fl_RX7_107 rfl ⟨by omega, by omega⟩ dX7_taken_35 rfl (v := 3) (sr_2_4 (M := M) hR) ?_
        refine wp_iload_n dX7_taken_38 rfl rfl ?_
        refine wp_callV0 (d' := d - 1) cv_RX7_111 2 rfl [(2, 3), (0, x)] [] rfl rfl (Or.inl ⟨_, _, rfl, by decide, rfl, by omega, by omega⟩) (by omega) (Nat.le_of_ble_eq_true rfl) dX7_taken_39 rfl (Nat.le_of_ble_eq_true rfl) (by omega) (loc1 := [(2, 2), (2, 3), (0, x)]) rfl ?_
        refine sp_of_kind_2 hn hR x (by omega) ?_
        rw [show M 3 x.toNat = A.2 0 x.toNat from ar 0 _ (by omega) (by omega)]
        refine wp_iload_n dX7_taken_42 rfl rfl ?_
        refine wp_callS0 (d' := d - 1) cs_RX7_282 [(0, (A.2 0 x.toNat)), (0, y)] [] rfl rfl (Nat.le_of_ble_eq_true rfl) dX7_taken_43 rfl (Nat.le_of_ble_eq_true rfl) (by omega) (loc1 := [(0, (A.2 0 x.toNat)), (0, y), (9, 0), (9, 0)]) rfl ?_
        have hk := w6 x.toNat (by omega)
        refine sp_isUnder (A.2 0 x.toNat) y (by omega) (by omega) (fun hu => ?_) (fun hu => ?_) (by omega)
        · refine wp_if_eq (tgt := 67) dX7_taken_46 (by decide) (fun h => absurd h (by decide)) (fun _ => ?_)
          refine wp_aload_n dX7_taken_49 rfl rfl ?_
          refine wp_get 1 rfl fl_RX7_10 rfl ⟨by omega, by omega⟩ dX7_taken_50 rfl (v := 2) (sr_1_0 (M := M) hR) ?_
          refine wp_aload_n dX7_taken_53 rfl rfl ?_
          refine wp_get 1 rfl fl_RX7_10 rfl ⟨by omega, by omega⟩ dX7_taken_54 rfl (v := 2) (sr_1_0 (M := M) hR) ?_
          refine wp_get 2 rfl fl_RX7_240 rfl ⟨by omega, by omega⟩ dX7_taken_57 rfl (v := 4) (sr_2_5 (M := M) hR) ?_
          refine wp_iload_n dX7_taken_60 rfl rfl ?_
          refine wp_callV0 (d' := d - 1) cv_RX7_111 2 rfl [(2, 4), (0, x)] [] rfl rfl (Or.inl ⟨_, _, rfl, by decide, rfl, by omega, by omega⟩) (by omega) (Nat.le_of_ble_eq_true rfl) dX7_taken_61 rfl (Nat.le_of_ble_eq_true rfl) (by omega) (loc1 := [(2, 2), (2, 4), (0, x)]) rfl ?_
          refine sp_of_number_2 hn hR x (by omega) ?_
          rw [show M 4 x.toNat = A.2 1 x.toNat from ar 1 _ (by omega) (by omega)]
          refine wp_goto (tgt := 69) dX7_taken_64 (by decide) ?_
          refine wp_iret rfl dX7_taken_69 ?_
          have e : tknA A x y = (A.2 1 x.toNat) := by
            unfold tknA
            (repeat' split) <;> first | rfl | omega | contradiction | (rename_i hz; rw [hu] at hz; cases hz) | (rename_i hz; exact absurd hu hz)
          rw [← e]
          exact k
        · refine wp_if_eq (tgt := 67) dX7_taken_46 (by decide) (fun _ => ?_) (fun h => absurd h (by decide))
          refine wp_bipush dX7_taken_67 (by decide) (by decide) ?_
          refine wp_iret rfl dX7_taken_69 ?_
          have e : tknA A x y = (-13) := by
            unfold tknA
            (repeat' split) <;> first | rfl | omega | contradiction | (rename_i hz; rw [hu] at hz; cases hz) | (rename_i hz; exact absurd hu hz)
          rw [← e]
          exact k
      · refine wp_if_ne (tgt := 27) dX7_taken_21 (by decide) (fun h => absurd h (by decide)) (fun _ => ?_)
        refine wp_bipush dX7_taken_24 (by decide) (by decide) ?_
        refine wp_iret rfl dX7_taken_26 ?_
        have e : tknA A x y = (-11) := by
          unfold tknA
          (repeat' split) <;> first | rfl | omega | contradiction | (rename_i hz; rw [hu] at hz; cases hz) | (rename_i hz; exact absurd hu hz)
        rw [← e]
        exact k
    · refine wp_bipush dX7_taken_10 (by decide) (by decide) ?_
      refine wp_iret rfl dX7_taken_12 ?_
      have e : tknA A x y = (-2) := by
        unfold tknA
        (repeat' split) <;> first | rfl | omega | contradiction | (rename_i hz; rw [hu] at hz; cases hz) | (rename_i hz; exact absurd hu hz)
      rw [← e]
      exact k
set_option maxRecDepth 20000 in
set_option maxHeartbeats 4000000 in
theorem cs_force {l : Launch} {g : Gw} {d n : Nat} {M : Mm} {Q : Option Wd → Mm → Prop} (hn : 60 ≤ n) (hd : 10 ≤ d) {A : Ls} (hI : CJ M A) (x : Int) (kB : ¬ (0 ≤ x ∧ x < M 25 1) → Q (some (0, -2)) M) (k : (0 ≤ x ∧ x < M 25 1) → Q (some (0, A.1 1)) (mu M 2 1 x)) : Wp l g d 0 0 n m_X7_force 0 [] [(2, 1), (0, x), (9, 0)] M Q := by
  obtain ⟨hR, hX, hA, hW, hr⟩ := id hI
  obtain ⟨a0, a1, a2, a3, ar, al⟩ := id hA
  obtain ⟨w0, w1, w2, w3, w4, w5, w6⟩ := id hW
  have hX1 := hX.1
  have hX2 := hX.2.1
  refine wp_aload_n dX7_force_0 rfl rfl ?_
  refine wp_get 1 rfl fl_RX7_32 rfl ⟨by omega, by omega⟩ dX7_force_1 rfl (v := 25) (sr_1_5 (M := M) hR) ?_
  refine wp_iload_n dX7_force_4 rfl rfl ?_
  refine wp_callV0 (d' := d - 1) cv_RX7_138 25 rfl [(0, x)] [] rfl rfl (Or.inl ⟨_, _, rfl, by decide, rfl, by omega, by omega⟩) (by omega) (Nat.le_of_ble_eq_true rfl) dX7_force_5 rfl (Nat.le_of_ble_eq_true rfl) (by omega) (loc1 := [(2, 25), (0, x)]) rfl ?_
  refine wp_iload_n dX6_has_0 rfl rfl ?_
  refine wp_if_lt (tgt := 22) dX6_has_1 (by decide) (fun h1 => ?_) (fun h1 => ?_)
  · refine wp_iconst dX6_has_22 (by decide) ?_
    refine wp_zret rfl (by omega) dX6_has_23 ?_
    refine wp_if_ne (tgt := 14) dX7_force_8 (by decide) (fun h => absurd h (by decide)) (fun _ => ?_)
    refine wp_bipush dX7_force_11 (by decide) (by decide) ?_
    refine wp_iret rfl dX7_force_13 ?_
    exact kB (by omega)
  · refine wp_iload_n dX6_has_4 rfl rfl ?_
    refine wp_aload_n dX6_has_5 rfl rfl ?_
    refine wp_get 25 rfl fl_RX6_16 rfl ⟨by omega, by omega⟩ dX6_has_6 rfl (v := (M 25 1)) (rfl) ?_
    refine wp_icmp_ge (tgt := 22) dX6_has_9 (by decide) (fun h9 => ?_) (fun h9 => ?_)
    · refine wp_iconst dX6_has_22 (by decide) ?_
      refine wp_zret rfl (by omega) dX6_has_23 ?_
      refine wp_if_ne (tgt := 14) dX7_force_8 (by decide) (fun h => absurd h (by decide)) (fun _ => ?_)
      refine wp_bipush dX7_force_11 (by decide) (by decide) ?_
      refine wp_iret rfl dX7_force_13 ?_
      exact kB (by omega)
    · refine wp_iload_n dX6_has_12 rfl rfl ?_
      refine wp_bipush dX6_has_13 (by decide) (by decide) ?_
      refine wp_icmp_ge (tgt := 22) dX6_has_15 (by decide) (fun h15 => ?_) (fun h15 => ?_)
      · refine wp_iconst dX6_has_22 (by decide) ?_
        refine wp_zret rfl (by omega) dX6_has_23 ?_
        refine wp_if_ne (tgt := 14) dX7_force_8 (by decide) (fun h => absurd h (by decide)) (fun _ => ?_)
        refine wp_bipush dX7_force_11 (by decide) (by decide) ?_
        refine wp_iret rfl dX7_force_13 ?_
        exact kB (by omega)
      · refine wp_iconst dX6_has_18 (by decide) ?_
        refine wp_goto (tgt := 23) dX6_has_19 (by decide) ?_
        refine wp_zret rfl (by omega) dX6_has_23 ?_
        refine wp_if_ne (tgt := 14) dX7_force_8 (by decide) (fun _ => ?_) (fun h => absurd h (by decide))
        refine wp_aload_n dX7_force_14 rfl rfl ?_
        refine wp_get 1 rfl fl_RX7_10 rfl ⟨by omega, by omega⟩ dX7_force_15 rfl (v := 2) (sr_1_0 (M := M) hR) ?_
        refine wp_get 2 rfl fl_RX7_139 rfl ⟨by omega, by omega⟩ dX7_force_18 rfl (v := (M 2 1)) (rfl) ?_
        refine wp_istore_n (loc' := [(2, 1), (0, x), (0, (M 2 1))]) dX7_force_21 rfl (Nat.le_of_ble_eq_true rfl) rfl ?_
        refine wp_aload_n dX7_force_22 rfl rfl ?_
        refine wp_get 1 rfl fl_RX7_10 rfl ⟨by omega, by omega⟩ dX7_force_23 rfl (v := 2) (sr_1_0 (M := M) hR) ?_
        refine wp_iload_n dX7_force_26 rfl rfl ?_
        refine wp_puti 2 rfl fl_RX7_139 rfl ⟨by omega, by omega⟩ dX7_force_27 rfl rfl ?_
        refine wp_iload_n dX7_force_30 rfl rfl ?_
        refine wp_iret rfl dX7_force_31 ?_
        exact a1 ▸ k (by omega)
set_option maxRecDepth 20000 in
set_option maxHeartbeats 4000000 in
theorem cs_feed {l : Launch} {g : Gw} {d n : Nat} {M : Mm} {Q : Option Wd → Mm → Prop} (hn : 60 ≤ n) (hd : 10 ≤ d) (hR : SR M) (x : Int) (h0 : 0 ≤ M 23 1) (h1 : M 23 1 ≤ 160) (kB : ¬ (0 ≤ x ∧ x ≤ 255) → Q (some (0, -2)) M) (kF : (0 ≤ x ∧ x ≤ 255) → M 23 1 = 160 → Q (some (0, -4)) M) (k : (0 ≤ x ∧ x ≤ 255) → M 23 1 < 160 → Q (some (0, M 23 1 + 1)) (mu (mu M 24 (M 23 1).toNat x) 23 1 (M 23 1 + 1))) : Wp l g d 0 0 n m_X7_feed 0 [] [(2, 1), (0, x)] M Q := by
  refine wp_iload_n dX7_feed_0 rfl rfl ?_
  refine wp_if_lt (tgt := 11) dX7_feed_1 (by decide) (fun h1 => ?_) (fun h1 => ?_)
  · refine wp_bipush dX7_feed_11 (by decide) (by decide) ?_
    refine wp_iret rfl dX7_feed_13 ?_
    exact kB (by omega)
  · refine wp_iload_n dX7_feed_4 rfl rfl ?_
    refine wp_sipush dX7_feed_5 (by decide) (by decide) ?_
    refine wp_icmp_le (tgt := 14) dX7_feed_8 (by decide) (fun h8 => ?_) (fun h8 => ?_)
    · refine wp_aload_n dX7_feed_14 rfl rfl ?_
      refine wp_get 1 rfl fl_RX7_25 rfl ⟨by omega, by omega⟩ dX7_feed_15 rfl (v := 23) (sr_1_4 (M := M) hR) ?_
      refine wp_iload_n dX7_feed_18 rfl rfl ?_
      refine wp_callV0 (d' := d - 1) cv_RX7_128 23 rfl [(0, x)] [] rfl rfl (Or.inl ⟨_, _, rfl, by decide, rfl, by omega, by omega⟩) (by omega) (Nat.le_of_ble_eq_true rfl) dX7_feed_19 rfl (Nat.le_of_ble_eq_true rfl) (by omega) (loc1 := [(2, 23), (0, x)]) rfl ?_
      refine wp_aload_n dX2_put_0 rfl rfl ?_
      refine wp_get 23 rfl fl_RX2_15 rfl ⟨by omega, by omega⟩ dX2_put_1 rfl (v := (M 23 1)) (rfl) ?_
      refine wp_if_lt (tgt := 17) dX2_put_4 (by decide) (fun h4 => ?_) (fun h4 => ?_)
      · refine wp_iconst dX2_put_17 (by decide) ?_
        refine wp_zret rfl (by omega) dX2_put_18 ?_
        refine wp_if_eq (tgt := 35) dX7_feed_22 (by decide) (fun _ => ?_) (fun h => absurd h (by decide))
        refine wp_bipush dX7_feed_35 (by decide) (by decide) ?_
        refine wp_iret rfl dX7_feed_37 ?_
        exact kF (by omega) (by omega)
      · refine wp_aload_n dX2_put_7 rfl rfl ?_
        refine wp_get 23 rfl fl_RX2_15 rfl ⟨by omega, by omega⟩ dX2_put_8 rfl (v := (M 23 1)) (rfl) ?_
        refine wp_sipush dX2_put_11 (by decide) (by decide) ?_
        refine wp_icmp_lt (tgt := 19) dX2_put_14 (by decide) (fun h14 => ?_) (fun h14 => ?_)
        · refine wp_aload_n dX2_put_19 rfl rfl ?_
          refine wp_get 23 rfl fl_RX2_11 rfl ⟨by omega, by omega⟩ dX2_put_20 rfl (v := 24) (sr_23_0 (M := M) hR) ?_
          refine wp_aload_n dX2_put_23 rfl rfl ?_
          refine wp_get 23 rfl fl_RX2_15 rfl ⟨by omega, by omega⟩ dX2_put_24 rfl (v := (M 23 1)) (rfl) ?_
          refine wp_iload_n dX2_put_27 rfl rfl ?_
          refine wp_iast 24 rfl rfl ⟨by omega, by omega⟩ ⟨by omega, by omega⟩ dX2_put_28 (jn := ((M 23 1)).toNat) rfl ?_
          refine wp_aload_n dX2_put_29 rfl rfl ?_
          refine wp_dup dX2_put_30 (Or.inr rfl) ?_
          refine wp_get 23 rfl fl_RX2_15 rfl ⟨by omega, by omega⟩ dX2_put_31 rfl (v := (M 23 1)) (rfl) ?_
          refine wp_iconst dX2_put_34 (by decide) ?_
          refine wp_iadd dX2_put_35 (by omega) ?_
          refine wp_puti 23 rfl fl_RX2_15 rfl ⟨by omega, by omega⟩ dX2_put_36 rfl rfl ?_
          refine wp_iconst dX2_put_39 (by decide) ?_
          refine wp_zret rfl (by omega) dX2_put_40 ?_
          refine wp_if_eq (tgt := 35) dX7_feed_22 (by decide) (fun h => absurd h (by decide)) (fun _ => ?_)
          refine wp_aload_n dX7_feed_25 rfl rfl ?_
          refine wp_get 1 rfl fl_RX7_25 rfl ⟨by omega, by omega⟩ dX7_feed_26 rfl (v := 23) (sr_1_4 (M := M) hR) ?_
          refine wp_get 23 rfl fl_RX7_131 rfl ⟨by omega, by omega⟩ dX7_feed_29 rfl (v := ((M 23 1) + 1)) (rfl) ?_
          refine wp_goto (tgt := 37) dX7_feed_32 (by decide) ?_
          refine wp_iret rfl dX7_feed_37 ?_
          exact k (by omega) (by omega)
        · refine wp_iconst dX2_put_17 (by decide) ?_
          refine wp_zret rfl (by omega) dX2_put_18 ?_
          refine wp_if_eq (tgt := 35) dX7_feed_22 (by decide) (fun _ => ?_) (fun h => absurd h (by decide))
          refine wp_bipush dX7_feed_35 (by decide) (by decide) ?_
          refine wp_iret rfl dX7_feed_37 ?_
          exact kF (by omega) (by omega)
    · refine wp_bipush dX7_feed_11 (by decide) (by decide) ?_
      refine wp_iret rfl dX7_feed_13 ?_
      exact kB (by omega)
