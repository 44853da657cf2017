/-! ===== orders, fewest, ahead ===== -/
theorem keep_len (l : List (Od × Int)) (y : Od) (w : Int) : l.length ≤ (keepA l y w).length := by
  unfold keepA
  split
  · omega
  · rw [List.length_append]; omega
theorem spA_len {cn : Od → Nat → Bool} {x : Od} {w : Int} : ∀ (m p : Nat) (S : St), S.1.length ≤ (spA cn x w m p S).1.length
  | 0, _, S => Nat.le_refl _
  | m + 1, p, S => by
    unfold spA
    split
    · exact Nat.le_trans (keep_len S.1 (swp x p) (w + 1)) (spA_len m (p + 1) (keepA S.1 (swp x p) (w + 1), bor S.2 (shl 1 (at0 x (p - 1)))))
    · exact spA_len m (p + 1) S
theorem bfA_len {cn : Od → Nat → Bool} {N : Nat} : ∀ (m i : Nat) (S : St), S.1.length ≤ (bfA cn N m i S).1.length
  | 0, _, S => Nat.le_refl _
  | m + 1, i, S => by
    unfold bfA
    split
    · exact Nat.le_trans (spA_len _ _ _) (bfA_len m (i + 1) _)
    · omega
theorem fl_pos (E : Ev) (A : Ls) : 0 < (flA E A).length := Nat.lt_of_lt_of_le (show 0 < ([(lnA A, (0 : Int))] : List (Od × Int)).length from Nat.zero_lt_one) (bfA_len 121 0 ([(lnA A, 0)], 0))
abbrev bsA (E : Ev) (A : Ls) : Nat := bstA E A ((flA E A).length - 1) 1 0
theorem bs_lt (E : Ev) (A : Ls) : bsA E A < (flA E A).length := by
  have := fl_pos E A
  exact best_lt _ _ _ (by omega) this
def ordA (E : Ev) (A : Ls) (w : Int) : Int := if w = 0 then ((flA E A).length : Int) else if w = 1 then wA E A 0 else if w = 2 then dgA E A (bsA E A) else if w = 3 then wA E A (bsA E A) else if w = 4 then awA E A (bsA E A) else if w = 5 then bnd (wlA A (lnA A).length) (bxr (findA (cnA E A) (lnA A)).2 (-1)) else rgO E A (lnA A).length (lnA A).length 0 0
/-- one search more -/
def SQ1 (M M' : Mm) (k : Int) : Prop := M' 52 5 = M 52 5 + k ∧ ∀ c : Nat, c < 3125 → M' 55 c ≤ M' 52 5
theorem SQ1.fr6 {M M1 M2 : Mm} {k : Int} (h : SQ1 M M1 k) (f : Fr (fun i _ => i = 56) M1 M2) : SQ1 M M2 k := by
  have e : ∀ i j, ¬ i = 56 → M2 i j = M1 i j := f
  unfold SQ1
  rw [e 52 5 (by decide)]
  refine ⟨h.1, fun c hc => ?_⟩
  rw [e 55 c (by decide)]
  exact h.2 c hc
theorem fr6.i {M M' : Mm} (f : Fr (fun i _ => i = 56) M M') : Fr VI M M' := f.mono (fun i j h => Or.inr (Or.inr (by have : i = 56 := h; omega)))
theorem FJ.sr {L : Nat} {M : Mm} {A : Ls} {E : Ev} (h : FJ L M A E) : SR M := h.1.1
set_option maxRecDepth 20000 in
set_option maxHeartbeats 4000000 in
theorem cs_orders {l : Launch} {g : Gw} {d n : Nat} {M : Mm} {Q : Option Wd → Mm → Prop} (hn : 60 ≤ n) (hd : 12 ≤ d) {A : Ls} (hI : CJ M A) (hq : SQ M) (w : Int) (kB : ¬ (0 ≤ w ∧ w ≤ 6) → Q (some (0, -2)) M) (k : (0 ≤ w ∧ w ≤ 6) → ∀ M', Fr VI M M' → SR M' → SQ1 M M' 1 → Q (some (0, ordA (evC M) A w)) M') : Wp l g d 0 0 n m_X7_orders 0 [] [(2, 1), (0, w)] M Q := by
  obtain ⟨hR, hX, hA, hW, hr⟩ := id hI
  obtain ⟨a0, a1, a2, a3, ar, al⟩ := id hA
  obtain ⟨w0, w1, w2, w3, w4, w5, w6⟩ := id hW
  have hX1 := hX.1
  have hX2 := hX.2.1
  refine wp_iload_n dX7_orders_0 rfl rfl ?_
  refine wp_if_lt (tgt := 10) dX7_orders_1 (by decide) (fun h1 => ?_) (fun h1 => ?_)
  · refine wp_bipush dX7_orders_10 (by decide) (by decide) ?_
    refine wp_iret rfl dX7_orders_12 ?_
    exact kB (by omega)
  · refine wp_iload_n dX7_orders_4 rfl rfl ?_
    refine wp_bipush dX7_orders_5 (by decide) (by decide) ?_
    refine wp_icmp_le (tgt := 13) dX7_orders_7 (by decide) (fun h7 => ?_) (fun h7 => ?_)
    · refine wp_aload_n dX7_orders_13 rfl rfl ?_
      refine wp_get 1 rfl fl_RX7_50 rfl ⟨by omega, by omega⟩ dX7_orders_14 rfl (v := 52) (sr_1_7 (M := M) hR) ?_
      refine wp_aload_n dX7_orders_17 rfl rfl ?_
      refine wp_get 1 rfl fl_RX7_10 rfl ⟨by omega, by omega⟩ dX7_orders_18 rfl (v := 2) (sr_1_0 (M := M) hR) ?_
      refine wp_callV0 (d' := d - 1) cv_RX7_166 52 rfl [(2, 2)] [] rfl rfl (Or.inl ⟨_, _, rfl, by decide, rfl, by omega, by omega⟩) (by omega) (Nat.le_of_ble_eq_true rfl) dX7_orders_21 rfl (Nat.le_of_ble_eq_true rfl) (by omega) (loc1 := [(2, 52), (2, 2), (9, 0)]) rfl ?_
      refine sp_find_2 hn (by omega) hR hX hA hW hr hq (fun M1 hJ q1 q2 f0 => ?_)
      have hQ1 : SQ1 M M1 1 := ⟨q1, q2⟩
      have hR1 := hJ.sr
      have h3f : M1 52 3 = ((flA (evC M) A).length : Int) := hJ.2.1.1.1
      have hpos := fl_pos (evC M) A
      have hbs := bs_lt (evC M) A
      refine wp_iload_n dX7_orders_24 rfl rfl ?_
      by_cases h25_0 : w = 0
      · refine wp_tabIn dX7_orders_25 0 (by omega) (by decide) rfl (tgt := 64) (by decide) ?_
        refine wp_aload_n dX7_orders_64 rfl rfl ?_
        refine wp_get 1 rfl fl_RX7_50 rfl ⟨by omega, by omega⟩ dX7_orders_65 rfl (v := 52) (sr_1_7 (M := M1) hR1) ?_
        refine wp_get 52 rfl fl_RX7_170 rfl ⟨by omega, by omega⟩ dX7_orders_68 rfl (v := ((flA (evC M) A).length : Int)) (h3f) ?_
        refine wp_iret rfl dX7_orders_71 ?_
        have e : ordA (evC M) A w = ((flA (evC M) A).length : Int) := if_pos (by omega)
        rw [e] at k
        exact k (by omega) _ (f0) hJ.sr (hQ1)
      by_cases h25_1 : w = 1
      · refine wp_tabIn dX7_orders_25 1 (by omega) (by decide) rfl (tgt := 72) (by decide) ?_
        refine wp_aload_n dX7_orders_72 rfl rfl ?_
        refine wp_get 1 rfl fl_RX7_50 rfl ⟨by omega, by omega⟩ dX7_orders_73 rfl (v := 52) (sr_1_7 (M := M1) hR1) ?_
        refine wp_iconst dX7_orders_76 (by decide) ?_
        refine wp_callV0 (d' := d - 1) cv_RX7_173 52 rfl [(0, 0)] [] rfl rfl (Or.inl ⟨_, _, rfl, by decide, rfl, by omega, by omega⟩) (by omega) (Nat.le_of_ble_eq_true rfl) dX7_orders_77 rfl (Nat.le_of_ble_eq_true rfl) (by omega) (loc1 := [(2, 52), (0, 0), (9, 0), (9, 0), (9, 0), (9, 0)]) rfl ?_
        refine sp_waitAt_2 hn (by omega) hJ (i := 0) (by omega) (fun M2 hJ2 g2 => ?_)
        have hR2 := hJ2.sr
        refine wp_iret rfl dX7_orders_80 ?_
        have e : ordA (evC M) A w = (wA (evC M) A 0) := (if_neg (by omega)).trans (if_pos (by omega))
        rw [e] at k
        exact k (by omega) _ (f0.tr (fr6.i g2)) hJ2.sr (hQ1.fr6 g2)
      by_cases h25_2 : w = 2
      · refine wp_tabIn dX7_orders_25 2 (by omega) (by decide) rfl (tgt := 81) (by decide) ?_
        refine wp_aload_n dX7_orders_81 rfl rfl ?_
        refine wp_get 1 rfl fl_RX7_50 rfl ⟨by omega, by omega⟩ dX7_orders_82 rfl (v := 52) (sr_1_7 (M := M1) hR1) ?_
        refine wp_aload_n dX7_orders_85 rfl rfl ?_
        refine wp_get 1 rfl fl_RX7_50 rfl ⟨by omega, by omega⟩ dX7_orders_86 rfl (v := 52) (sr_1_7 (M := M1) hR1) ?_
        refine wp_callV0 (d' := d - 1) cv_RX7_176 52 rfl [] [(2, 52)] rfl rfl (Or.inl ⟨_, _, rfl, by decide, rfl, by omega, by omega⟩) (by omega) (Nat.le_of_ble_eq_true rfl) dX7_orders_89 rfl (Nat.le_of_ble_eq_true rfl) (by omega) (loc1 := [(2, 52), (9, 0), (9, 0), (9, 0), (9, 0), (9, 0)]) rfl ?_
        refine sp_best_2 hn (by omega) hJ hpos (fun M2 hJ2 g2 => ?_)
        have hR2 := hJ2.sr
        refine wp_callV0 (d' := d - 1) cv_RX7_179 52 rfl [(0, (bsA (evC M) A : Int))] [] rfl rfl (Or.inl ⟨_, _, rfl, by decide, rfl, by omega, by omega⟩) (by omega) (Nat.le_of_ble_eq_true rfl) dX7_orders_92 rfl (Nat.le_of_ble_eq_true rfl) (by omega) (loc1 := [(2, 52), (0, (bsA (evC M) A : Int)), (9, 0), (9, 0)]) rfl ?_
        refine sp_digitsAt_2 hn (by omega) hJ2 (i := (bsA (evC M) A)) (by omega) (fun M3 hJ3 g3 => ?_)
        have hR3 := hJ3.sr
        refine wp_iret rfl dX7_orders_95 ?_
        have e : ordA (evC M) A w = (dgA (evC M) A (bsA (evC M) A)) := (if_neg (by omega)).trans ((if_neg (by omega)).trans (if_pos (by omega)))
        rw [e] at k
        exact k (by omega) _ ((f0.tr (fr6.i g2)).tr (fr6.i g3)) hJ3.sr ((hQ1.fr6 g2).fr6 g3)
      by_cases h25_3 : w = 3
      · refine wp_tabIn dX7_orders_25 3 (by omega) (by decide) rfl (tgt := 96) (by decide) ?_
        refine wp_aload_n dX7_orders_96 rfl rfl ?_
        refine wp_get 1 rfl fl_RX7_50 rfl ⟨by omega, by omega⟩ dX7_orders_97 rfl (v := 52) (sr_1_7 (M := M1) hR1) ?_
        refine wp_aload_n dX7_orders_100 rfl rfl ?_
        refine wp_get 1 rfl fl_RX7_50 rfl ⟨by omega, by omega⟩ dX7_orders_101 rfl (v := 52) (sr_1_7 (M := M1) hR1) ?_
        refine wp_callV0 (d' := d - 1) cv_RX7_176 52 rfl [] [(2, 52)] rfl rfl (Or.inl ⟨_, _, rfl, by decide, rfl, by omega, by omega⟩) (by omega) (Nat.le_of_ble_eq_true rfl) dX7_orders_104 rfl (Nat.le_of_ble_eq_true rfl) (by omega) (loc1 := [(2, 52), (9, 0), (9, 0), (9, 0), (9, 0), (9, 0)]) rfl ?_
        refine sp_best_2 hn (by omega) hJ hpos (fun M2 hJ2 g2 => ?_)
        have hR2 := hJ2.sr
        refine wp_callV0 (d' := d - 1) cv_RX7_173 52 rfl [(0, (bsA (evC M) A : Int))] [] rfl rfl (Or.inl ⟨_, _, rfl, by decide, rfl, by omega, by omega⟩) (by omega) (Nat.le_of_ble_eq_true rfl) dX7_orders_107 rfl (Nat.le_of_ble_eq_true rfl) (by omega) (loc1 := [(2, 52), (0, (bsA (evC M) A : Int)), (9, 0), (9, 0), (9, 0), (9, 0)]) rfl ?_
        refine sp_waitAt_2 hn (by omega) hJ2 (i := (bsA (evC M) A)) (by omega) (fun M3 hJ3 g3 => ?_)
        have hR3 := hJ3.sr
        refine wp_iret rfl dX7_orders_110 ?_
        have e : ordA (evC M) A w = (wA (evC M) A (bsA (evC M) A)) := (if_neg (by omega)).trans ((if_neg (by omega)).trans ((if_neg (by omega)).trans (if_pos (by omega))))
        rw [e] at k
        exact k (by omega) _ ((f0.tr (fr6.i g2)).tr (fr6.i g3)) hJ3.sr ((hQ1.fr6 g2).fr6 g3)
      by_cases h25_4 : w = 4
      · refine wp_tabIn dX7_orders_25 4 (by omega) (by decide) rfl (tgt := 111) (by decide) ?_
        refine wp_aload_n dX7_orders_111 rfl rfl ?_
        refine wp_get 1 rfl fl_RX7_50 rfl ⟨by omega, by omega⟩ dX7_orders_112 rfl (v := 52) (sr_1_7 (M := M1) hR1) ?_
        refine wp_aload_n dX7_orders_115 rfl rfl ?_
        refine wp_get 1 rfl fl_RX7_50 rfl ⟨by omega, by omega⟩ dX7_orders_116 rfl (v := 52) (sr_1_7 (M := M1) hR1) ?_
        refine wp_callV0 (d' := d - 1) cv_RX7_176 52 rfl [] [(2, 52)] rfl rfl (Or.inl ⟨_, _, rfl, by decide, rfl, by omega, by omega⟩) (by omega) (Nat.le_of_ble_eq_true rfl) dX7_orders_119 rfl (Nat.le_of_ble_eq_true rfl) (by omega) (loc1 := [(2, 52), (9, 0), (9, 0), (9, 0), (9, 0), (9, 0)]) rfl ?_
        refine sp_best_2 hn (by omega) hJ hpos (fun M2 hJ2 g2 => ?_)
        have hR2 := hJ2.sr
        refine wp_callV0 (d' := d - 1) cv_RX7_182 52 rfl [(0, (bsA (evC M) A : Int))] [] rfl rfl (Or.inl ⟨_, _, rfl, by decide, rfl, by omega, by omega⟩) (by omega) (Nat.le_of_ble_eq_true rfl) dX7_orders_122 rfl (Nat.le_of_ble_eq_true rfl) (by omega) (loc1 := [(2, 52), (0, (bsA (evC M) A : Int))]) rfl ?_
        refine sp_passingsAt hn hR2 hJ2.2.1.1 (hJ2.2.1.2.2.2.le hJ2.1.2.2.2.2.2.1) (i := bsA (evC M) A) hbs ?_
        refine wp_iret rfl dX7_orders_125 ?_
        have e : ordA (evC M) A w = (awA (evC M) A (bsA (evC M) A)) := (if_neg (by omega)).trans ((if_neg (by omega)).trans ((if_neg (by omega)).trans ((if_neg (by omega)).trans (if_pos (by omega)))))
        rw [e] at k
        exact k (by omega) _ (f0.tr (fr6.i g2)) hJ2.sr (hQ1.fr6 g2)
      by_cases h25_5 : w = 5
      · refine wp_tabIn dX7_orders_25 5 (by omega) (by decide) rfl (tgt := 126) (by decide) ?_
        refine wp_aload_n dX7_orders_126 rfl rfl ?_
        refine wp_get 1 rfl fl_RX7_50 rfl ⟨by omega, by omega⟩ dX7_orders_127 rfl (v := 52) (sr_1_7 (M := M1) hR1) ?_
        refine wp_callV0 (d' := d - 1) cv_RX7_185 52 rfl [] [] rfl rfl (Or.inl ⟨_, _, rfl, by decide, rfl, by omega, by omega⟩) (by omega) (Nat.le_of_ble_eq_true rfl) dX7_orders_130 rfl (Nat.le_of_ble_eq_true rfl) (by omega) (loc1 := [(2, 52), (9, 0), (9, 0), (9, 0)]) rfl ?_
        refine sp_walls_2 hn (by omega) hJ ?_
        refine wp_iret rfl dX7_orders_133 ?_
        have e : ordA (evC M) A w = bnd (wlA A (lnA A).length) (bxr (findA (cnA (evC M) A) (lnA A)).2 (-1)) := (if_neg (by omega)).trans ((if_neg (by omega)).trans ((if_neg (by omega)).trans ((if_neg (by omega)).trans ((if_neg (by omega)).trans (if_pos (by omega))))))
        rw [e] at k
        exact k (by omega) _ (f0) hJ.sr (hQ1)
      refine wp_tabOut dX7_orders_25 (by omega) (tgt := 134) (by decide) ?_
      refine wp_aload_n dX7_orders_134 rfl rfl ?_
      refine wp_get 1 rfl fl_RX7_50 rfl ⟨by omega, by omega⟩ dX7_orders_135 rfl (v := 52) (sr_1_7 (M := M1) hR1) ?_
      refine wp_callV0 (d' := d - 1) cv_RX7_188 52 rfl [] [] rfl rfl (Or.inl ⟨_, _, rfl, by decide, rfl, by omega, by omega⟩) (by omega) (Nat.le_of_ble_eq_true rfl) dX7_orders_138 rfl (Nat.le_of_ble_eq_true rfl) (by omega) (loc1 := [(2, 52), (9, 0), (9, 0), (9, 0)]) rfl ?_
      refine sp_rings_2 hn (by omega) hJ ?_
      refine wp_iret rfl dX7_orders_141 ?_
      have e : ordA (evC M) A w = rgO (evC M) A (lnA A).length (lnA A).length 0 0 := (if_neg (by omega)).trans ((if_neg (by omega)).trans ((if_neg (by omega)).trans ((if_neg (by omega)).trans ((if_neg (by omega)).trans (if_neg (by omega))))))
      rw [e] at k
      exact k (by omega) _ (f0) hJ.sr (hQ1)
    · refine wp_bipush dX7_orders_10 (by decide) (by decide) ?_
      refine wp_iret rfl dX7_orders_12 ?_
      exact kB (by omega)
set_option maxRecDepth 20000 in
set_option maxHeartbeats 4000000 in
theorem cs_fewest {l : Launch} {g : Gw} {d n : Nat} {M : Mm} {Q : Option Wd → Mm → Prop} (hn : 60 ≤ n) (hd : 12 ≤ d) {A : Ls} (hI : CJ M A) (hq : SQ M) (x : Int) (kB : x < 0 → Q (some (0, -2)) M) (k : 0 ≤ x → ∀ M', Fr VI M M' → SR M' → SQ1 M M' 1 → Q (some (0, fwA (evC M) A x (flA (evC M) A).length 0)) M') : Wp l g d 0 0 n m_X7_fewest 0 [] [(2, 1), (0, x)] M Q := by
  obtain ⟨hR, hX, hA, hW, hr⟩ := id hI
  obtain ⟨a0, a1, a2, a3, ar, al⟩ := id hA
  obtain ⟨w0, w1, w2, w3, w4, w5, w6⟩ := id hW
  have hX1 := hX.1
  have hX2 := hX.2.1
  refine wp_iload_n dX7_fewest_0 rfl rfl ?_
  refine wp_if_ge (tgt := 7) dX7_fewest_1 (by decide) (fun h1 => ?_) (fun h1 => ?_)
  · refine wp_aload_n dX7_fewest_7 rfl rfl ?_
    refine wp_get 1 rfl fl_RX7_50 rfl ⟨by omega, by omega⟩ dX7_fewest_8 rfl (v := 52) (sr_1_7 (M := M) hR) ?_
    refine wp_aload_n dX7_fewest_11 rfl rfl ?_
    refine wp_get 1 rfl fl_RX7_10 rfl ⟨by omega, by omega⟩ dX7_fewest_12 rfl (v := 2) (sr_1_0 (M := M) hR) ?_
    refine wp_callV0 (d' := d - 1) cv_RX7_166 52 rfl [(2, 2)] [] rfl rfl (Or.inl ⟨_, _, rfl, by decide, rfl, by omega, by omega⟩) (by omega) (Nat.le_of_ble_eq_true rfl) dX7_fewest_15 rfl (Nat.le_of_ble_eq_true rfl) (by omega) (loc1 := [(2, 52), (2, 2), (9, 0)]) rfl ?_
    refine sp_find_2 hn (by omega) hR hX hA hW hr hq (fun M1 hJ q1 q2 f0 => ?_)
    have hQ1 : SQ1 M M1 1 := ⟨q1, q2⟩
    have hR1 := hJ.sr
    have h3f : M1 52 3 = ((flA (evC M) A).length : Int) := hJ.2.1.1.1
    have hpos := fl_pos (evC M) A
    have hbs := bs_lt (evC M) A
    refine wp_aload_n dX7_fewest_18 rfl rfl ?_
    refine wp_get 1 rfl fl_RX7_50 rfl ⟨by omega, by omega⟩ dX7_fewest_19 rfl (v := 52) (sr_1_7 (M := M1) hR1) ?_
    refine wp_iload_n dX7_fewest_22 rfl rfl ?_
    refine wp_callV0 (d' := d - 1) cv_RX7_191 52 rfl [(0, x)] [] rfl rfl (Or.inl ⟨_, _, rfl, by decide, rfl, by omega, by omega⟩) (by omega) (Nat.le_of_ble_eq_true rfl) dX7_fewest_23 rfl (Nat.le_of_ble_eq_true rfl) (by omega) (loc1 := [(2, 52), (0, x), (9, 0)]) rfl ?_
    refine sp_passingsTo_2 hn (by omega) hJ x (fun M2 hJ2 g2 => ?_)
    have hR2 := hJ2.sr
    refine wp_iret rfl dX7_fewest_26 ?_
    exact k (by omega) _ (f0.tr (fr6.i g2)) hJ2.sr (hQ1.fr6 g2)
  · refine wp_bipush dX7_fewest_4 (by decide) (by decide) ?_
    refine wp_iret rfl dX7_fewest_6 ?_
    exact kB (by omega)
