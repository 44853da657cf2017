/-! ===== ahead, chance ===== -/
def ahdA (E : Ev) (A : Ls) (a w : Int) : Int := if w = 0 then lsB E A a else if w = 1 then nerA E A a (lsB E A a) (flA E A).length 0 else whA E A a 5 0 (lsB E A a) (-1)
theorem VI.u : ∀ i j, VI i j → VU i j := fun i j h => Or.inr h
theorem VW.u : ∀ i j, VW i j → VU i j := fun i j h => Or.inl h
set_option maxRecDepth 20000 in
set_option maxHeartbeats 4000000 in
theorem sp_whom {l : Launch} {g : Gw} {d n : Nat} {M : Mm} {Q : Option Wd → Mm → Prop} (hn : 60 ≤ n) (hd : 10 ≤ d) {A : Ls} {E : Ev} {a v0 : Int} (hI : CJ M A) (hE : evC M = E) (hq : SQ0 M) (hb : M 52 5 + 5 < 2000000000) (k : ∀ M', Fr VU M M' → SR M' → SQn M M' 5 → Q (some (0, whA E A a 5 0 v0 (-1))) M') : Wp l g d 0 0 n m_X7_whomToBefriend 0 [] [(2, 1), (0, a), (0, v0), (9, 0), (9, 0), (9, 0), (9, 0)] M Q := by
  have hR := hI.1
  refine wp_iload_n dX7_whomToBefriend_0 rfl rfl ?_
  refine wp_istore_n (loc' := [(2, 1), (0, a), (0, v0), (0, v0), (9, 0), (9, 0), (9, 0)]) dX7_whomToBefriend_1 rfl (Nat.le_of_ble_eq_true rfl) rfl ?_
  refine wp_iconst dX7_whomToBefriend_2 (by decide) ?_
  refine wp_istore (loc' := [(2, 1), (0, a), (0, v0), (0, v0), (0, (-1)), (9, 0), (9, 0)]) dX7_whomToBefriend_3 (Nat.le_of_ble_eq_true rfl) rfl ?_
  refine wp_iconst dX7_whomToBefriend_5 (by decide) ?_
  refine wp_istore (loc' := [(2, 1), (0, a), (0, v0), (0, v0), (0, (-1)), (0, 0), (9, 0)]) dX7_whomToBefriend_6 (Nat.le_of_ble_eq_true rfl) rfl ?_
  exact lp_whom hn hd 5 0 M v0 (-1) _ Q rfl hI hE hq (by omega) k
set_option maxRecDepth 20000 in
set_option maxHeartbeats 4000000 in
theorem cs_ahead {l : Launch} {g : Gw} {d n : Nat} {M : Mm} {Q : Option Wd → Mm → Prop} (hn : 60 ≤ n) (hd : 12 ≤ d) {A : Ls} (hI : CJ M A) (hq : SQ0 M) (hb : M 52 5 + 10 < 2000000000) (a w : Int) (kB : ¬ (0 ≤ a ∧ a < A.1 2 ∧ 0 ≤ w ∧ w ≤ 2) → Q (some (0, -2)) M) (kN : (0 ≤ a ∧ a < A.1 2 ∧ 0 ≤ w ∧ w ≤ 2) → plA A a = -1 → Q (some (0, -1)) M) (k : (0 ≤ a ∧ a < A.1 2 ∧ 0 ≤ w ∧ w ≤ 2) → plA A a ≠ -1 → ∀ M', Fr VU M M' → SR M' → SQn M M' 10 → Q (some (0, ahdA (evC M) A a w)) M') : Wp l g d 0 0 n m_X7_ahead 0 [] [(2, 1), (0, a), (0, w), (9, 0)] M Q := by
  obtain ⟨hR, hX, hA, hW, hr⟩ := id hI
  obtain ⟨a0, a1, a2, a3, ar, al⟩ := id hA
  obtain ⟨w0, w1, w2, w3, w4, w5, w6⟩ := id hW
  have hX1 := hX.1
  have hX2 := hX.2.1
  refine wp_aload_n dX7_ahead_0 rfl rfl ?_
  refine wp_get 1 rfl fl_RX7_10 rfl ⟨by omega, by omega⟩ dX7_ahead_1 rfl (v := 2) (sr_1_0 (M := M) hR) ?_
  refine wp_iload_n dX7_ahead_4 rfl rfl ?_
  refine wp_callV0 (d' := d - 1) cv_RX7_87 2 rfl [(0, a)] [] rfl rfl (Or.inl ⟨_, _, rfl, by decide, rfl, by omega, by omega⟩) (by omega) (Nat.le_of_ble_eq_true rfl) dX7_ahead_5 rfl (Nat.le_of_ble_eq_true rfl) (by omega) (loc1 := [(2, 2), (0, a)]) rfl ?_
  refine sp_has_2 hn a (fun h5 => ?_) (fun h5 => ?_)
  · refine wp_if_eq (tgt := 20) dX7_ahead_8 (by decide) (fun h => absurd h (by decide)) (fun _ => ?_)
    refine wp_iload_n dX7_ahead_11 rfl rfl ?_
    refine wp_if_lt (tgt := 20) dX7_ahead_12 (by decide) (fun h12 => ?_) (fun h12 => ?_)
    · refine wp_bipush dX7_ahead_20 (by decide) (by decide) ?_
      refine wp_iret rfl dX7_ahead_22 ?_
      exact kB (by omega)
    · refine wp_iload_n dX7_ahead_15 rfl rfl ?_
      refine wp_iconst dX7_ahead_16 (by decide) ?_
      refine wp_icmp_le (tgt := 23) dX7_ahead_17 (by decide) (fun h17 => ?_) (fun h17 => ?_)
      · refine wp_aload_n dX7_ahead_23 rfl rfl ?_
        refine wp_get 1 rfl fl_RX7_10 rfl ⟨by omega, by omega⟩ dX7_ahead_24 rfl (v := 2) (sr_1_0 (M := M) hR) ?_
        refine wp_iload_n dX7_ahead_27 rfl rfl ?_
        refine wp_callV0 (d' := d - 1) cv_RX7_115 2 rfl [(0, a)] [] rfl rfl (Or.inl ⟨_, _, rfl, by decide, rfl, by omega, by omega⟩) (by omega) (Nat.le_of_ble_eq_true rfl) dX7_ahead_28 rfl (Nat.le_of_ble_eq_true rfl) (by omega) (loc1 := [(2, 2), (0, a), (9, 0)]) rfl ?_
        refine sp_placeOf_2 hn hR a (by omega) (by omega) ?_
        rw [show fst_ (M 8) a (M 2 3).toNat 0 = plA A a from pl_eq hA a (by omega)]
        refine wp_iconst dX7_ahead_31 (by decide) ?_
        refine wp_icmp_ne (tgt := 37) dX7_ahead_32 (by decide) (fun h32 => ?_) (fun h32 => ?_)
        · refine wp_aload_n dX7_ahead_37 rfl rfl ?_
          refine wp_get 1 rfl fl_RX7_50 rfl ⟨by omega, by omega⟩ dX7_ahead_38 rfl (v := 52) (sr_1_7 (M := M) hR) ?_
          refine wp_aload_n dX7_ahead_41 rfl rfl ?_
          refine wp_get 1 rfl fl_RX7_10 rfl ⟨by omega, by omega⟩ dX7_ahead_42 rfl (v := 2) (sr_1_0 (M := M) hR) ?_
          refine wp_callV0 (d' := d - 1) cv_RX7_166 52 rfl [(2, 2)] [] rfl rfl (Or.inl ⟨_, _, rfl, by decide, rfl, by omega, by omega⟩) (by omega) (Nat.le_of_ble_eq_true rfl) dX7_ahead_45 rfl (Nat.le_of_ble_eq_true rfl) (by omega) (loc1 := [(2, 52), (2, 2), (9, 0)]) rfl ?_
          refine sp_find_2 hn (by omega) hR hX hA hW hr ⟨hq.1, by omega, hq.2⟩ (fun M1 hJ q1 q2 f0 => ?_)
          have hQ1 : SQ1 M M1 1 := ⟨q1, q2⟩
          have hR1 := hJ.sr
          refine wp_aload_n dX7_ahead_48 rfl rfl ?_
          refine wp_get 1 rfl fl_RX7_50 rfl ⟨by omega, by omega⟩ dX7_ahead_49 rfl (v := 52) (sr_1_7 (M := M1) hR1) ?_
          refine wp_iload_n dX7_ahead_52 rfl rfl ?_
          refine wp_callV0 (d' := d - 1) cv_RX7_194 52 rfl [(0, a)] [] rfl rfl (Or.inl ⟨_, _, rfl, by decide, rfl, by omega, by omega⟩) (by omega) (Nat.le_of_ble_eq_true rfl) dX7_ahead_53 rfl (Nat.le_of_ble_eq_true rfl) (by omega) (loc1 := [(2, 52), (0, a), (9, 0), (9, 0)]) rfl ?_
          refine sp_leastPlace_2 hn (by omega) hJ a (fun M2 hJ2 g2 => ?_)
          have hR2 := hJ2.sr
          have f2 : Fr VI M M2 := f0.tr (fr6.i g2)
          have hQ2 := hQ1.fr6 g2
          have hQ2a := hQ2.1
          refine wp_istore_n (loc' := [(2, 1), (0, a), (0, w), (0, (lsB (evC M) A a))]) dX7_ahead_56 rfl (Nat.le_of_ble_eq_true rfl) rfl ?_
          refine wp_iload_n dX7_ahead_57 rfl rfl ?_
          refine wp_if_ne (tgt := 63) dX7_ahead_58 (by decide) (fun h58 => ?_) (fun h58 => ?_)
          · refine wp_iload_n dX7_ahead_63 rfl rfl ?_
            refine wp_iconst dX7_ahead_64 (by decide) ?_
            refine wp_icmp_ne (tgt := 80) dX7_ahead_65 (by decide) (fun h65 => ?_) (fun h65 => ?_)
            · refine wp_aload_n dX7_ahead_80 rfl rfl ?_
              refine wp_iload_n dX7_ahead_81 rfl rfl ?_
              refine wp_iload_n dX7_ahead_82 rfl rfl ?_
              refine wp_callV0 (d' := d - 1) cv_RX7_200 1 rfl [(0, a), (0, (lsB (evC M) A a))] [] rfl rfl (Or.inl ⟨_, _, rfl, by decide, rfl, by omega, by omega⟩) (by omega) (Nat.le_of_ble_eq_true rfl) dX7_ahead_83 rfl (Nat.le_of_ble_eq_true rfl) (by omega) (loc1 := [(2, 1), (0, a), (0, (lsB (evC M) A a)), (9, 0), (9, 0), (9, 0), (9, 0)]) rfl ?_
              have hI2 := hI.fr f2 hR2 VI.c
              have hE2 : evC M2 = evC M := evC_frN (f2.mono VI.n)
              refine sp_whom hn (by omega) hI2 hE2 ⟨by have := hq.1; omega, hQ2.2⟩ (by omega) (fun M3 f3 hR3 hQ3 => ?_)
              refine wp_iret rfl dX7_ahead_86 ?_
              have e : ahdA (evC M) A a w = (whA (evC M) A a 5 0 (lsB (evC M) A a) (-1)) := (if_neg (by omega)).trans (if_neg (by omega))
              rw [e] at k
              exact k (by omega) (by omega) _ ((f2.mono VI.u).tr f3) hR3 ⟨by have := hQ3.1; omega, by have := hQ3.2.1; omega, hQ3.2.2⟩
            · refine wp_aload_n dX7_ahead_68 rfl rfl ?_
              refine wp_get 1 rfl fl_RX7_50 rfl ⟨by omega, by omega⟩ dX7_ahead_69 rfl (v := 52) (sr_1_7 (M := M2) hR2) ?_
              refine wp_iload_n dX7_ahead_72 rfl rfl ?_
              refine wp_iload_n dX7_ahead_73 rfl rfl ?_
              refine wp_callV0 (d' := d - 1) cv_RX7_197 52 rfl [(0, a), (0, (lsB (evC M) A a))] [] rfl rfl (Or.inl ⟨_, _, rfl, by decide, rfl, by omega, by omega⟩) (by omega) (Nat.le_of_ble_eq_true rfl) dX7_ahead_74 rfl (Nat.le_of_ble_eq_true rfl) (by omega) (loc1 := [(2, 52), (0, a), (0, (lsB (evC M) A a)), (9, 0)]) rfl ?_
              refine sp_nearest_2 hn (by omega) hJ2 a (lsB (evC M) A a) (fun M3 hJ3 g3 => ?_)
              have hR3 := hJ3.sr
              have hQ3 := hQ2.fr6 g3
              have hQ3a := hQ3.1
              refine wp_goto (tgt := 86) dX7_ahead_77 (by decide) ?_
              refine wp_iret rfl dX7_ahead_86 ?_
              have e : ahdA (evC M) A a w = (nerA (evC M) A a (lsB (evC M) A a) (flA (evC M) A).length 0) := (if_neg (by omega)).trans (if_pos (by omega))
              rw [e] at k
              exact k (by omega) (by omega) _ ((f2.tr (fr6.i g3)).mono VI.u) hR3 ⟨by omega, by omega, hQ3.2⟩
          · refine wp_iload_n dX7_ahead_61 rfl rfl ?_
            refine wp_iret rfl dX7_ahead_62 ?_
            have e : ahdA (evC M) A a w = (lsB (evC M) A a) := if_pos (by omega)
            rw [e] at k
            exact k (by omega) (by omega) _ (f2.mono VI.u) hR2 ⟨by omega, by omega, hQ2.2⟩
        · refine wp_iconst dX7_ahead_35 (by decide) ?_
          refine wp_iret rfl dX7_ahead_36 ?_
          exact kN (by omega) (by omega)
      · refine wp_bipush dX7_ahead_20 (by decide) (by decide) ?_
        refine wp_iret rfl dX7_ahead_22 ?_
        exact kB (by omega)
  · refine wp_if_eq (tgt := 20) dX7_ahead_8 (by decide) (fun _ => ?_) (fun h => absurd h (by decide))
    refine wp_bipush dX7_ahead_20 (by decide) (by decide) ?_
    refine wp_iret rfl dX7_ahead_22 ?_
    exact kB (by omega)
def cmp' (a b : Int) : Nat → Int
  | 0 => 1
  | m + 1 => if Int.tmod a ((m : Int) + 2) = 0 ∧ Int.tmod b ((m : Int) + 2) = 0 then (m : Int) + 2 else cmp' a b m
theorem cmp_r (a b : Int) : ∀ m : Nat, 1 ≤ cmp' a b m ∧ cmp' a b m ≤ (m : Int) + 1
  | 0 => by unfold cmp'; omega
  | m + 1 => by
    unfold cmp'
    split
    · omega
    · have := cmp_r a b m; omega
set_option maxRecDepth 20000 in
set_option maxHeartbeats 4000000 in
theorem lp_common  {l : Launch} {g : Gw} {d n : Nat} {M : Mm} {Q : Option Wd → Mm → Prop} {a b : Int} : ∀ (m : Nat), m ≤ 100 → Q (some (0, cmp' a b m)) M → Wp l g d 0 0 n m_X7_commonPart 2 [] [(0, a), (0, b), (0, (m : Int) + 1)] M Q := by
  intro m
  induction m with
  | zero =>
    intro h1 k
    refine wp_iload_n dX7_commonPart_2 rfl rfl ?_
    refine wp_iconst dX7_commonPart_3 (by decide) ?_
    refine wp_icmp_le (tgt := 27) dX7_commonPart_4 (by decide) (fun _ => ?_) (fun h => absurd h (by omega))
    refine wp_iconst dX7_commonPart_27 (by decide) ?_
    refine wp_iret rfl dX7_commonPart_28 ?_
    exact k
  | succ m ih =>
    intro h1 k
    refine wp_iload_n dX7_commonPart_2 rfl rfl ?_
    refine wp_iconst dX7_commonPart_3 (by decide) ?_
    refine wp_icmp_le (tgt := 27) dX7_commonPart_4 (by decide) (fun h => absurd h (by omega)) (fun _ => ?_)
    refine wp_iload_n dX7_commonPart_7 rfl rfl ?_
    refine wp_iload_n dX7_commonPart_8 rfl rfl ?_
    refine wp_irem dX7_commonPart_9 (by omega) ?_
    refine wp_if_ne (tgt := 21) dX7_commonPart_10 (by decide) (fun h10 => ?_) (fun h10 => ?_)
    · refine wp_iinc (loc' := [(0, a), (0, b), (0, ((((m + 1 : Nat) : Int) + 1) + (-1)))]) dX7_commonPart_21 rfl (by omega) rfl ?_
      refine wp_goto (tgt := 2) dX7_commonPart_24 (by decide) ?_
      have e : cmp' a b (m + 1) = cmp' a b m := if_neg (fun z => by rw [show (m : Int) + 2 = (((m + 1 : Nat) : Int) + 1) by omega] at z; first | exact h16 z.2 | exact h10 z.1)
      rw [e] at k
      rw [show (((m + 1 : Nat) : Int) + 1) + (-1) = (m : Int) + 1 by omega]
      exact ih (by omega) k
    · refine wp_iload_n dX7_commonPart_13 rfl rfl ?_
      refine wp_iload_n dX7_commonPart_14 rfl rfl ?_
      refine wp_irem dX7_commonPart_15 (by omega) ?_
      refine wp_if_ne (tgt := 21) dX7_commonPart_16 (by decide) (fun h16 => ?_) (fun h16 => ?_)
      · refine wp_iinc (loc' := [(0, a), (0, b), (0, ((((m + 1 : Nat) : Int) + 1) + (-1)))]) dX7_commonPart_21 rfl (by omega) rfl ?_
        refine wp_goto (tgt := 2) dX7_commonPart_24 (by decide) ?_
        have e : cmp' a b (m + 1) = cmp' a b m := if_neg (fun z => by rw [show (m : Int) + 2 = (((m + 1 : Nat) : Int) + 1) by omega] at z; first | exact h16 z.2 | exact h10 z.1)
        rw [e] at k
        rw [show (((m + 1 : Nat) : Int) + 1) + (-1) = (m : Int) + 1 by omega]
        exact ih (by omega) k
      · refine wp_iload_n dX7_commonPart_19 rfl rfl ?_
        refine wp_iret rfl dX7_commonPart_20 ?_
        have e : cmp' a b (m + 1) = (m : Int) + 2 := if_pos ⟨by rw [show (m : Int) + 2 = (((m + 1 : Nat) : Int) + 1) by omega]; exact h10, by rw [show (m : Int) + 2 = (((m + 1 : Nat) : Int) + 1) by omega]; exact h16⟩
        rw [e] at k
        rw [show (((m + 1 : Nat) : Int) + 1) = (m : Int) + 2 by omega]
        exact k
