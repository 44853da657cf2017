/-! ===== chance ===== -/
def chA (E : Ev) (A : Ls) (s a : Int) : Nat → Nat → Int → Int
  | 0, _, c => c
  | m + 1, p, c => chA E A s a m (p + 1) (if lsB E (drwA A (wrap (s + (p : Int)))) a = 0 then c + 1 else c)
theorem chA_r (E : Ev) (A : Ls) (s a : Int) : ∀ (m p : Nat) (c : Int), c ≤ chA E A s a m p c ∧ chA E A s a m p c ≤ c + m
  | 0, _, c => by unfold chA; omega
  | m + 1, p, c => by
    unfold chA
    split
    · have := chA_r E A s a m (p + 1) (c + 1); omega
    · have := chA_r E A s a m (p + 1) c; omega
def rsC (g m pt : Int) : Int := Int.tdiv (if pt = 0 then g else m) (cmp' g m (m.toNat - 1))
set_option maxRecDepth 20000 in
set_option maxHeartbeats 4000000 in
theorem lp_chance  {l : Launch} {g : Gw} {d n : Nat} (hn : 60 ≤ n) (hd : 10 ≤ d) {A : Ls} {E : Ev} {s a pt : Int} {N : Nat} (hN : N ≤ 10) : ∀ (m p : Nat) (M : Mm) (c : Int) (u : Wd) (Q : Option Wd → Mm → Prop), p + m = N → CJ M A → evC M = E → SQ0 M → M 52 5 + m < 2000000000 → (0 ≤ c ∧ c ≤ p) → (∀ M' u', Fr VU M M' → SR M' → SQn M M' m → CJ M' A → Wp l g d 0 0 n m_X7_chance 102 [] [(2, 1), (0, s), (0, (N : Int)), (0, a), (0, pt), (0, chA E A s a m p c), (0, (N : Int)), u'] M' Q) → Wp l g d 0 0 n m_X7_chance 43 [] [(2, 1), (0, s), (0, (N : Int)), (0, a), (0, pt), (0, c), (0, (p : Int)), u] M Q := by
  intro m
  induction m with
  | zero =>
    intro p M c u Q hp hI hE hq hb hc k
    have hR := hI.1
    refine wp_iload dX7_chance_43 rfl ?_
    refine wp_iload_n dX7_chance_45 rfl rfl ?_
    refine wp_icmp_ge (tgt := 102) dX7_chance_46 (by decide) (fun _ => ?_) (fun h => absurd h (by omega))
    have hpN : p = N := by omega
    subst hpN
    exact k M _ Fr.rf hR ⟨by omega, by omega, hq.2⟩ hI
  | succ m ih =>
    intro p M c u Q hp hI hE hq hb hc k
    have hR := hI.1
    refine wp_iload dX7_chance_43 rfl ?_
    refine wp_iload_n dX7_chance_45 rfl rfl ?_
    refine wp_icmp_ge (tgt := 102) dX7_chance_46 (by decide) (fun h => absurd h (by omega)) (fun _ => ?_)
    refine wp_aload_n dX7_chance_49 rfl rfl ?_
    refine wp_get 1 rfl fl_RX7_19 rfl ⟨by omega, by omega⟩ dX7_chance_50 rfl (v := 16) (sr_1_2 (M := M) hR) ?_
    refine wp_aload_n dX7_chance_53 rfl rfl ?_
    refine wp_get 1 rfl fl_RX7_10 rfl ⟨by omega, by omega⟩ dX7_chance_54 rfl (v := 2) (sr_1_0 (M := M) hR) ?_
    refine wp_callV0 (d' := d - 1) cv_RX7_203 16 rfl [(2, 2)] [] rfl rfl (Or.inl ⟨_, _, rfl, by decide, rfl, by omega, by omega⟩) (by omega) (Nat.le_of_ble_eq_true rfl) dX7_chance_57 rfl (Nat.le_of_ble_eq_true rfl) (by omega) (loc1 := [(2, 16), (2, 2), (9, 0)]) rfl ?_
    refine sp_become_16_2 hn hR ?_
    have hT := TJ.bec hI
    rw [hE] at hT
    have hRb := hT.1
    have hFb := (becF_16_2 M).mono VW.b
    refine wp_aload_n dX7_chance_60 rfl rfl ?_
    refine wp_get 1 rfl fl_RX7_19 rfl ⟨by omega, by omega⟩ dX7_chance_61 rfl (v := 16) (sr_1_2 (M := (becM_16_2 M)) hRb) ?_
    refine wp_iload_n dX7_chance_64 rfl rfl ?_
    refine wp_iload dX7_chance_65 rfl ?_
    refine wp_iaddw dX7_chance_67 ?_
    refine wp_callV0 (d' := d - 1) cv_RX7_252 16 rfl [(0, (wrap (s + (p : Int))))] [] rfl rfl (Or.inl ⟨_, _, rfl, by decide, rfl, by omega, by omega⟩) (by omega) (Nat.le_of_ble_eq_true rfl) dX7_chance_68 rfl (Nat.le_of_ble_eq_true rfl) (by omega) (loc1 := [(2, 16), (0, (wrap (s + (p : Int)))), (9, 0), (9, 0), (9, 0)]) rfl ?_
    refine sp_draw hn hT (wrap (s + (p : Int))) (fun M1 hT1 f1 => ?_)
    have hR1 := hT1.1
    have f1w := hFb.tr f1
    have hq1 : SQ M1 := SQ.fr ⟨hq.1, by omega, hq.2⟩ f1w
    refine wp_aload_n dX7_chance_71 rfl rfl ?_
    refine wp_get 1 rfl fl_RX7_50 rfl ⟨by omega, by omega⟩ dX7_chance_72 rfl (v := 52) (sr_1_7 (M := M1) hR1) ?_
    refine wp_aload_n dX7_chance_75 rfl rfl ?_
    refine wp_get 1 rfl fl_RX7_19 rfl ⟨by omega, by omega⟩ dX7_chance_76 rfl (v := 16) (sr_1_2 (M := M1) hR1) ?_
    refine wp_callV0 (d' := d - 1) cv_RX7_166 52 rfl [(2, 16)] [] rfl rfl (Or.inl ⟨_, _, rfl, by decide, rfl, by omega, by omega⟩) (by omega) (Nat.le_of_ble_eq_true rfl) dX7_chance_79 rfl (Nat.le_of_ble_eq_true rfl) (by omega) (loc1 := [(2, 52), (2, 16), (9, 0)]) rfl ?_
    refine sp_findT hn (by omega) hT1 hq1 (fun M2 hJ hQ2 f2 => ?_)
    have hR2 := hJ.sr
    have e52 : M1 52 5 = M 52 5 := f1w 52 5 (by unfold VW VX; omega)
    refine wp_aload_n dX7_chance_82 rfl rfl ?_
    refine wp_get 1 rfl fl_RX7_50 rfl ⟨by omega, by omega⟩ dX7_chance_83 rfl (v := 52) (sr_1_7 (M := M2) hR2) ?_
    refine wp_iload_n dX7_chance_86 rfl rfl ?_
    refine wp_callV0 (d' := d - 1) cv_RX7_194 52 rfl [(0, a)] [] rfl rfl (Or.inl ⟨_, _, rfl, by decide, rfl, by omega, by omega⟩) (by omega) (Nat.le_of_ble_eq_true rfl) dX7_chance_87 rfl (Nat.le_of_ble_eq_true rfl) (by omega) (loc1 := [(2, 52), (0, a), (9, 0), (9, 0)]) rfl ?_
    refine sp_leastPlace_16 hn (by omega) hJ a (fun M3 hJ3 g3 => ?_)
    have hR3 := hJ3.sr
    have f3 : Fr VU M M3 := (f1w.mono (fun i j h => Or.inl h)).tr ((f2.tr (fr6.i g3)).mono (fun i j h => Or.inr h))
    have q3 := hQ2.fr6 g3
    rw [SQ1, e52] at q3
    have hI3 := hI.fr f3 hR3 VU.c
    have hE3 : evC M3 = E := (evC_frN (f3.mono (fun i j h => (VU.c i j h).1))).trans hE
    have hq3 : SQ0 M3 := ⟨by have := hq.1; omega, q3.2⟩
    refine wp_if_ne (tgt := 96) dX7_chance_90 (by decide) (fun h90 => ?_) (fun h90 => ?_)
    · refine wp_iinc (loc' := [(2, 1), (0, s), (0, (N : Int)), (0, a), (0, pt), (0, c), (0, ((p : Int) + 1)), u]) dX7_chance_96 rfl (by omega) rfl ?_
      refine wp_goto (tgt := 43) dX7_chance_99 (by decide) ?_
      have e : chA E A s a (m + 1) p c = chA E A s a m (p + 1) c := by
        show chA E A s a m (p + 1) (if _ then _ else _) = _
        rw [if_neg (by omega)]
      rw [e] at k
      exact ih (p + 1) M3 _ _ Q (by omega) hI3 hE3 hq3 (by have := q3.1; omega) (by omega) (fun M4 u4 b1 b2 b3 b4 => k M4 u4 (f3.tr b1) b2 ⟨by have := b3.1; have := q3.1; omega, by have := b3.2.1; have := q3.1; omega, b3.2.2⟩ b4)
    · refine wp_iinc (loc' := [(2, 1), (0, s), (0, (N : Int)), (0, a), (0, pt), (0, (c + 1)), (0, (p : Int)), u]) dX7_chance_93 rfl (by omega) rfl ?_
      refine wp_iinc (loc' := [(2, 1), (0, s), (0, (N : Int)), (0, a), (0, pt), (0, (c + 1)), (0, ((p : Int) + 1)), u]) dX7_chance_96 rfl (by omega) rfl ?_
      refine wp_goto (tgt := 43) dX7_chance_99 (by decide) ?_
      have e : chA E A s a (m + 1) p c = chA E A s a m (p + 1) (c + 1) := by
        show chA E A s a m (p + 1) (if _ then _ else _) = _
        rw [if_pos (by omega)]
      rw [e] at k
      exact ih (p + 1) M3 _ _ Q (by omega) hI3 hE3 hq3 (by have := q3.1; omega) (by omega) (fun M4 u4 b1 b2 b3 b4 => k M4 u4 (f3.tr b1) b2 ⟨by have := b3.1; have := q3.1; omega, by have := b3.2.1; have := q3.1; omega, b3.2.2⟩ b4)
set_option maxRecDepth 20000 in
set_option maxHeartbeats 4000000 in
theorem sp_common {l : Launch} {g : Gw} {d n : Nat} {M : Mm} {Q : Option Wd → Mm → Prop} {a : Int} {N : Nat} (h1 : 1 ≤ N) (h2 : N ≤ 100) (k : Q (some (0, cmp' a (N : Int) (N - 1))) M) : Wp l g d 0 0 n m_X7_commonPart 0 [] [(0, a), (0, (N : Int)), (9, 0)] M Q := by
  refine wp_iload_n dX7_commonPart_0 rfl rfl ?_
  refine wp_istore_n (loc' := [(0, a), (0, (N : Int)), (0, (N : Int))]) dX7_commonPart_1 rfl (Nat.le_of_ble_eq_true rfl) rfl ?_
  have h := lp_common (l := l) (g := g) (d := d) (n := n) (M := M) (Q := Q) (a := a) (b := (N : Int)) (N - 1) (by omega) k
  rw [show ((N - 1 : Nat) : Int) + 1 = (N : Int) by omega] at h
  exact h
set_option maxRecDepth 20000 in
set_option maxHeartbeats 4000000 in
theorem cs_chance {l : Launch} {g : Gw} {d n : Nat} {M : Mm} {Q : Option Wd → Mm → Prop} (hn : 60 ≤ n) (hd : 12 ≤ d) {A : Ls} (hI : CJ M A) (hq : SQ0 M) (hb : M 52 5 + 20 < 2000000000) (s m a pt : Int) (kB : ¬ (1 ≤ m ∧ m ≤ 10 ∧ 0 ≤ a ∧ a < A.1 2 ∧ 0 ≤ pt ∧ pt ≤ 1) → Q (some (1, (-4611686018427387904))) M) (k : (1 ≤ m ∧ m ≤ 10 ∧ 0 ≤ a ∧ a < A.1 2 ∧ 0 ≤ pt ∧ pt ≤ 1) → ∀ M', Fr VU M M' → SR M' → SQn M M' 10 → Q (some (1, rsC (chA (evC M) A s a m.toNat 0 0) m pt)) M') : Wp l g d 0 0 n m_X7_chance 0 [] [(2, 1), (0, s), (0, m), (0, a), (0, pt), (9, 0), (9, 0), (9, 0)] M Q := by
  obtain ⟨hR, hX, hA, hW, hr⟩ := id hI
  obtain ⟨a0, a1, a2, a3, ar, al⟩ := id hA
  obtain ⟨w0, w1, w2, w3, w4, w5, w6⟩ := id hW
  have hX1 := hX.1
  have hX2 := hX.2.1
  refine wp_iload_n dX7_chance_0 rfl rfl ?_
  refine wp_iconst dX7_chance_1 (by decide) ?_
  refine wp_icmp_lt (tgt := 33) dX7_chance_2 (by decide) (fun h2 => ?_) (fun h2 => ?_)
  · refine wp_ldc2 (x := -4611686018427387904) dX7_chance_33 kl_RX7_255 (by decide) (wr_l (by omega)) ?_
    refine wp_lret rfl dX7_chance_36 ?_
    exact kB (by omega)
  · refine wp_iload_n dX7_chance_5 rfl rfl ?_
    refine wp_bipush dX7_chance_6 (by decide) (by decide) ?_
    refine wp_icmp_gt (tgt := 33) dX7_chance_8 (by decide) (fun h8 => ?_) (fun h8 => ?_)
    · refine wp_ldc2 (x := -4611686018427387904) dX7_chance_33 kl_RX7_255 (by decide) (wr_l (by omega)) ?_
      refine wp_lret rfl dX7_chance_36 ?_
      exact kB (by omega)
    · refine wp_aload_n dX7_chance_11 rfl rfl ?_
      refine wp_get 1 rfl fl_RX7_10 rfl ⟨by omega, by omega⟩ dX7_chance_12 rfl (v := 2) (sr_1_0 (M := M) hR) ?_
      refine wp_iload_n dX7_chance_15 rfl rfl ?_
      refine wp_callV0 (d' := d - 1) cv_RX7_87 2 rfl [(0, a)] [] rfl rfl (Or.inl ⟨_, _, rfl, by decide, rfl, by omega, by omega⟩) (by omega) (Nat.le_of_ble_eq_true rfl) dX7_chance_16 rfl (Nat.le_of_ble_eq_true rfl) (by omega) (loc1 := [(2, 2), (0, a)]) rfl ?_
      refine sp_has_2 hn a (fun h16 => ?_) (fun h16 => ?_)
      · refine wp_if_eq (tgt := 33) dX7_chance_19 (by decide) (fun h => absurd h (by decide)) (fun _ => ?_)
        refine wp_iload dX7_chance_22 rfl ?_
        refine wp_if_lt (tgt := 33) dX7_chance_24 (by decide) (fun h24 => ?_) (fun h24 => ?_)
        · refine wp_ldc2 (x := -4611686018427387904) dX7_chance_33 kl_RX7_255 (by decide) (wr_l (by omega)) ?_
          refine wp_lret rfl dX7_chance_36 ?_
          exact kB (by omega)
        · refine wp_iload dX7_chance_27 rfl ?_
          refine wp_iconst dX7_chance_29 (by decide) ?_
          refine wp_icmp_le (tgt := 37) dX7_chance_30 (by decide) (fun h30 => ?_) (fun h30 => ?_)
          · refine wp_iconst dX7_chance_37 (by decide) ?_
            refine wp_istore (loc' := [(2, 1), (0, s), (0, m), (0, a), (0, pt), (0, 0), (9, 0), (9, 0)]) dX7_chance_38 (Nat.le_of_ble_eq_true rfl) rfl ?_
            refine wp_iconst dX7_chance_40 (by decide) ?_
            refine wp_istore (loc' := [(2, 1), (0, s), (0, m), (0, a), (0, pt), (0, 0), (0, 0), (9, 0)]) dX7_chance_41 (Nat.le_of_ble_eq_true rfl) rfl ?_
            obtain ⟨N, rfl⟩ := Int.eq_ofNat_of_zero_le (show 0 ≤ m by omega)
            refine lp_chance hn (by omega) (N := N) (by omega) N 0 M 0 _ Q (by omega) hI rfl hq (by omega) (by omega) (fun M1 u1 f1 hR1 hQ1 hI1 => ?_)
            have hgr := chA_r (evC M) A s a N 0 0
            refine wp_iload dX7_chance_102 rfl ?_
            refine wp_iload_n dX7_chance_104 rfl rfl ?_
            refine wp_callS0 (d' := d - 1) cs_RX7_257 [(0, (chA (evC M) A s a N 0 0)), (0, (N : Int))] [] rfl rfl (Nat.le_of_ble_eq_true rfl) dX7_chance_105 rfl (Nat.le_of_ble_eq_true rfl) (by omega) (loc1 := [(0, (chA (evC M) A s a N 0 0)), (0, (N : Int)), (9, 0)]) rfl ?_
            refine sp_common (N := N) (by omega) (by omega) ?_
            have hcm := cmp_r (chA (evC M) A s a N 0 0) (N : Int) (N - 1)
            refine wp_istore (loc' := [(2, 1), (0, s), (0, (N : Int)), (0, a), (0, pt), (0, (chA (evC M) A s a N 0 0)), (0, (cmp' (chA (evC M) A s a N 0 0) (N : Int) (N - 1))), u1]) dX7_chance_108 (Nat.le_of_ble_eq_true rfl) rfl ?_
            refine wp_iload dX7_chance_110 rfl ?_
            refine wp_if_ne (tgt := 120) dX7_chance_112 (by decide) (fun h112 => ?_) (fun h112 => ?_)
            · refine wp_iload_n dX7_chance_120 rfl rfl ?_
              refine wp_istore (loc' := [(2, 1), (0, s), (0, (N : Int)), (0, a), (0, pt), (0, (chA (evC M) A s a N 0 0)), (0, (cmp' (chA (evC M) A s a N 0 0) (N : Int) (N - 1))), (0, (N : Int))]) dX7_chance_121 (Nat.le_of_ble_eq_true rfl) rfl ?_
              refine wp_iload dX7_chance_123 rfl ?_
              refine wp_iconst dX7_chance_125 (by decide) ?_
              refine wp_icmp_ge (tgt := 135) dX7_chance_126 (by decide) (fun _ => ?_) (fun h => absurd h (by omega))
              refine wp_iload dX7_chance_135 rfl ?_
              refine wp_iload dX7_chance_137 rfl ?_
              refine wp_idiv dX7_chance_139 (by omega) ?_
              refine wp_i2l dX7_chance_140 ?_
              refine wp_lret rfl dX7_chance_141 ?_
              have e : rsC (chA (evC M) A s a ((N : Int)).toNat 0 0) (N : Int) pt = (Int.tdiv (N : Int) (cmp' (chA (evC M) A s a N 0 0) (N : Int) (N - 1))) := by show Int.tdiv (if _ then _ else _) _ = _; rw [if_neg (by omega)]; rfl
              rw [e] at k
              exact k (by omega) M1 f1 hR1 ⟨hQ1.1, by have := hQ1.2.1; omega, hQ1.2.2⟩
            · refine wp_iload dX7_chance_115 rfl ?_
              refine wp_goto (tgt := 121) dX7_chance_117 (by decide) ?_
              refine wp_istore (loc' := [(2, 1), (0, s), (0, (N : Int)), (0, a), (0, pt), (0, (chA (evC M) A s a N 0 0)), (0, (cmp' (chA (evC M) A s a N 0 0) (N : Int) (N - 1))), (0, (chA (evC M) A s a N 0 0))]) dX7_chance_121 (Nat.le_of_ble_eq_true rfl) rfl ?_
              refine wp_iload dX7_chance_123 rfl ?_
              refine wp_iconst dX7_chance_125 (by decide) ?_
              refine wp_icmp_ge (tgt := 135) dX7_chance_126 (by decide) (fun _ => ?_) (fun h => absurd h (by omega))
              refine wp_iload dX7_chance_135 rfl ?_
              refine wp_iload dX7_chance_137 rfl ?_
              refine wp_idiv dX7_chance_139 (by omega) ?_
              refine wp_i2l dX7_chance_140 ?_
              refine wp_lret rfl dX7_chance_141 ?_
              have e : rsC (chA (evC M) A s a ((N : Int)).toNat 0 0) (N : Int) pt = (Int.tdiv (chA (evC M) A s a N 0 0) (cmp' (chA (evC M) A s a N 0 0) (N : Int) (N - 1))) := by show Int.tdiv (if _ then _ else _) _ = _; rw [if_pos (by omega)]; rfl
              rw [e] at k
              exact k (by omega) M1 f1 hR1 ⟨hQ1.1, by have := hQ1.2.1; omega, hQ1.2.2⟩
          · refine wp_ldc2 (x := -4611686018427387904) dX7_chance_33 kl_RX7_255 (by decide) (wr_l (by omega)) ?_
            refine wp_lret rfl dX7_chance_36 ?_
            exact kB (by omega)
      · refine wp_if_eq (tgt := 33) dX7_chance_19 (by decide) (fun _ => ?_) (fun h => absurd h (by decide))
        refine wp_ldc2 (x := -4611686018427387904) dX7_chance_33 kl_RX7_255 (by decide) (wr_l (by omega)) ?_
        refine wp_lret rfl dX7_chance_36 ?_
        exact kB (by omega)
