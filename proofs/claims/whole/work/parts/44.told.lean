/-! ===== people out of a sheet; what was told ===== -/
theorem Wf.bear {A : Ls} (h : Wf A) {c u : Int} (hc : 0 ≤ c ∧ c ≤ 5) (hz : A.1 2 < 5) : Wf (bearA A c u) := by
  obtain ⟨w0, w1, w2, w3, w4, w5, w6⟩ := h
  refine ⟨by show 0 ≤ A.1 2 + 1; omega, by show A.1 2 + 1 ≤ 5; omega, by show 0 ≤ A.1 3 + 1; omega, by show A.1 3 + 1 ≤ A.1 2 + 1; omega, fun q hq => ?_, fun q q2 a hq => ?_, fun i hi => ?_⟩
  · have hq : (q : Int) < A.1 3 + 1 := hq
    show 0 ≤ (if q = (A.1 3).toNat then A.1 2 else A.2 5 q) ∧ (if q = (A.1 3).toNat then A.1 2 else A.2 5 q) < A.1 2 + 1
    split
    · omega
    · have := w4 q (by omega); omega
  · have hq : (q2 : Int) < A.1 3 + 1 := hq
    show (if q = (A.1 3).toNat then A.1 2 else A.2 5 q) ≠ (if q2 = (A.1 3).toNat then A.1 2 else A.2 5 q2)
    rw [if_neg (by omega)]
    have h1 := w4 q (by omega)
    split
    · omega
    · exact w5 q q2 a (by omega)
  · have hi : (i : Int) < A.1 2 + 1 := hi
    show 0 ≤ (if i = (A.1 2).toNat then c else A.2 0 i) ∧ (if i = (A.1 2).toNat then c else A.2 0 i) ≤ 5
    split
    · exact hc
    · exact w6 i (by omega)
/-- the true land's cells -/
def V2 (i j : Nat) : Prop := (i = 2 ∧ j < 4) ∨ (2 < i ∧ i ≤ 8)
theorem V2.n : ∀ i j, V2 i j → VN i j := by
  intro i j h
  unfold V2 at h
  unfold VN
  omega
theorem bearF (M : Mm) (c u : Int) : Fr V2 M (bearM M c u) := by
  unfold bearM
  exact (((((((Fr.rf.put (Or.inr ⟨by omega, by omega⟩)).put (Or.inr ⟨by omega, by omega⟩)).put (Or.inr ⟨by omega, by omega⟩)).put (Or.inr ⟨by omega, by omega⟩)).put (Or.inr ⟨by omega, by omega⟩)).put (Or.inl ⟨rfl, by omega⟩)).put (Or.inr ⟨by omega, by omega⟩)).put (Or.inl ⟨rfl, by omega⟩)
theorem V2.sr {M M' : Mm} (h : Fr V2 M M') (hR : SR M) : SR M' := hR.frL h (by unfold V2; decide +kernel)
theorem CJ.bear {M : Mm} {A : Ls} (h : CJ M A) {c u : Int} (hc : 0 ≤ c ∧ c ≤ 5) (hz : A.1 2 < 5) : CJ (bearM M c u) (bearA A c u) := by
  obtain ⟨hR, hX, hA, hW, h0, h1⟩ := h
  have f := bearF M c u
  refine ⟨V2.sr f hR, hX.frN (f.mono V2.n), hA.bear hW c u, hW.bear hc hz, h0, ?_⟩
  rw [f 25 1 (by unfold V2; omega)]
  exact h1
def prsA (A : Ls) (x y : Int) : Ls × Int := if ¬ (0 ≤ x ∧ x ≤ 5 ∧ 0 ≤ y ∧ y ≤ 9) then (A, -2) else if A.1 2 = 5 then (A, -4) else (bearA A x y, A.1 2)
def pplA (f : Nat → Int) (z at' : Int) : Nat → Nat → Ls → Int → Ls × Int
  | 0, _, A, c => (A, c)
  | m + 1, k, A, c => if 0 ≤ at' ∧ at' + 2 * (k : Int) + 2 ≤ z then pplA f z at' m (k + 1) (prsA A (f (at'.toNat + 2 * k)) (f (at'.toNat + 2 * k + 1))).1 (if 0 ≤ (prsA A (f (at'.toNat + 2 * k)) (f (at'.toNat + 2 * k + 1))).2 then c + 1 else c) else (A, -12)
set_option maxRecDepth 20000 in
set_option maxHeartbeats 4000000 in
theorem cs_person2 {l : Launch} {g : Gw} {d n : Nat} {M : Mm} {Q : Option Wd → Mm → Prop} (hn : 60 ≤ n) (hd : 10 ≤ d) {A : Ls} (hI : CJ M A) (x y : Int) (k : ∀ M', CJ M' (prsA A x y).1 → Fr V2 M M' → Q (some (0, (prsA A x y).2)) M') : Wp l g d 0 0 n m_X7_person 0 [] [(2, 1), (0, x), (0, y)] M Q := by
  have ha2 := hI.2.2.1.2.2.1
  refine cs_person hn hd hI x y (fun h => ?_) (fun h h5 => ?_) (fun h h5 => ?_)
  · have e : prsA A x y = (A, -2) := if_pos h
    rw [e] at k
    exact k M hI Fr.rf
  · have e : prsA A x y = (A, -4) := (if_neg (fun q => q h)).trans (if_pos (by omega))
    rw [e] at k
    exact k M hI Fr.rf
  · have e : prsA A x y = (bearA A x y, A.1 2) := (if_neg (fun q => q h)).trans (if_neg (by omega))
    rw [e] at k
    rw [ha2]
    exact k _ (hI.bear ⟨h.1, h.2.1⟩ (by omega)) (bearF M x y)
set_option maxRecDepth 20000 in
set_option maxHeartbeats 4000000 in
theorem lp_people  {l : Launch} {g : Gw} {d n : Nat} {S s : Nat} (hS : isS S s) (hn : 90 ≤ n) (hd : 11 ≤ d) {B : Mm} (hV : Ws B) {N : Nat} (hN : N ≤ 5) (y z : Int) (hz : -2147483648 ≤ z ∧ z < 2147483648) : ∀ (m p : Nat) (A : Ls) (M : Mm) (c : Int) (wd : Wd) (Q : Option Wd → Mm → Prop), p + m = N → (p = 0 ∨ (0 ≤ z ∧ z ≤ 40)) → (0 ≤ c ∧ c ≤ p) → CJ M A → Rs M B → (∀ M' r, r = pplA (fun i => B s (2 + i)) (B s 1) z m p A c → CJ M' r.1 → Fr V2 M M' → Q (some (0, r.2)) M') → Wp l g d 0 0 n m_X7_people 62 [] [(2, 1), (0, (s : Int)), (0, y), (0, z), (0, (N : Int)), (2, (S : Int)), (0, c), (0, (p : Int)), wd] M Q := by
  have hb := hS.b
  have g3 := hV.r hS.1
  intro m
  induction m with
  | zero =>
    intro p A M c wd Q hp hz2 hc hI hB k
    have hR := hI.1
    refine wp_iload dX7_people_62 rfl ?_
    refine wp_iload dX7_people_64 rfl ?_
    refine wp_icmp_ge (tgt := 123) dX7_people_66 (by decide) (fun _ => ?_) (fun h => absurd h (by omega))
    refine wp_iload dX7_people_123 rfl ?_
    refine wp_iret rfl dX7_people_125 ?_
    exact k M (A, c) rfl hI Fr.rf
  | succ m ih =>
    intro p A M c wd Q hp hz2 hc hI hB k
    have hR := hI.1
    have g2 : M S 2 = B s 1 := by have q := (hB s hS.1).2.1; rw [← hS.2] at q; exact q
    refine wp_iload dX7_people_62 rfl ?_
    refine wp_iload dX7_people_64 rfl ?_
    refine wp_icmp_ge (tgt := 123) dX7_people_66 (by decide) (fun h => absurd h (by omega)) (fun _ => ?_)
    refine wp_iload_n dX7_people_69 rfl rfl ?_
    refine wp_iconst dX7_people_70 (by decide) ?_
    refine wp_iload dX7_people_71 rfl ?_
    refine wp_imul dX7_people_73 (by omega) ?_
    refine wp_iadd dX7_people_74 (by omega) ?_
    refine wp_istore (loc' := [(2, 1), (0, (s : Int)), (0, y), (0, z), (0, (N : Int)), (2, (S : Int)), (0, c), (0, (p : Int)), (0, (z + (2 * (p : Int))))]) dX7_people_75 (Nat.le_of_ble_eq_true rfl) rfl ?_
    refine wp_aload dX7_people_77 rfl ?_
    refine wp_iload dX7_people_79 rfl ?_
    refine wp_iconst dX7_people_81 (by decide) ?_
    refine wp_callV0 (d' := d - 1) cv_RX7_271 S rfl [(0, (z + (2 * (p : Int)))), (0, 2)] [] rfl rfl (Or.inl ⟨_, _, hS.k0, by decide, rfl, by omega, by omega⟩) (by omega) (Nat.le_of_ble_eq_true rfl) dX7_people_82 rfl (Nat.le_of_ble_eq_true rfl) (by omega) (loc1 := [(2, (S : Int)), (0, (z + (2 * (p : Int)))), (0, 2)]) rfl ?_
    refine sp_hasS hS hn hR (by omega) (z + (2 * (p : Int))) 2 (fun h82 => ?_) (fun h82 => ?_)
    · refine wp_if_ne (tgt := 91) dX7_people_85 (by decide) (fun _ => ?_) (fun h => absurd h (by decide))
      refine wp_aload_n dX7_people_91 rfl rfl ?_
      refine wp_aload dX7_people_92 rfl ?_
      refine wp_iload dX7_people_94 rfl ?_
      refine wp_callV0 (d' := d - 1) cv_RX7_244 S rfl [(0, (z + (2 * (p : Int))))] [(2, 1)] rfl rfl (Or.inl ⟨_, _, hS.k0, by decide, rfl, by omega, by omega⟩) (by omega) (Nat.le_of_ble_eq_true rfl) dX7_people_96 rfl (Nat.le_of_ble_eq_true rfl) (by omega) (loc1 := [(2, (S : Int)), (0, (z + (2 * (p : Int))))]) rfl ?_
      refine sp_itemS hS hn hR (by omega) (z + (2 * (p : Int))) (fun _ => ?_) (fun h => absurd (by omega) h)
      rw [show M (S + 1) ((z + (2 * (p : Int)))).toNat = B s (2 + (z.toNat + 2 * p)) by rw [show ((z + (2 * (p : Int)))).toNat = (z.toNat + 2 * p) by omega, hS.2]; exact (hB s hS.1).2.2 _ (by omega)]
      refine wp_aload dX7_people_99 rfl ?_
      refine wp_iload dX7_people_101 rfl ?_
      refine wp_iconst dX7_people_103 (by decide) ?_
      refine wp_iadd dX7_people_104 (by omega) ?_
      refine wp_callV0 (d' := d - 1) cv_RX7_244 S rfl [(0, ((z + (2 * (p : Int))) + 1))] [(0, (B s (2 + (z.toNat + 2 * p)))), (2, 1)] rfl rfl (Or.inl ⟨_, _, hS.k0, by decide, rfl, by omega, by omega⟩) (by omega) (Nat.le_of_ble_eq_true rfl) dX7_people_105 rfl (Nat.le_of_ble_eq_true rfl) (by omega) (loc1 := [(2, (S : Int)), (0, ((z + (2 * (p : Int))) + 1))]) rfl ?_
      refine sp_itemS hS hn hR (by omega) ((z + (2 * (p : Int))) + 1) (fun _ => ?_) (fun h => absurd (by omega) h)
      rw [show M (S + 1) (((z + (2 * (p : Int))) + 1)).toNat = B s (2 + (z.toNat + 2 * p + 1)) by rw [show (((z + (2 * (p : Int))) + 1)).toNat = (z.toNat + 2 * p + 1) by omega, hS.2]; exact (hB s hS.1).2.2 _ (by omega)]
      refine wp_callV0 (d' := d - 1) cv_RX7_279 1 rfl [(0, (B s (2 + (z.toNat + 2 * p)))), (0, (B s (2 + (z.toNat + 2 * p + 1))))] [] rfl rfl (Or.inl ⟨_, _, rfl, by decide, rfl, by omega, by omega⟩) (by omega) (Nat.le_of_ble_eq_true rfl) dX7_people_108 rfl (Nat.le_of_ble_eq_true rfl) (by omega) (loc1 := [(2, 1), (0, (B s (2 + (z.toNat + 2 * p)))), (0, (B s (2 + (z.toNat + 2 * p + 1))))]) rfl ?_
      refine cs_person2 (by omega) (by omega) hI (B s (2 + (z.toNat + 2 * p))) (B s (2 + (z.toNat + 2 * p + 1))) (fun M1 hI1 hF1 => ?_)
      have hR1 := hI1.1
      refine wp_if_lt (tgt := 117) dX7_people_111 (by decide) (fun h111 => ?_) (fun h111 => ?_)
      · refine wp_iinc (loc' := [(2, 1), (0, (s : Int)), (0, y), (0, z), (0, (N : Int)), (2, (S : Int)), (0, c), (0, ((p : Int) + 1)), (0, (z + (2 * (p : Int))))]) dX7_people_117 rfl (by omega) rfl ?_
        refine wp_goto (tgt := 62) dX7_people_120 (by decide) ?_
        refine ih (p + 1) _ _ _ _ Q (by omega) (by omega) (by omega) hI1 (hB.fr hF1 (by intro i j h; unfold V2 at h; unfold VS; omega)) (fun M2 r e a1 a2 => k M2 r ?_ a1 (hF1.tr a2))
        rw [e]
        show _ = (if 0 ≤ z ∧ z + 2 * (p : Int) + 2 ≤ B s 1 then pplA (fun i => B s (2 + i)) (B s 1) z m (p + 1) (prsA A (B s (2 + (z.toNat + 2 * p))) (B s (2 + (z.toNat + 2 * p + 1)))).1 (if 0 ≤ (prsA A (B s (2 + (z.toNat + 2 * p))) (B s (2 + (z.toNat + 2 * p + 1)))).2 then c + 1 else c) else (A, -12))
        rw [if_pos (by omega), if_neg (by omega)]
      · refine wp_iinc (loc' := [(2, 1), (0, (s : Int)), (0, y), (0, z), (0, (N : Int)), (2, (S : Int)), (0, (c + 1)), (0, (p : Int)), (0, (z + (2 * (p : Int))))]) dX7_people_114 rfl (by omega) rfl ?_
        refine wp_iinc (loc' := [(2, 1), (0, (s : Int)), (0, y), (0, z), (0, (N : Int)), (2, (S : Int)), (0, (c + 1)), (0, ((p : Int) + 1)), (0, (z + (2 * (p : Int))))]) dX7_people_117 rfl (by omega) rfl ?_
        refine wp_goto (tgt := 62) dX7_people_120 (by decide) ?_
        refine ih (p + 1) _ _ _ _ Q (by omega) (by omega) (by omega) hI1 (hB.fr hF1 (by intro i j h; unfold V2 at h; unfold VS; omega)) (fun M2 r e a1 a2 => k M2 r ?_ a1 (hF1.tr a2))
        rw [e]
        show _ = (if 0 ≤ z ∧ z + 2 * (p : Int) + 2 ≤ B s 1 then pplA (fun i => B s (2 + i)) (B s 1) z m (p + 1) (prsA A (B s (2 + (z.toNat + 2 * p))) (B s (2 + (z.toNat + 2 * p + 1)))).1 (if 0 ≤ (prsA A (B s (2 + (z.toNat + 2 * p))) (B s (2 + (z.toNat + 2 * p + 1)))).2 then c + 1 else c) else (A, -12))
        rw [if_pos (by omega), if_pos (by omega)]
    · refine wp_if_ne (tgt := 91) dX7_people_85 (by decide) (fun h => absurd h (by decide)) (fun _ => ?_)
      refine wp_bipush dX7_people_88 (by decide) (by decide) ?_
      refine wp_iret rfl dX7_people_90 ?_
      refine k M (A, -12) ?_ hI Fr.rf
      show _ = (if _ then _ else _)
      rw [if_neg (by omega)]
set_option maxRecDepth 20000 in
set_option maxHeartbeats 4000000 in
theorem cs_people {l : Launch} {g : Gw} {d n : Nat} {M : Mm} {Q : Option Wd → Mm → Prop} (hn : 90 ≤ n) (hd : 12 ≤ d) {A : Ls} (hI : CJ M A) {B : Mm} (hB : Rs M B) (hV : Ws B) (x y z v : Int) (hz : -2147483648 ≤ z ∧ z < 2147483648) (kB : ¬ (0 ≤ x ∧ x < 4 ∧ 0 ≤ y ∧ y ≤ 2 ∧ 0 ≤ v ∧ v ≤ 5) → Q (some (0, -2)) M) (kN : (0 ≤ x ∧ x < 4 ∧ 0 ≤ y ∧ y ≤ 2 ∧ 0 ≤ v ∧ v ≤ 5) → B x.toNat 0 = -1 → Q (some (0, -11)) M) (kU : (0 ≤ x ∧ x < 4 ∧ 0 ≤ y ∧ y ≤ 2 ∧ 0 ≤ v ∧ v ≤ 5) → B x.toNat 0 ≠ -1 → B x.toNat 0 ≠ y → Q (some (0, -13)) M) (k : (0 ≤ x ∧ x < 4 ∧ 0 ≤ y ∧ y ≤ 2 ∧ 0 ≤ v ∧ v ≤ 5) → B x.toNat 0 = y → ∀ M', CJ M' (pplA (fun i => B x.toNat (2 + i)) (B x.toNat 1) z v.toNat 0 A 0).1 → Fr V2 M M' → Q (some (0, (pplA (fun i => B x.toNat (2 + i)) (B x.toNat 1) z v.toNat 0 A 0).2)) M') : Wp l g d 0 0 n m_X7_people 0 [] [(2, 1), (0, x), (0, y), (0, z), (0, v), (9, 0), (9, 0), (9, 0), (9, 0)] M Q := by
  have hR := hI.1
  refine wp_aload_n dX7_people_0 rfl rfl ?_
  refine wp_iload_n dX7_people_1 rfl rfl ?_
  refine wp_callV0 (d' := d - 1) cv_RX7_212 1 rfl [(0, x)] [] rfl rfl (Or.inl ⟨_, _, rfl, by decide, rfl, by omega, by omega⟩) (by omega) (Nat.le_of_ble_eq_true rfl) dX7_people_2 rfl (Nat.le_of_ble_eq_true rfl) (by omega) (loc1 := [(2, 1), (0, x)]) rfl ?_
  refine sp_sheetOf hn hR x (fun hN2 => ?_) (fun S s hS eS => ?_)
  · refine wp_astore (loc' := [(2, 1), (0, x), (0, y), (0, z), (0, v), (2, 0), (9, 0), (9, 0), (9, 0)]) dX7_people_5 (Nat.le_of_ble_eq_true rfl) rfl ?_
    refine wp_aload dX7_people_7 rfl ?_
    refine wp_ifnull (tgt := 30) dX7_people_9 (by decide) (fun _ => ?_) (fun h => absurd h (by decide))
    refine wp_bipush dX7_people_30 (by decide) (by decide) ?_
    refine wp_iret rfl dX7_people_32 ?_
    exact kB (by omega)
  · subst eS
    have bS := hS.b
    have g1S : M S 1 = B s 0 := by have q := (hB s hS.1).1; rw [← hS.2] at q; exact q
    have g2S : M S 2 = B s 1 := by have q := (hB s hS.1).2.1; rw [← hS.2] at q; exact q
    have g3S := hV.r hS.1
    refine wp_astore (loc' := [(2, 1), (0, (s : Int)), (0, y), (0, z), (0, v), (2, (S : Int)), (9, 0), (9, 0), (9, 0)]) dX7_people_5 (Nat.le_of_ble_eq_true rfl) rfl ?_
    refine wp_aload dX7_people_7 rfl ?_
    refine wp_ifnull (tgt := 30) dX7_people_9 (by decide) (fun h => absurd h (by omega)) (fun _ => ?_)
    refine wp_iload_n dX7_people_12 rfl rfl ?_
    refine wp_callS0 (d' := d - 1) cs_RX7_265 [(0, y)] [] rfl rfl (Nat.le_of_ble_eq_true rfl) dX7_people_13 rfl (Nat.le_of_ble_eq_true rfl) (by omega) (loc1 := [(0, y)]) rfl ?_
    refine wp_iload_n dX4_isSort_0 rfl rfl ?_
    refine wp_if_lt (tgt := 13) dX4_isSort_1 (by decide) (fun h1 => ?_) (fun h1 => ?_)
    · refine wp_iconst dX4_isSort_13 (by decide) ?_
      refine wp_zret rfl (by omega) dX4_isSort_14 ?_
      refine wp_if_eq (tgt := 30) dX7_people_16 (by decide) (fun _ => ?_) (fun h => absurd h (by decide))
      refine wp_bipush dX7_people_30 (by decide) (by decide) ?_
      refine wp_iret rfl dX7_people_32 ?_
      exact kB (by omega)
    · refine wp_iload_n dX4_isSort_4 rfl rfl ?_
      refine wp_iconst dX4_isSort_5 (by decide) ?_
      refine wp_icmp_gt (tgt := 13) dX4_isSort_6 (by decide) (fun h6 => ?_) (fun h6 => ?_)
      · refine wp_iconst dX4_isSort_13 (by decide) ?_
        refine wp_zret rfl (by omega) dX4_isSort_14 ?_
        refine wp_if_eq (tgt := 30) dX7_people_16 (by decide) (fun _ => ?_) (fun h => absurd h (by decide))
        refine wp_bipush dX7_people_30 (by decide) (by decide) ?_
        refine wp_iret rfl dX7_people_32 ?_
        exact kB (by omega)
      · refine wp_iconst dX4_isSort_9 (by decide) ?_
        refine wp_goto (tgt := 14) dX4_isSort_10 (by decide) ?_
        refine wp_zret rfl (by omega) dX4_isSort_14 ?_
        refine wp_if_eq (tgt := 30) dX7_people_16 (by decide) (fun h => absurd h (by decide)) (fun _ => ?_)
        refine wp_iload dX7_people_19 rfl ?_
        refine wp_if_lt (tgt := 30) dX7_people_21 (by decide) (fun h21 => ?_) (fun h21 => ?_)
        · refine wp_bipush dX7_people_30 (by decide) (by decide) ?_
          refine wp_iret rfl dX7_people_32 ?_
          exact kB (by omega)
        · refine wp_iload dX7_people_24 rfl ?_
          refine wp_iconst dX7_people_26 (by decide) ?_
          refine wp_icmp_le (tgt := 33) dX7_people_27 (by decide) (fun h27 => ?_) (fun h27 => ?_)
          · refine wp_aload dX7_people_33 rfl ?_
            refine wp_callV0 (d' := d - 1) cv_RX7_216 S rfl [] [] rfl rfl (Or.inl ⟨_, _, hS.k0, by decide, rfl, by omega, by omega⟩) (by omega) (Nat.le_of_ble_eq_true rfl) dX7_people_35 rfl (Nat.le_of_ble_eq_true rfl) (by omega) (loc1 := [(2, (S : Int))]) rfl ?_
            refine wp_aload_n dX4_isMissing_0 rfl rfl ?_
            refine wp_get S rfl fl_RX4_13 hS.k0 ⟨by omega, by omega⟩ dX4_isMissing_1 rfl (v := (M S 1)) (rfl) ?_
            refine wp_iconst dX4_isMissing_4 (by decide) ?_
            refine wp_icmp_ne (tgt := 12) dX4_isMissing_5 (by decide) (fun h5 => ?_) (fun h5 => ?_)
            · refine wp_iconst dX4_isMissing_12 (by decide) ?_
              refine wp_zret rfl (by omega) dX4_isMissing_13 ?_
              refine wp_if_eq (tgt := 44) dX7_people_38 (by decide) (fun _ => ?_) (fun h => absurd h (by decide))
              refine wp_aload dX7_people_44 rfl ?_
              refine wp_get S rfl fl_RX7_268 hS.k0 ⟨by omega, by omega⟩ dX7_people_46 rfl (v := (M S 1)) (rfl) ?_
              refine wp_iload_n dX7_people_49 rfl rfl ?_
              refine wp_icmp_eq (tgt := 56) dX7_people_50 (by decide) (fun h50 => ?_) (fun h50 => ?_)
              · refine wp_iconst dX7_people_56 (by decide) ?_
                refine wp_istore (loc' := [(2, 1), (0, (s : Int)), (0, y), (0, z), (0, v), (2, (S : Int)), (0, 0), (9, 0), (9, 0)]) dX7_people_57 (Nat.le_of_ble_eq_true rfl) rfl ?_
                refine wp_iconst dX7_people_59 (by decide) ?_
                refine wp_istore (loc' := [(2, 1), (0, (s : Int)), (0, y), (0, z), (0, v), (2, (S : Int)), (0, 0), (0, 0), (9, 0)]) dX7_people_60 (Nat.le_of_ble_eq_true rfl) rfl ?_
                obtain ⟨N, rfl⟩ := Int.eq_ofNat_of_zero_le (show 0 ≤ v by omega)
                refine lp_people hS hn (by omega) hV (N := N) (by omega) y z hz N 0 A M 0 (9, 0) Q (by omega) (Or.inl rfl) (by omega) hI hB (fun M2 r e a1 a2 => ?_)
                subst e
                exact k (by omega) (by show B s 0 = y; omega) M2 a1 a2
              · refine wp_bipush dX7_people_53 (by decide) (by decide) ?_
                refine wp_iret rfl dX7_people_55 ?_
                exact kU (by omega) (by show B s 0 ≠ -1; omega) (by show B s 0 ≠ y; omega)
            · refine wp_iconst dX4_isMissing_8 (by decide) ?_
              refine wp_goto (tgt := 13) dX4_isMissing_9 (by decide) ?_
              refine wp_zret rfl (by omega) dX4_isMissing_13 ?_
              refine wp_if_eq (tgt := 44) dX7_people_38 (by decide) (fun h => absurd h (by decide)) (fun _ => ?_)
              refine wp_bipush dX7_people_41 (by decide) (by decide) ?_
              refine wp_iret rfl dX7_people_43 ?_
              exact kN (by omega) (by show B s 0 = -1; omega)
          · refine wp_bipush dX7_people_30 (by decide) (by decide) ?_
            refine wp_iret rfl dX7_people_32 ?_
            exact kB (by omega)
def VF (i j : Nat) : Prop := VW i j ∨ VS i j
set_option maxRecDepth 20000 in
set_option maxHeartbeats 4000000 in
theorem lp_film  {l : Launch} {g : Gw} {d n : Nat} {E : Ev} {S s : Nat} (hS : isS S s) (hn : 90 ≤ n) (hd : 10 ≤ d) {N : Nat} (hN : N ≤ 30) : ∀ (m p : Nat) (A : Ls) (B : Mm) (M : Mm) (Q : Option Wd → Mm → Prop), p + m = N → TJ M A E → B s 0 = 0 → B s 1 = (N : Int) → Rs M B → (∀ M', Rs M' (flmB E s m p A B) → Fr VF M M' → SR M' → Q (some (0, (N : Int))) M') → Wp l g d 0 0 n m_X7_film 43 [] [(2, 1), (0, (s : Int)), (0, (N : Int)), (2, (S : Int)), (0, (p : Int))] M Q := by
  have hb := hS.b
  intro m
  induction m with
  | zero =>
    intro p A B M Q hp hT h0 h1 hB k
    have hR := hT.1
    refine wp_iload dX7_film_43 rfl ?_
    refine wp_iload_n dX7_film_45 rfl rfl ?_
    refine wp_icmp_ge (tgt := 81) dX7_film_46 (by decide) (fun _ => ?_) (fun h => absurd h (by omega))
    refine wp_iload_n dX7_film_81 rfl rfl ?_
    refine wp_iret rfl dX7_film_82 ?_
    exact k M hB Fr.rf hR
  | succ m ih =>
    intro p A B M Q hp hT h0 h1 hB k
    have hR := hT.1
    refine wp_iload dX7_film_43 rfl ?_
    refine wp_iload_n dX7_film_45 rfl rfl ?_
    refine wp_icmp_ge (tgt := 81) dX7_film_46 (by decide) (fun h => absurd h (by omega)) (fun _ => ?_)
    refine wp_aload_n dX7_film_49 rfl rfl ?_
    refine wp_get 1 rfl fl_RX7_41 rfl ⟨by omega, by omega⟩ dX7_film_50 rfl (v := 51) (sr_1_6 (M := M) hR) ?_
    refine wp_aload_n dX7_film_53 rfl rfl ?_
    refine wp_get 1 rfl fl_RX7_19 rfl ⟨by omega, by omega⟩ dX7_film_54 rfl (v := 16) (sr_1_2 (M := M) hR) ?_
    refine wp_callV0 (d' := d - 1) cv_RX7_157 51 rfl [(2, 16)] [] rfl rfl (Or.inl ⟨_, _, rfl, by decide, rfl, by omega, by omega⟩) (by omega) (Nat.le_of_ble_eq_true rfl) dX7_film_57 rfl (Nat.le_of_ble_eq_true rfl) (by omega) (loc1 := [(2, 51), (2, 16), (9, 0), (9, 0), (9, 0)]) rfl ?_
    refine sp_goT (by omega) (by omega) hT (fun M1 hT1 hF1 => ?_)
    have hR1 := hT1.1
    have hB1 := hB.fr hF1 (by intro i j h; unfold VW VX at h; unfold VS; omega)
    have k1 : M1 S 1 = B s 0 := by have q := (hB1 s hS.1).1; rw [← hS.2] at q; exact q
    have k2 : M1 S 2 = B s 1 := by have q := (hB1 s hS.1).2.1; rw [← hS.2] at q; exact q
    have hfr := fstA_r hT1.2.2.2.1
    refine wp_pop dX7_film_60 (Or.inl rfl) ?_
    refine wp_aload_n dX7_film_61 rfl rfl ?_
    refine wp_iload dX7_film_62 rfl ?_
    refine wp_aload_n dX7_film_64 rfl rfl ?_
    refine wp_get 1 rfl fl_RX7_19 rfl ⟨by omega, by omega⟩ dX7_film_65 rfl (v := 16) (sr_1_2 (M := M1) hR1) ?_
    refine wp_iconst dX7_film_68 (by decide) ?_
    refine wp_callV0 (d' := d - 1) cv_RX7_142 16 rfl [(0, 0)] [(0, (p : Int)), (2, (S : Int))] rfl rfl (Or.inl ⟨_, _, rfl, by decide, rfl, by omega, by omega⟩) (by omega) (Nat.le_of_ble_eq_true rfl) dX7_film_69 rfl (Nat.le_of_ble_eq_true rfl) (by omega) (loc1 := [(2, 16), (0, 0)]) rfl ?_
    refine sp_fstT (by omega) hT1 ?_
    refine wp_callV0 (d' := d - 1) cv_RX7_250 S rfl [(0, (p : Int)), (0, (fstA (tickA E A).1))] [] rfl rfl (Or.inl ⟨_, _, hS.k0, by decide, rfl, by omega, by omega⟩) (by omega) (Nat.le_of_ble_eq_true rfl) dX7_film_72 rfl (Nat.le_of_ble_eq_true rfl) (by omega) (loc1 := [(2, (S : Int)), (0, (p : Int)), (0, (fstA (tickA E A).1))]) rfl ?_
    refine sp_putS hS hn hR1 (by omega) (p : Int) (fstA (tickA E A).1) (fun _ => ?_) (fun h => absurd (by omega) h)
    have hB2 := hB1.put hS (i := p) (v := fstA (tickA E A).1)
    have f2 : Fr (VQ S) M1 (mu M1 (S + 1) p (cvt (M1 S 1) (fstA (tickA E A).1))) := Fr.rf.put (Or.inl rfl)
    have e2 : putB B s p (fstA (tickA E A).1) = mu B s (2 + p) (fstA (tickA E A).1) := by unfold putB cvt; rw [if_pos h0, i8_small hfr]
    rw [e2] at hB2
    rw [show ((p : Int)).toNat = p from rfl]
    refine wp_iinc (loc' := [(2, 1), (0, (s : Int)), (0, (N : Int)), (2, (S : Int)), (0, ((p : Int) + 1))]) dX7_film_75 rfl (by omega) rfl ?_
    refine wp_goto (tgt := 43) dX7_film_78 (by decide) ?_
    refine ih (p + 1) _ _ _ Q (by omega) ?_ (by rw [mu_nj _ _ _ (by omega)]; exact h0) (by rw [mu_nj _ _ _ (by omega)]; exact h1) hB2 (fun M2 a1 a2 a3 => k M2 a1 ((hF1.mono (fun i j h => Or.inl h)).tr ((f2.mono (fun i j h => Or.inr (VQ.s hS i j h))).tr a2)) a3)
    exact hT1.fr f2 (VQ.sr hS f2 hR1) (fun i j h => by have h2 := VQ.s hS i j h; unfold VS at h2; unfold VN; omega)
set_option maxRecDepth 20000 in
set_option maxHeartbeats 4000000 in
theorem cs_film {l : Launch} {g : Gw} {d n : Nat} {M : Mm} {Q : Option Wd → Mm → Prop} (hn : 90 ≤ n) (hd : 12 ≤ d) {A : Ls} (hI : CJ M A) {B : Mm} (hB : Rs M B) (hV : Ws B) (x y : Int) (kB : ¬ (0 ≤ x ∧ x < 4 ∧ 0 ≤ y ∧ y ≤ 30) → Q (some (0, -2)) M) (k : (0 ≤ x ∧ x < 4 ∧ 0 ≤ y ∧ y ≤ 30) → ∀ M', Rs M' (flmB (evC M) x.toNat y.toNat 0 A (layB B x.toNat 0 y)) → Fr VF M M' → SR M' → Q (some (0, y)) M') : Wp l g d 0 0 n m_X7_film 0 [] [(2, 1), (0, x), (0, y), (9, 0), (9, 0)] M Q := by
  have hR := hI.1
  refine wp_aload_n dX7_film_0 rfl rfl ?_
  refine wp_iload_n dX7_film_1 rfl rfl ?_
  refine wp_callV0 (d' := d - 1) cv_RX7_212 1 rfl [(0, x)] [] rfl rfl (Or.inl ⟨_, _, rfl, by decide, rfl, by omega, by omega⟩) (by omega) (Nat.le_of_ble_eq_true rfl) dX7_film_2 rfl (Nat.le_of_ble_eq_true rfl) (by omega) (loc1 := [(2, 1), (0, x)]) rfl ?_
  refine sp_sheetOf hn hR x (fun hN2 => ?_) (fun S s hS eS => ?_)
  · refine wp_astore_n (loc' := [(2, 1), (0, x), (0, y), (2, 0), (9, 0)]) dX7_film_5 rfl (Nat.le_of_ble_eq_true rfl) rfl ?_
    refine wp_aload_n dX7_film_6 rfl rfl ?_
    refine wp_ifnull (tgt := 20) dX7_film_7 (by decide) (fun _ => ?_) (fun h => absurd h (by decide))
    refine wp_bipush dX7_film_20 (by decide) (by decide) ?_
    refine wp_iret rfl dX7_film_22 ?_
    exact kB (by omega)
  · subst eS
    have bS := hS.b
    have g1S : M S 1 = B s 0 := by have q := (hB s hS.1).1; rw [← hS.2] at q; exact q
    have g2S : M S 2 = B s 1 := by have q := (hB s hS.1).2.1; rw [← hS.2] at q; exact q
    have g3S := hV.r hS.1
    refine wp_astore_n (loc' := [(2, 1), (0, (s : Int)), (0, y), (2, (S : Int)), (9, 0)]) dX7_film_5 rfl (Nat.le_of_ble_eq_true rfl) rfl ?_
    refine wp_aload_n dX7_film_6 rfl rfl ?_
    refine wp_ifnull (tgt := 20) dX7_film_7 (by decide) (fun h => absurd h (by omega)) (fun _ => ?_)
    refine wp_iload_n dX7_film_10 rfl rfl ?_
    refine wp_if_lt (tgt := 20) dX7_film_11 (by decide) (fun h11 => ?_) (fun h11 => ?_)
    · refine wp_bipush dX7_film_20 (by decide) (by decide) ?_
      refine wp_iret rfl dX7_film_22 ?_
      exact kB (by omega)
    · refine wp_iload_n dX7_film_14 rfl rfl ?_
      refine wp_bipush dX7_film_15 (by decide) (by decide) ?_
      refine wp_icmp_le (tgt := 23) dX7_film_17 (by decide) (fun h17 => ?_) (fun h17 => ?_)
      · refine wp_aload_n dX7_film_23 rfl rfl ?_
        refine wp_get 1 rfl fl_RX7_19 rfl ⟨by omega, by omega⟩ dX7_film_24 rfl (v := 16) (sr_1_2 (M := M) hR) ?_
        refine wp_aload_n dX7_film_27 rfl rfl ?_
        refine wp_get 1 rfl fl_RX7_10 rfl ⟨by omega, by omega⟩ dX7_film_28 rfl (v := 2) (sr_1_0 (M := M) hR) ?_
        refine wp_callV0 (d' := d - 1) cv_RX7_203 16 rfl [(2, 2)] [] rfl rfl (Or.inl ⟨_, _, rfl, by decide, rfl, by omega, by omega⟩) (by omega) (Nat.le_of_ble_eq_true rfl) dX7_film_31 rfl (Nat.le_of_ble_eq_true rfl) (by omega) (loc1 := [(2, 16), (2, 2), (9, 0)]) rfl ?_
        refine sp_become_16_2 (by omega) hR ?_
        have hT := TJ.bec hI
        have hRb := hT.1
        have hFb := (becF_16_2 M).mono VW.b
        refine wp_aload_n dX7_film_34 rfl rfl ?_
        refine wp_iconst dX7_film_35 (by decide) ?_
        refine wp_iload_n dX7_film_36 rfl rfl ?_
        refine wp_callV0 (d' := d - 1) cv_RX7_247 S rfl [(0, 0), (0, y)] [] rfl rfl (Or.inl ⟨_, _, hS.k0, by decide, rfl, by omega, by omega⟩) (by omega) (Nat.le_of_ble_eq_true rfl) dX7_film_37 rfl (Nat.le_of_ble_eq_true rfl) (by omega) (loc1 := [(2, (S : Int)), (0, 0), (0, y), (9, 0)]) rfl ?_
        have hBb := hB.fr hFb (by intro i j h; unfold VW VX at h; unfold VS; omega)
        refine sp_layS hS hn hRb (by omega) 0 y (by omega) (fun M1 m1 m2 m3 m4 m5 => ?_)
        have hB1 := hBb.lay hS m1 m2 (by omega) m3 m4
        have hT1 := hT.fr m4 m5 (fun i j h => by have h2 := VQ.s hS i j h; unfold VS at h2; unfold VN; omega)
        refine wp_iconst dX7_film_40 (by decide) ?_
        refine wp_istore (loc' := [(2, 1), (0, (s : Int)), (0, y), (2, (S : Int)), (0, 0)]) dX7_film_41 (Nat.le_of_ble_eq_true rfl) rfl ?_
        obtain ⟨N, rfl⟩ := Int.eq_ofNat_of_zero_le (show 0 ≤ y by omega)
        refine lp_film hS hn (by omega) (N := N) (by omega) N 0 A _ M1 Q (by omega) hT1 ?_ ?_ hB1 (fun M2 a1 a2 a3 => k (by omega) M2 a1 ((hFb.mono (fun i j h => Or.inl h)).tr ((m4.mono (fun i j h => Or.inr (VQ.s hS i j h))).tr a2)) a3)
        · unfold layB; rw [if_pos rfl, if_pos rfl]
        · unfold layB; rw [if_pos rfl, if_neg (by decide), if_pos rfl]
      · refine wp_bipush dX7_film_20 (by decide) (by decide) ?_
        refine wp_iret rfl dX7_film_22 ?_
        exact kB (by omega)
set_option maxRecDepth 20000 in
set_option maxHeartbeats 4000000 in
theorem lp_fo  {l : Launch} {g : Gw} {d n : Nat} {E : Ev} {S s : Nat} (hS : isS S s) (hn : 90 ≤ n) (hd : 8 ≤ d) {B : Mm} (hV : Ws B) {N : Nat} (hN : B s 1 = (N : Int)) : ∀ (m p : Nat) (A : Ls) (M : Mm) (Q : Option Wd → Mm → Prop), p + m = N → TJ M A E → Rs M B → (∀ M', Fr VW M M' → SR M' → Q (some (0, ftA E (fun i => B s (2 + i)) m p A)) M') → Wp l g d 0 0 n m_X7_firstOtherwise 2 [] [(2, 1), (2, (S : Int)), (0, (p : Int))] M Q := by
  have hb := hS.b
  have g3 := hV.r hS.1
  intro m
  induction m with
  | zero =>
    intro p A M Q hp hT hB k
    have hR := hT.1
    have g2 : M S 2 = B s 1 := by have q := (hB s hS.1).2.1; rw [← hS.2] at q; exact q
    refine wp_iload_n dX7_firstOtherwise_2 rfl rfl ?_
    refine wp_aload_n dX7_firstOtherwise_3 rfl rfl ?_
    refine wp_get S rfl fl_RX7_219 hS.k0 ⟨by omega, by omega⟩ dX7_firstOtherwise_4 rfl (v := (M S 2)) (rfl) ?_
    refine wp_icmp_ge (tgt := 46) dX7_firstOtherwise_7 (by decide) (fun _ => ?_) (fun h => absurd h (by omega))
    refine wp_iconst dX7_firstOtherwise_46 (by decide) ?_
    refine wp_iret rfl dX7_firstOtherwise_47 ?_
    exact k M Fr.rf hR
  | succ m ih =>
    intro p A M Q hp hT hB k
    have hR := hT.1
    have g2 : M S 2 = B s 1 := by have q := (hB s hS.1).2.1; rw [← hS.2] at q; exact q
    refine wp_iload_n dX7_firstOtherwise_2 rfl rfl ?_
    refine wp_aload_n dX7_firstOtherwise_3 rfl rfl ?_
    refine wp_get S rfl fl_RX7_219 hS.k0 ⟨by omega, by omega⟩ dX7_firstOtherwise_4 rfl (v := (M S 2)) (rfl) ?_
    refine wp_icmp_ge (tgt := 46) dX7_firstOtherwise_7 (by decide) (fun h => absurd h (by omega)) (fun _ => ?_)
    refine wp_aload_n dX7_firstOtherwise_10 rfl rfl ?_
    refine wp_get 1 rfl fl_RX7_41 rfl ⟨by omega, by omega⟩ dX7_firstOtherwise_11 rfl (v := 51) (sr_1_6 (M := M) hR) ?_
    refine wp_aload_n dX7_firstOtherwise_14 rfl rfl ?_
    refine wp_get 1 rfl fl_RX7_19 rfl ⟨by omega, by omega⟩ dX7_firstOtherwise_15 rfl (v := 16) (sr_1_2 (M := M) hR) ?_
    refine wp_callV0 (d' := d - 1) cv_RX7_157 51 rfl [(2, 16)] [] rfl rfl (Or.inl ⟨_, _, rfl, by decide, rfl, by omega, by omega⟩) (by omega) (Nat.le_of_ble_eq_true rfl) dX7_firstOtherwise_18 rfl (Nat.le_of_ble_eq_true rfl) (by omega) (loc1 := [(2, 51), (2, 16), (9, 0), (9, 0), (9, 0)]) rfl ?_
    refine sp_goT (by omega) (by omega) hT (fun M1 hT1 hF1 => ?_)
    have hR1 := hT1.1
    have hB1 := hB.fr hF1 (by intro i j h; unfold VW VX at h; unfold VS; omega)
    have k1 : M1 S 1 = B s 0 := by have q := (hB1 s hS.1).1; rw [← hS.2] at q; exact q
    have k2 : M1 S 2 = B s 1 := by have q := (hB1 s hS.1).2.1; rw [← hS.2] at q; exact q
    have hfr := fstA_r hT1.2.2.2.1
    refine wp_pop dX7_firstOtherwise_21 (Or.inl rfl) ?_
    refine wp_aload_n dX7_firstOtherwise_22 rfl rfl ?_
    refine wp_iload_n dX7_firstOtherwise_23 rfl rfl ?_
    refine wp_callV0 (d' := d - 1) cv_RX7_244 S rfl [(0, (p : Int))] [] rfl rfl (Or.inl ⟨_, _, hS.k0, by decide, rfl, by omega, by omega⟩) (by omega) (Nat.le_of_ble_eq_true rfl) dX7_firstOtherwise_24 rfl (Nat.le_of_ble_eq_true rfl) (by omega) (loc1 := [(2, (S : Int)), (0, (p : Int))]) rfl ?_
    refine sp_itemS hS hn hR1 (by omega) (p : Int) (fun _ => ?_) (fun h => absurd (by omega) h)
    rw [show M1 (S + 1) ((p : Int)).toNat = B s (2 + p) by rw [hS.2]; exact (hB1 s hS.1).2.2 p (by omega)]
    refine wp_aload_n dX7_firstOtherwise_27 rfl rfl ?_
    refine wp_get 1 rfl fl_RX7_19 rfl ⟨by omega, by omega⟩ dX7_firstOtherwise_28 rfl (v := 16) (sr_1_2 (M := M1) hR1) ?_
    refine wp_iconst dX7_firstOtherwise_31 (by decide) ?_
    refine wp_callV0 (d' := d - 1) cv_RX7_142 16 rfl [(0, 0)] [(0, (B s (2 + p)))] rfl rfl (Or.inl ⟨_, _, rfl, by decide, rfl, by omega, by omega⟩) (by omega) (Nat.le_of_ble_eq_true rfl) dX7_firstOtherwise_32 rfl (Nat.le_of_ble_eq_true rfl) (by omega) (loc1 := [(2, 16), (0, 0)]) rfl ?_
    refine sp_fstT (by omega) hT1 ?_
    refine wp_icmp_eq (tgt := 40) dX7_firstOtherwise_35 (by decide) (fun h35 => ?_) (fun h35 => ?_)
    · refine wp_iinc (loc' := [(2, 1), (2, (S : Int)), (0, ((p : Int) + 1))]) dX7_firstOtherwise_40 rfl (by omega) rfl ?_
      refine wp_goto (tgt := 2) dX7_firstOtherwise_43 (by decide) ?_
      have e : ftA E (fun i => B s (2 + i)) (m + 1) p A = ftA E (fun i => B s (2 + i)) m (p + 1) (tickA E A).1 := if_pos h35
      rw [e] at k
      exact ih (p + 1) _ M1 Q (by omega) hT1 hB1 (fun M2 a1 a2 => k M2 (hF1.tr a1) a2)
    · refine wp_iload_n dX7_firstOtherwise_38 rfl rfl ?_
      refine wp_iret rfl dX7_firstOtherwise_39 ?_
      have e : ftA E (fun i => B s (2 + i)) (m + 1) p A = (p : Int) := if_neg h35
      rw [← e]
      exact k M1 hF1 hR1
set_option maxRecDepth 20000 in
set_option maxHeartbeats 4000000 in
theorem sp_fo  {l : Launch} {g : Gw} {d n : Nat} {M : Mm} {Q : Option Wd → Mm → Prop} {E : Ev} {S s : Nat} (hS : isS S s) (hn : 90 ≤ n) (hd : 8 ≤ d) {A : Ls} (hT : TJ M A E) {B : Mm} (hB : Rs M B) (hV : Ws B) (k : ∀ M', Fr VW M M' → SR M' → Q (some (0, ftA E (fun i => B s (2 + i)) (B s 1).toNat 0 A)) M') : Wp l g d 0 0 n m_X7_firstOtherwise 0 [] [(2, 1), (2, (S : Int)), (9, 0)] M Q := by
  have hb := hS.b
  have hR := hT.1
  have g3 := hV.r hS.1
  refine wp_iconst dX7_firstOtherwise_0 (by decide) ?_
  refine wp_istore_n (loc' := [(2, 1), (2, (S : Int)), (0, 0)]) dX7_firstOtherwise_1 rfl (Nat.le_of_ble_eq_true rfl) rfl ?_
  exact lp_fo hS hn hd hV (N := (B s 1).toNat) (by omega) (B s 1).toNat 0 A M Q (by omega) hT hB k
