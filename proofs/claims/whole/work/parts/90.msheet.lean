/-! ===== the model: sheets ===== -/
def Rms (M B : Mm) : Prop := ∀ s : Nat, s < 4 → M 87 s = (if B s 0 = -1 then 0 else 1) ∧ (B s 0 ≠ -1 → M 88 s = B s 0 ∧ M 89 s = B s 1 ∧ ∀ i : Nat, (i : Int) < B s 1 → M 90 (40 * s + i) = B s (2 + i))
def VMh (i j : Nat) : Prop := 87 ≤ i ∧ i ≤ 90
theorem VMh.sr {M M' : Mm} (h : Fr VMh M M') (hR : SR M) : SR M' := hR.frL h (by unfold VMh; decide +kernel)
theorem VMh.n : ∀ i j, VMh i j → VMn i j := by
  intro i j h
  unfold VMh at h
  unfold VMn
  omega
theorem Rms.fr {M M' B : Mm} {V : Nat → Nat → Prop} (h : Rms M B) (f : Fr V M M') (hv : ∀ i j, V i j → ¬ VMh i j) : Rms M' B := by
  have e : ∀ i j, VMh i j → M' i j = M i j := fun i j q => f i j (fun c => hv i j c q)
  intro s hs
  obtain ⟨a, b⟩ := h s hs
  refine ⟨(e 87 s (by unfold VMh; omega)).trans a, fun c => ?_⟩
  obtain ⟨b1, b2, b3⟩ := b c
  exact ⟨(e 88 s (by unfold VMh; omega)).trans b1, (e 89 s (by unfold VMh; omega)).trans b2, fun i hi => (e 90 _ (by unfold VMh; omega)).trans (b3 i hi)⟩
theorem VMt.nh : ∀ i j, VMt i j → ¬ VMh i j := by
  intro i j h
  unfold VMt VMl VMs VMw at h
  unfold VMh
  omega
theorem VMl.nh : ∀ i j, VMl i j → ¬ VMh i j := fun i j h => VMt.nh i j (Or.inl h)
set_option maxRecDepth 20000 in
set_option maxHeartbeats 4000000 in
theorem sp_isSh {l : Launch} {g : Gw} {d n : Nat} {M : Mm} {Q : Option Wd → Mm → Prop} (hd : 1 ≤ d) (x : Int) (kt : 0 ≤ x ∧ x < 4 → Q (some (0, 1)) M) (kf : ¬ (0 ≤ x ∧ x < 4) → Q (some (0, 0)) M) : Wp l g d 0 0 n m_X8_isSheet 0 [] [(0, x)] M Q := by
  refine wp_iload_n dX8_isSheet_0 rfl rfl ?_
  refine wp_i2l dX8_isSheet_1 ?_
  refine wp_lconst (v := 0) dX8_isSheet_2 (by decide) (by decide) ?_
  refine wp_ldc2 (x := 3) dX8_isSheet_3 kl_RX8_468 (by decide) (wr_l (by omega)) ?_
  refine wp_callS0 (d' := d - 1) cs_RX8_91 [(1, x), (1, 0), (1, 3)] [] rfl rfl (Nat.le_of_ble_eq_true rfl) dX8_isSheet_6 rfl (Nat.le_of_ble_eq_true rfl) (by omega) (loc1 := [(1, x), (9, 0), (1, 0), (9, 0), (1, 3), (9, 0)]) rfl ?_
  refine sp_in x 0 3 (fun i0 => ?_) (fun i0 => ?_)
  · refine wp_zret rfl (by omega) dX8_isSheet_9 ?_
    exact kt (by omega)
  · refine wp_zret rfl (by omega) dX8_isSheet_9 ?_
    exact kf (by omega)
def V90 (s i j : Nat) : Prop := i = 90 ∧ 40 * s ≤ j ∧ j < 40 * s + 40
theorem V90.h {s : Nat} : ∀ i j, V90 s i j → VMh i j := by
  intro i j h
  unfold V90 at h
  unfold VMh
  omega
def V90i (s a i j : Nat) : Prop := i = 90 ∧ 40 * s + a ≤ j ∧ j < 40 * s + 40
theorem V90i.v {s a : Nat} : ∀ i j, V90i s a i j → V90 s i j := by
  intro i j h
  unfold V90i at h
  unfold V90
  omega
theorem V90i.n {s a : Nat} : ∀ i j, V90i s (a + 1) i j → V90i s a i j := by
  intro i j h
  unfold V90i at h ⊢
  omega
set_option maxRecDepth 20000 in
set_option maxHeartbeats 4000000 in
theorem lp_shm  {l : Launch} {g : Gw} {d n : Nat} (hn : 90 ≤ n) {s N : Nat} (hs : s < 4) (hN : N ≤ 40) {y : Int} (hy : 0 ≤ y) : ∀ (m i : Nat) (M : Mm) (Q : Option Wd → Mm → Prop), i + m = N → SR M → (∀ M', Fr (V90i s i) M M' → (∀ j, i ≤ j → j < N → M' 90 (40 * s + j) = 0) → Q (some (0, 1)) M') → Wp l g d 0 0 n m_X8_sheet 77 [] [(2, 69), (0, (s : Int)), (0, y), (0, (N : Int)), (0, (i : Int))] M Q := by
  intro m
  induction m with
  | zero =>
    intro i M Q hi hR k
    refine wp_iload dX8_sheet_77 rfl ?_
    refine wp_iload_n dX8_sheet_79 rfl rfl ?_
    refine wp_icmp_ge (tgt := 106) dX8_sheet_80 (by decide) (fun _ => ?_) (fun h => absurd h (by omega))
    refine wp_iconst dX8_sheet_106 (by decide) ?_
    refine wp_iret rfl dX8_sheet_107 ?_
    exact k M Fr.rf (fun j a b => by omega)
  | succ m ih =>
    intro i M Q hi hR k
    refine wp_iload dX8_sheet_77 rfl ?_
    refine wp_iload_n dX8_sheet_79 rfl rfl ?_
    refine wp_icmp_ge (tgt := 106) dX8_sheet_80 (by decide) (fun h => absurd h (by omega)) (fun _ => ?_)
    refine wp_iload_n dX8_sheet_83 rfl rfl ?_
    refine wp_if_lt (tgt := 106) dX8_sheet_84 (by decide) (fun h => absurd h (by omega)) (fun _ => ?_)
    refine wp_aload_n dX8_sheet_87 rfl rfl ?_
    refine wp_get 69 rfl fl_RX8_78 rfl ⟨by omega, by omega⟩ dX8_sheet_88 rfl (v := 90) (sr_69_52 (M := M) hR) ?_
    refine wp_bipush dX8_sheet_91 (by decide) (by decide) ?_
    refine wp_iload_n dX8_sheet_93 rfl rfl ?_
    refine wp_imul dX8_sheet_94 (by omega) ?_
    refine wp_iload dX8_sheet_95 rfl ?_
    refine wp_iadd dX8_sheet_97 (by omega) ?_
    refine wp_iconst dX8_sheet_98 (by decide) ?_
    refine wp_iast 90 rfl rfl ⟨by omega, by omega⟩ ⟨by omega, by omega⟩ dX8_sheet_99 (jn := (40 * s + i)) (by omega) ?_
    refine wp_iinc (loc' := [(2, 69), (0, (s : Int)), (0, y), (0, (N : Int)), (0, ((i : Int) + 1))]) dX8_sheet_100 rfl (by omega) rfl ?_
    refine wp_goto (tgt := 77) dX8_sheet_103 (by decide) ?_
    have f1 : Fr (V90i s i) M (mu M 90 (40 * s + i) 0) := Fr.rf.put ⟨rfl, by omega, by omega⟩
    refine ih (i + 1) _ Q (by omega) (VMh.sr ((f1.mono V90i.v).mono V90.h) hR) (fun M2 f2 a2 => k M2 (f1.tr (f2.mono V90i.n)) (fun j a b => ?_))
    by_cases q : j = i
    · subst q
      exact (f2 90 _ (by unfold V90i; omega)).trans (mu_self _ _ _ _)
    · exact a2 j (by omega) b
theorem Rms.lay {M M' B : Mm} (h : Rms M B) {s : Nat} (hs : s < 4) {x n : Int} (f : Fr VMh M M') (h1 : M' 87 s = if x = -1 then 0 else 1) (h2 : x ≠ -1 → M' 88 s = x ∧ M' 89 s = n ∧ ∀ i : Nat, (i : Int) < n → M' 90 (40 * s + i) = 0) (ho : ∀ t j, t ≠ s → M' 87 t = M 87 t ∧ M' 88 t = M 88 t ∧ M' 89 t = M 89 t ∧ (t < 4 → j < 40 → M' 90 (40 * t + j) = M 90 (40 * t + j))) (hV : Ws B) {n' : Int} (hn' : x ≠ -1 → n' = n) : Rms M' (layB B s x n') := by
  intro t ht
  unfold layB
  by_cases c : t = s
  · subst c
    rw [if_pos rfl, if_pos rfl]
    refine ⟨h1, fun hx => ?_⟩
    obtain ⟨a, b, d⟩ := h2 hx
    have e := hn' hx
    subst e
    rw [if_pos rfl, if_neg (by decide), if_pos rfl]
    refine ⟨a, b, fun i hi => ?_⟩
    rw [if_pos rfl, if_neg (by omega), if_neg (by omega)]
    exact d i hi
  · rw [if_neg c]
    obtain ⟨a, b⟩ := h t ht
    have e := ho t 0 c
    refine ⟨e.1.trans a, fun hx => ?_⟩
    obtain ⟨b1, b2, b3⟩ := b hx
    rw [if_neg c]
    refine ⟨e.2.1.trans b1, e.2.2.1.trans b2, fun i hi => ?_⟩
    rw [if_neg c]
    have hv := hV.r ht
    exact ((ho t i c).2.2.2 ht (by omega)).trans (b3 i hi)
set_option maxRecDepth 20000 in
set_option maxHeartbeats 4000000 in
theorem sheet_neg {l : Launch} {g : Gw} {d n : Nat} {M : Mm} {Q : Option Wd → Mm → Prop} (hn : 90 ≤ n) (hd : 70 ≤ d) (hR : SR M) {s : Nat} {y z : Int} (hs : s < 4) (hy : y < -1) (kB : ¬ (0 ≤ (s : Int) ∧ (s : Int) < 4 ∧ -1 ≤ y ∧ y ≤ 2 ∧ (y = -1 ∨ z ≤ 40)) → Q (some (0, -2)) M) : Wp l g d 0 0 n m_X8_sheet 0 [] [(2, 69), (0, (s : Int)), (0, y), (0, z), (9, 0)] M Q := by
  refine wp_iload_n dX8_sheet_0 rfl rfl ?_
  refine wp_callS0 (d' := d - 1) cs_RX8_439 [(0, (s : Int))] [] rfl rfl (Nat.le_of_ble_eq_true rfl) dX8_sheet_1 rfl (Nat.le_of_ble_eq_true rfl) (by omega) (loc1 := [(0, (s : Int))]) rfl ?_
  refine sp_isSh (by omega) (s : Int) (fun s1 => ?_) (fun s1 => ?_)
  · refine wp_if_eq (tgt := 31) dX8_sheet_4 (by decide) (fun h => absurd h (by decide)) (fun _ => ?_)
    refine wp_iload_n dX8_sheet_7 rfl rfl ?_
    refine wp_i2l dX8_sheet_8 ?_
    refine wp_ldc2 (x := -1) dX8_sheet_9 kl_RX8_470 (by decide) (wr_l (by omega)) ?_
    refine wp_ldc2 (x := 2) dX8_sheet_12 kl_RX8_419 (by decide) (wr_l (by omega)) ?_
    refine wp_callS0 (d' := d - 1) cs_RX8_91 [(1, y), (1, (-1)), (1, 2)] [] rfl rfl (Nat.le_of_ble_eq_true rfl) dX8_sheet_15 rfl (Nat.le_of_ble_eq_true rfl) (by omega) (loc1 := [(1, y), (9, 0), (1, (-1)), (9, 0), (1, 2), (9, 0)]) rfl ?_
    refine sp_in y (-1) 2 (fun h => absurd h (by omega)) (fun _ => ?_)
    refine wp_if_eq (tgt := 31) dX8_sheet_18 (by decide) (fun _ => ?_) (fun h => absurd h (by decide))
    refine wp_bipush dX8_sheet_31 (by decide) (by decide) ?_
    refine wp_iret rfl dX8_sheet_33 ?_
    exact kB (by omega)
  · refine wp_if_eq (tgt := 31) dX8_sheet_4 (by decide) (fun _ => ?_) (fun h => absurd h (by decide))
    refine wp_bipush dX8_sheet_31 (by decide) (by decide) ?_
    refine wp_iret rfl dX8_sheet_33 ?_
    exact kB (by omega)
set_option maxRecDepth 20000 in
set_option maxHeartbeats 4000000 in
theorem cm_sheet {l : Launch} {g : Gw} {d n : Nat} {M : Mm} {Q : Option Wd → Mm → Prop} (hn : 90 ≤ n) (hd : 70 ≤ d) (hR : SR M) {B : Mm} (hB : Rms M B) (hV : Ws B) {x y z : Int} (kB : ¬ (0 ≤ x ∧ x < 4 ∧ -1 ≤ y ∧ y ≤ 2 ∧ (y = -1 ∨ z ≤ 40)) → Q (some (0, -2)) M) (kW : (0 ≤ x ∧ x < 4 ∧ 0 ≤ y ∧ y ≤ 2 ∧ z < 0) → Q (some (0, -14)) M) (kM : (0 ≤ x ∧ x < 4 ∧ y = -1) → ∀ M', Rms M' (layB B x.toNat y 0) → Fr VMh M M' → Q (some (0, 1)) M') (k : (0 ≤ x ∧ x < 4 ∧ 0 ≤ y ∧ y ≤ 2 ∧ 0 ≤ z ∧ z ≤ 40) → ∀ M', Rms M' (layB B x.toNat y z) → Fr VMh M M' → Q (some (0, 1)) M') : Wp l g d 0 0 n m_X8_sheet 0 [] [(2, 69), (0, x), (0, y), (0, z), (9, 0)] M Q := by
  by_cases hx : 0 ≤ x ∧ x < 4
  · obtain ⟨s, rfl⟩ := Int.eq_ofNat_of_zero_le hx.1
    have hs : s < 4 := by omega
    by_cases hy : y = -1
    · subst hy
      refine wp_iload_n dX8_sheet_0 rfl rfl ?_
      refine wp_callS0 (d' := d - 1) cs_RX8_439 [(0, (s : Int))] [] rfl rfl (Nat.le_of_ble_eq_true rfl) dX8_sheet_1 rfl (Nat.le_of_ble_eq_true rfl) (by omega) (loc1 := [(0, (s : Int))]) rfl ?_
      refine sp_isSh (by omega) (s : Int) (fun s1 => ?_) (fun s1 => ?_)
      · refine wp_if_eq (tgt := 31) dX8_sheet_4 (by decide) (fun h => absurd h (by decide)) (fun _ => ?_)
        refine wp_iload_n dX8_sheet_7 rfl rfl ?_
        refine wp_i2l dX8_sheet_8 ?_
        refine wp_ldc2 (x := -1) dX8_sheet_9 kl_RX8_470 (by decide) (wr_l (by omega)) ?_
        refine wp_ldc2 (x := 2) dX8_sheet_12 kl_RX8_419 (by decide) (wr_l (by omega)) ?_
        refine wp_callS0 (d' := d - 1) cs_RX8_91 [(1, (-1)), (1, (-1)), (1, 2)] [] rfl rfl (Nat.le_of_ble_eq_true rfl) dX8_sheet_15 rfl (Nat.le_of_ble_eq_true rfl) (by omega) (loc1 := [(1, (-1)), (9, 0), (1, (-1)), (9, 0), (1, 2), (9, 0)]) rfl ?_
        refine sp_in (-1) (-1) 2 (fun _ => ?_) (fun h => absurd (by decide) h)
        refine wp_if_eq (tgt := 31) dX8_sheet_18 (by decide) (fun h => absurd h (by decide)) (fun _ => ?_)
        refine wp_iload_n dX8_sheet_21 rfl rfl ?_
        refine wp_if_lt (tgt := 34) dX8_sheet_22 (by decide) (fun _ => ?_) (fun h => absurd h (by decide))
        refine wp_iload_n dX8_sheet_34 rfl rfl ?_
        refine wp_if_lt (tgt := 45) dX8_sheet_35 (by decide) (fun _ => ?_) (fun h => absurd h (by decide))
        refine wp_aload_n dX8_sheet_45 rfl rfl ?_
        refine wp_get 69 rfl fl_RX8_69 rfl ⟨by omega, by omega⟩ dX8_sheet_46 rfl (v := 87) (sr_69_49 (M := M) hR) ?_
        refine wp_iload_n dX8_sheet_49 rfl rfl ?_
        refine wp_iload_n dX8_sheet_50 rfl rfl ?_
        refine wp_if_lt (tgt := 58) dX8_sheet_51 (by decide) (fun _ => ?_) (fun h => absurd h (by decide))
        refine wp_iconst dX8_sheet_58 (by decide) ?_
        refine wp_zast 87 rfl rfl ⟨by omega, by omega⟩ ⟨by omega, by omega⟩ (by omega) dX8_sheet_59 (jn := s) rfl ?_
        refine wp_aload_n dX8_sheet_60 rfl rfl ?_
        refine wp_get 69 rfl fl_RX8_72 rfl ⟨by omega, by omega⟩ dX8_sheet_61 rfl (v := 88) (sr_69_50 (M := M) hR) ?_
        refine wp_iload_n dX8_sheet_64 rfl rfl ?_
        refine wp_iload_n dX8_sheet_65 rfl rfl ?_
        refine wp_iast 88 rfl rfl ⟨by omega, by omega⟩ ⟨by omega, by omega⟩ dX8_sheet_66 (jn := s) rfl ?_
        refine wp_aload_n dX8_sheet_67 rfl rfl ?_
        refine wp_get 69 rfl fl_RX8_75 rfl ⟨by omega, by omega⟩ dX8_sheet_68 rfl (v := 89) (sr_69_51 (M := M) hR) ?_
        refine wp_iload_n dX8_sheet_71 rfl rfl ?_
        refine wp_iload_n dX8_sheet_72 rfl rfl ?_
        refine wp_iast 89 rfl rfl ⟨by omega, by omega⟩ ⟨by omega, by omega⟩ dX8_sheet_73 (jn := s) rfl ?_
        refine wp_iconst dX8_sheet_74 (by decide) ?_
        refine wp_istore (loc' := [(2, 69), (0, (s : Int)), (0, (-1)), (0, z), (0, 0)]) dX8_sheet_75 (Nat.le_of_ble_eq_true rfl) rfl ?_
        refine wp_iload dX8_sheet_77 rfl ?_
        refine wp_iload_n dX8_sheet_79 rfl rfl ?_
        refine wp_icmp_ge (tgt := 106) dX8_sheet_80 (by decide) (fun h80 => ?_) (fun h80 => ?_)
        · refine wp_iconst dX8_sheet_106 (by decide) ?_
          refine wp_iret rfl dX8_sheet_107 ?_
          have f1 : Fr VMh M (mu (mu (mu M 87 s 0) 88 s (-1)) 89 s z) := ((((Fr.rf : Fr VMh M M).put (by unfold VMh; omega)).put (by unfold VMh; omega)).put (by unfold VMh; omega))
          refine kM (by omega) _ (hB.lay (n := z) hs f1 ?_ (fun c => absurd rfl c) (fun t j c => ⟨?_, ?_, ?_, fun h4 hj => rfl⟩) hV (fun c => absurd rfl c)) f1
          · rw [if_pos rfl]
            exact (mu_ne _ _ _ (by omega) _).trans ((mu_ne _ _ _ (by omega) _).trans (mu_self _ _ _ _))
          · exact (mu_ne _ _ _ (by omega) _).trans ((mu_ne _ _ _ (by omega) _).trans (mu_nj _ _ _ c))
          · exact (mu_ne _ _ _ (by omega) _).trans ((mu_nj _ _ _ c).trans (mu_ne _ _ _ (by omega) _))
          · exact (mu_nj _ _ _ c).trans ((mu_ne _ _ _ (by omega) _).trans (mu_ne _ _ _ (by omega) _))
        · refine wp_iload_n dX8_sheet_83 rfl rfl ?_
          refine wp_if_lt (tgt := 106) dX8_sheet_84 (by decide) (fun _ => ?_) (fun h => absurd h (by decide))
          refine wp_iconst dX8_sheet_106 (by decide) ?_
          refine wp_iret rfl dX8_sheet_107 ?_
          have f1 : Fr VMh M (mu (mu (mu M 87 s 0) 88 s (-1)) 89 s z) := ((((Fr.rf : Fr VMh M M).put (by unfold VMh; omega)).put (by unfold VMh; omega)).put (by unfold VMh; omega))
          refine kM (by omega) _ (hB.lay (n := z) hs f1 ?_ (fun c => absurd rfl c) (fun t j c => ⟨?_, ?_, ?_, fun h4 hj => rfl⟩) hV (fun c => absurd rfl c)) f1
          · rw [if_pos rfl]
            exact (mu_ne _ _ _ (by omega) _).trans ((mu_ne _ _ _ (by omega) _).trans (mu_self _ _ _ _))
          · exact (mu_ne _ _ _ (by omega) _).trans ((mu_ne _ _ _ (by omega) _).trans (mu_nj _ _ _ c))
          · exact (mu_ne _ _ _ (by omega) _).trans ((mu_nj _ _ _ c).trans (mu_ne _ _ _ (by omega) _))
          · exact (mu_nj _ _ _ c).trans ((mu_ne _ _ _ (by omega) _).trans (mu_ne _ _ _ (by omega) _))
      · refine wp_if_eq (tgt := 31) dX8_sheet_4 (by decide) (fun _ => ?_) (fun h => absurd h (by decide))
        refine wp_bipush dX8_sheet_31 (by decide) (by decide) ?_
        refine wp_iret rfl dX8_sheet_33 ?_
        exact kB (by omega)
    · by_cases hy2 : 0 ≤ y
      · refine wp_iload_n dX8_sheet_0 rfl rfl ?_
        refine wp_callS0 (d' := d - 1) cs_RX8_439 [(0, (s : Int))] [] rfl rfl (Nat.le_of_ble_eq_true rfl) dX8_sheet_1 rfl (Nat.le_of_ble_eq_true rfl) (by omega) (loc1 := [(0, (s : Int))]) rfl ?_
        refine sp_isSh (by omega) (s : Int) (fun s1 => ?_) (fun s1 => ?_)
        · refine wp_if_eq (tgt := 31) dX8_sheet_4 (by decide) (fun h => absurd h (by decide)) (fun _ => ?_)
          refine wp_iload_n dX8_sheet_7 rfl rfl ?_
          refine wp_i2l dX8_sheet_8 ?_
          refine wp_ldc2 (x := -1) dX8_sheet_9 kl_RX8_470 (by decide) (wr_l (by omega)) ?_
          refine wp_ldc2 (x := 2) dX8_sheet_12 kl_RX8_419 (by decide) (wr_l (by omega)) ?_
          refine wp_callS0 (d' := d - 1) cs_RX8_91 [(1, y), (1, (-1)), (1, 2)] [] rfl rfl (Nat.le_of_ble_eq_true rfl) dX8_sheet_15 rfl (Nat.le_of_ble_eq_true rfl) (by omega) (loc1 := [(1, y), (9, 0), (1, (-1)), (9, 0), (1, 2), (9, 0)]) rfl ?_
          refine sp_in y (-1) 2 (fun i15 => ?_) (fun i15 => ?_)
          · refine wp_if_eq (tgt := 31) dX8_sheet_18 (by decide) (fun h => absurd h (by decide)) (fun _ => ?_)
            refine wp_iload_n dX8_sheet_21 rfl rfl ?_
            refine wp_if_lt (tgt := 34) dX8_sheet_22 (by decide) (fun h22 => ?_) (fun h22 => ?_)
            · refine wp_iload_n dX8_sheet_34 rfl rfl ?_
              refine wp_if_lt (tgt := 45) dX8_sheet_35 (by decide) (fun h => absurd h (by omega)) (fun _ => ?_)
              refine wp_iload_n dX8_sheet_38 rfl rfl ?_
              refine wp_if_ge (tgt := 45) dX8_sheet_39 (by decide) (fun h39 => ?_) (fun h39 => ?_)
              · refine wp_aload_n dX8_sheet_45 rfl rfl ?_
                refine wp_get 69 rfl fl_RX8_69 rfl ⟨by omega, by omega⟩ dX8_sheet_46 rfl (v := 87) (sr_69_49 (M := M) hR) ?_
                refine wp_iload_n dX8_sheet_49 rfl rfl ?_
                refine wp_iload_n dX8_sheet_50 rfl rfl ?_
                refine wp_if_lt (tgt := 58) dX8_sheet_51 (by decide) (fun h => absurd h (by omega)) (fun _ => ?_)
                refine wp_iconst dX8_sheet_54 (by decide) ?_
                refine wp_goto (tgt := 59) dX8_sheet_55 (by decide) ?_
                refine wp_zast 87 rfl rfl ⟨by omega, by omega⟩ ⟨by omega, by omega⟩ (by omega) dX8_sheet_59 (jn := s) rfl ?_
                refine wp_aload_n dX8_sheet_60 rfl rfl ?_
                refine wp_get 69 rfl fl_RX8_72 rfl ⟨by omega, by omega⟩ dX8_sheet_61 rfl (v := 88) (sr_69_50 (M := M) hR) ?_
                refine wp_iload_n dX8_sheet_64 rfl rfl ?_
                refine wp_iload_n dX8_sheet_65 rfl rfl ?_
                refine wp_iast 88 rfl rfl ⟨by omega, by omega⟩ ⟨by omega, by omega⟩ dX8_sheet_66 (jn := s) rfl ?_
                refine wp_aload_n dX8_sheet_67 rfl rfl ?_
                refine wp_get 69 rfl fl_RX8_75 rfl ⟨by omega, by omega⟩ dX8_sheet_68 rfl (v := 89) (sr_69_51 (M := M) hR) ?_
                refine wp_iload_n dX8_sheet_71 rfl rfl ?_
                refine wp_iload_n dX8_sheet_72 rfl rfl ?_
                refine wp_iast 89 rfl rfl ⟨by omega, by omega⟩ ⟨by omega, by omega⟩ dX8_sheet_73 (jn := s) rfl ?_
                refine wp_iconst dX8_sheet_74 (by decide) ?_
                refine wp_istore (loc' := [(2, 69), (0, (s : Int)), (0, y), (0, z), (0, 0)]) dX8_sheet_75 (Nat.le_of_ble_eq_true rfl) rfl ?_
                have f1 : Fr VMh M (mu (mu (mu M 87 s 1) 88 s y) 89 s z) := ((((Fr.rf : Fr VMh M M).put (by unfold VMh; omega)).put (by unfold VMh; omega)).put (by unfold VMh; omega))
                obtain ⟨N, hN⟩ := Int.eq_ofNat_of_zero_le (show 0 ≤ z by omega)
                subst hN
                refine lp_shm hn hs (by omega) (show 0 ≤ y by omega) N 0 _ Q (by omega) (VMh.sr f1 hR) (fun M2 f2 a2 => ?_)
                refine k (by omega) M2 (hB.lay hs (f1.tr ((f2.mono V90i.v).mono V90.h)) ((f2 87 s (by unfold V90i; omega)).trans ?_) (fun _ => ⟨(f2 88 s (by unfold V90i; omega)).trans ?_, (f2 89 s (by unfold V90i; omega)).trans ?_, fun i hi => a2 i (by omega) (by omega)⟩) (fun t j c => ⟨(f2 87 t (by unfold V90i; omega)).trans ?_, (f2 88 t (by unfold V90i; omega)).trans ?_, (f2 89 t (by unfold V90i; omega)).trans ?_, fun h4 hj => (f2 90 _ (by unfold V90i; omega)).trans rfl⟩) hV (fun _ => rfl)) (f1.tr ((f2.mono V90i.v).mono V90.h))
                · rw [if_neg (by omega)]
                  exact (mu_ne _ _ _ (by omega) _).trans ((mu_ne _ _ _ (by omega) _).trans (mu_self _ _ _ _))
                · exact (mu_ne _ _ _ (by omega) _).trans (mu_self _ _ _ _)
                · exact mu_self _ _ _ _
                · exact (mu_ne _ _ _ (by omega) _).trans ((mu_ne _ _ _ (by omega) _).trans (mu_nj _ _ _ c))
                · exact (mu_ne _ _ _ (by omega) _).trans ((mu_nj _ _ _ c).trans (mu_ne _ _ _ (by omega) _))
                · exact (mu_nj _ _ _ c).trans ((mu_ne _ _ _ (by omega) _).trans (mu_ne _ _ _ (by omega) _))
              · refine wp_bipush dX8_sheet_42 (by decide) (by decide) ?_
                refine wp_iret rfl dX8_sheet_44 ?_
                exact kW (by omega)
            · refine wp_iload_n dX8_sheet_25 rfl rfl ?_
              refine wp_bipush dX8_sheet_26 (by decide) (by decide) ?_
              refine wp_icmp_le (tgt := 34) dX8_sheet_28 (by decide) (fun h28 => ?_) (fun h28 => ?_)
              · refine wp_iload_n dX8_sheet_34 rfl rfl ?_
                refine wp_if_lt (tgt := 45) dX8_sheet_35 (by decide) (fun h => absurd h (by omega)) (fun _ => ?_)
                refine wp_iload_n dX8_sheet_38 rfl rfl ?_
                refine wp_if_ge (tgt := 45) dX8_sheet_39 (by decide) (fun h39 => ?_) (fun h39 => ?_)
                · refine wp_aload_n dX8_sheet_45 rfl rfl ?_
                  refine wp_get 69 rfl fl_RX8_69 rfl ⟨by omega, by omega⟩ dX8_sheet_46 rfl (v := 87) (sr_69_49 (M := M) hR) ?_
                  refine wp_iload_n dX8_sheet_49 rfl rfl ?_
                  refine wp_iload_n dX8_sheet_50 rfl rfl ?_
                  refine wp_if_lt (tgt := 58) dX8_sheet_51 (by decide) (fun h => absurd h (by omega)) (fun _ => ?_)
                  refine wp_iconst dX8_sheet_54 (by decide) ?_
                  refine wp_goto (tgt := 59) dX8_sheet_55 (by decide) ?_
                  refine wp_zast 87 rfl rfl ⟨by omega, by omega⟩ ⟨by omega, by omega⟩ (by omega) dX8_sheet_59 (jn := s) rfl ?_
                  refine wp_aload_n dX8_sheet_60 rfl rfl ?_
                  refine wp_get 69 rfl fl_RX8_72 rfl ⟨by omega, by omega⟩ dX8_sheet_61 rfl (v := 88) (sr_69_50 (M := M) hR) ?_
                  refine wp_iload_n dX8_sheet_64 rfl rfl ?_
                  refine wp_iload_n dX8_sheet_65 rfl rfl ?_
                  refine wp_iast 88 rfl rfl ⟨by omega, by omega⟩ ⟨by omega, by omega⟩ dX8_sheet_66 (jn := s) rfl ?_
                  refine wp_aload_n dX8_sheet_67 rfl rfl ?_
                  refine wp_get 69 rfl fl_RX8_75 rfl ⟨by omega, by omega⟩ dX8_sheet_68 rfl (v := 89) (sr_69_51 (M := M) hR) ?_
                  refine wp_iload_n dX8_sheet_71 rfl rfl ?_
                  refine wp_iload_n dX8_sheet_72 rfl rfl ?_
                  refine wp_iast 89 rfl rfl ⟨by omega, by omega⟩ ⟨by omega, by omega⟩ dX8_sheet_73 (jn := s) rfl ?_
                  refine wp_iconst dX8_sheet_74 (by decide) ?_
                  refine wp_istore (loc' := [(2, 69), (0, (s : Int)), (0, y), (0, z), (0, 0)]) dX8_sheet_75 (Nat.le_of_ble_eq_true rfl) rfl ?_
                  have f1 : Fr VMh M (mu (mu (mu M 87 s 1) 88 s y) 89 s z) := ((((Fr.rf : Fr VMh M M).put (by unfold VMh; omega)).put (by unfold VMh; omega)).put (by unfold VMh; omega))
                  obtain ⟨N, hN⟩ := Int.eq_ofNat_of_zero_le (show 0 ≤ z by omega)
                  subst hN
                  refine lp_shm hn hs (by omega) (show 0 ≤ y by omega) N 0 _ Q (by omega) (VMh.sr f1 hR) (fun M2 f2 a2 => ?_)
                  refine k (by omega) M2 (hB.lay hs (f1.tr ((f2.mono V90i.v).mono V90.h)) ((f2 87 s (by unfold V90i; omega)).trans ?_) (fun _ => ⟨(f2 88 s (by unfold V90i; omega)).trans ?_, (f2 89 s (by unfold V90i; omega)).trans ?_, fun i hi => a2 i (by omega) (by omega)⟩) (fun t j c => ⟨(f2 87 t (by unfold V90i; omega)).trans ?_, (f2 88 t (by unfold V90i; omega)).trans ?_, (f2 89 t (by unfold V90i; omega)).trans ?_, fun h4 hj => (f2 90 _ (by unfold V90i; omega)).trans rfl⟩) hV (fun _ => rfl)) (f1.tr ((f2.mono V90i.v).mono V90.h))
                  · rw [if_neg (by omega)]
                    exact (mu_ne _ _ _ (by omega) _).trans ((mu_ne _ _ _ (by omega) _).trans (mu_self _ _ _ _))
                  · exact (mu_ne _ _ _ (by omega) _).trans (mu_self _ _ _ _)
                  · exact mu_self _ _ _ _
                  · exact (mu_ne _ _ _ (by omega) _).trans ((mu_ne _ _ _ (by omega) _).trans (mu_nj _ _ _ c))
                  · exact (mu_ne _ _ _ (by omega) _).trans ((mu_nj _ _ _ c).trans (mu_ne _ _ _ (by omega) _))
                  · exact (mu_nj _ _ _ c).trans ((mu_ne _ _ _ (by omega) _).trans (mu_ne _ _ _ (by omega) _))
                · refine wp_bipush dX8_sheet_42 (by decide) (by decide) ?_
                  refine wp_iret rfl dX8_sheet_44 ?_
                  exact kW (by omega)
              · refine wp_bipush dX8_sheet_31 (by decide) (by decide) ?_
                refine wp_iret rfl dX8_sheet_33 ?_
                exact kB (by omega)
          · refine wp_if_eq (tgt := 31) dX8_sheet_18 (by decide) (fun _ => ?_) (fun h => absurd h (by decide))
            refine wp_bipush dX8_sheet_31 (by decide) (by decide) ?_
            refine wp_iret rfl dX8_sheet_33 ?_
            exact kB (by omega)
        · refine wp_if_eq (tgt := 31) dX8_sheet_4 (by decide) (fun _ => ?_) (fun h => absurd h (by decide))
          refine wp_bipush dX8_sheet_31 (by decide) (by decide) ?_
          refine wp_iret rfl dX8_sheet_33 ?_
          exact kB (by omega)
      · refine sheet_neg hn hd hR hs (by omega) kB
  · refine wp_iload_n dX8_sheet_0 rfl rfl ?_
    refine wp_callS0 (d' := d - 1) cs_RX8_439 [(0, x)] [] rfl rfl (Nat.le_of_ble_eq_true rfl) dX8_sheet_1 rfl (Nat.le_of_ble_eq_true rfl) (by omega) (loc1 := [(0, x)]) rfl ?_
    refine sp_isSh (by omega) x (fun h => absurd h hx) (fun _ => ?_)
    refine wp_if_eq (tgt := 31) dX8_sheet_4 (by decide) (fun _ => ?_) (fun h => absurd h (by decide))
    refine wp_bipush dX8_sheet_31 (by decide) (by decide) ?_
    refine wp_iret rfl dX8_sheet_33 ?_
    exact kB (by omega)
