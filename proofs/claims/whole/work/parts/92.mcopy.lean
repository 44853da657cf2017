/-! ===== the model: copy, film, image, back ===== -/
theorem mcp_up {M : Mm} {s t k : Nat} : mu (mcp M 90 s 90 t k) 90 (t + k) (M 90 (s + k)) = mcp M 90 s 90 t (k + 1) := by
  funext a b
  unfold mcp mu
  dsimp only
  by_cases ha : a = 90
  · subst ha
    rw [if_pos rfl, if_pos rfl, if_pos rfl]
    by_cases hb : b = t + k
    · subst hb
      rw [if_pos rfl, if_pos (by omega), show t + k - t = k by omega]
    · rw [if_neg hb]
      by_cases hc : t ≤ b ∧ b < t + k
      · rw [if_pos hc, if_pos (by omega)]
      · rw [if_neg hc, if_neg (by omega)]
  · rw [if_neg ha, if_neg ha, if_neg ha]
theorem mcp_dn {M : Mm} {s t k : Nat} : mu (mcp M 90 (s + 1) 90 (t + 1) k) 90 t (M 90 s) = mcp M 90 s 90 t (k + 1) := by
  funext a b
  unfold mcp mu
  dsimp only
  by_cases ha : a = 90
  · subst ha
    rw [if_pos rfl, if_pos rfl, if_pos rfl]
    by_cases hb : b = t
    · subst hb
      rw [if_pos rfl, if_pos (by omega), show s + (b - b) = s by omega]
    · rw [if_neg hb]
      by_cases hc : t + 1 ≤ b ∧ b < t + 1 + k
      · rw [if_pos hc, if_pos (by omega), show s + 1 + (b - (t + 1)) = s + (b - t) by omega]
      · rw [if_neg hc, if_neg (by omega)]
  · rw [if_neg ha, if_neg ha, if_neg ha]
theorem mcp_0 {M : Mm} {s t : Nat} : mcp M 90 s 90 t 0 = M := by
  funext a b
  unfold mcp
  split
  · rw [if_neg (by omega)]
  · rfl
theorem mcp_at {M : Mm} {s t k b : Nat} (h : ¬ (t ≤ b ∧ b < t + k)) : mcp M 90 s 90 t k 90 b = M 90 b := by
  unfold mcp
  rw [if_pos rfl, if_neg h]
theorem mcp_o {M : Mm} {s t k a b : Nat} (h : a ≠ 90) : mcp M 90 s 90 t k a b = M a b := if_neg h
theorem mcp_fr {M : Mm} {s t k : Nat} : Fr VMh M (mcp M 90 s 90 t k) := fun i j h => mcp_o (by unfold VMh at h; omega)
theorem Rms.cpy {M B : Mm} (h : Rms M B) (hV : Ws B) {s t a b N : Nat} (hs : s < 4) (ht : t < 4) (h1 : B s 0 ≠ -1) (ha : ((a + N : Nat) : Int) ≤ B s 1) (hb : ((b + N : Nat) : Int) ≤ B t 1) : Rms (mcp M 90 (40 * s + a) 90 (40 * t + b) N) (mcp B s (2 + a) t (2 + b) N) := by
  intro u hu
  have e0 : ∀ j, j < 2 → mcp B s (2 + a) t (2 + b) N u j = B u j := by
    intro j hj
    unfold mcp
    split
    · rw [if_neg (by omega)]
    · rfl
  rw [e0 0 (by omega), e0 1 (by omega), mcp_o (by omega)]
  obtain ⟨x, y⟩ := h u hu
  refine ⟨x, fun c => ?_⟩
  obtain ⟨y1, y2, y3⟩ := y c
  rw [mcp_o (by omega), mcp_o (by omega)]
  have hvu := hV.r hu
  have hvs := hV.r hs
  have hvt := hV.r ht
  refine ⟨y1, y2, fun i hi => ?_⟩
  unfold mcp
  rw [if_pos rfl]
  by_cases e : u = t
  · subst e
    rw [if_pos rfl]
    by_cases q : b ≤ i ∧ i < b + N
    · rw [if_pos (by omega), if_pos (by omega), show 40 * s + a + (40 * u + i - (40 * u + b)) = 40 * s + (a + (i - b)) by omega, show 2 + a + (2 + i - (2 + b)) = 2 + (a + (i - b)) by omega]
      exact ((h s hs).2 h1).2.2 (a + (i - b)) (by omega)
    · rw [if_neg (by omega), if_neg (by omega)]
      exact y3 i hi
  · rw [if_neg e, if_neg (by omega)]
    exact y3 i hi
set_option maxRecDepth 20000 in
set_option maxHeartbeats 4000000 in
theorem lp_cpu  {l : Launch} {g : Gw} {d n : Nat} {M : Mm} {Q : Option Wd → Mm → Prop} (hn : 90 ≤ n) {s t a b N : Nat} (hs : s < 4) (ht : t < 4) (ha : a + N ≤ 40) (hb : b + N ≤ 40) (hov : ¬ (s = t ∧ a < b)) (hR0 : SR M) (kk : Q (some (0, (N : Int))) (mcp M 90 (40 * s + a) 90 (40 * t + b) N)) : ∀ (m k : Nat) (u8 : Wd), k + m = N → Wp l g d 0 0 n m_X8_copy 121 [] [(2, 69), (0, (s : Int)), (0, (a : Int)), (0, (t : Int)), (0, (b : Int)), (0, (N : Int)), (0, 0), (0, (k : Int)), u8] (mcp M 90 (40 * s + a) 90 (40 * t + b) k) Q := by
  intro m
  induction m with
  | zero =>
    intro k u8 hk
    have hR := VMh.sr (mcp_fr (M := M) (s := (40 * s + a)) (t := (40 * t + b)) (k := k)) hR0
    refine wp_iload dX8_copy_121 rfl ?_
    refine wp_iload dX8_copy_123 rfl ?_
    refine wp_icmp_ge (tgt := 182) dX8_copy_125 (by decide) (fun _ => ?_) (fun h => absurd h (by omega))
    refine wp_iload dX8_copy_182 rfl ?_
    refine wp_iret rfl dX8_copy_184 ?_
    have e : k = N := by omega
    subst e
    exact kk
  | succ m ih =>
    intro k u8 hk
    have hR := VMh.sr (mcp_fr (M := M) (s := (40 * s + a)) (t := (40 * t + b)) (k := k)) hR0
    refine wp_iload dX8_copy_121 rfl ?_
    refine wp_iload dX8_copy_123 rfl ?_
    refine wp_icmp_ge (tgt := 182) dX8_copy_125 (by decide) (fun h => absurd h (by omega)) (fun _ => ?_)
    refine wp_iload dX8_copy_128 rfl ?_
    refine wp_if_eq (tgt := 143) dX8_copy_130 (by decide) (fun _ => ?_) (fun h => absurd h (by decide))
    refine wp_iload dX8_copy_143 rfl ?_
    refine wp_istore (loc' := [(2, 69), (0, (s : Int)), (0, (a : Int)), (0, (t : Int)), (0, (b : Int)), (0, (N : Int)), (0, 0), (0, (k : Int)), (0, (k : Int))]) dX8_copy_145 (Nat.le_of_ble_eq_true rfl) rfl ?_
    refine wp_aload_n dX8_copy_147 rfl rfl ?_
    refine wp_get 69 rfl fl_RX8_78 rfl ⟨by omega, by omega⟩ dX8_copy_148 rfl (v := 90) (sr_69_52 (M := (mcp M 90 (40 * s + a) 90 (40 * t + b) k)) hR) ?_
    refine wp_bipush dX8_copy_151 (by decide) (by decide) ?_
    refine wp_iload_n dX8_copy_153 rfl rfl ?_
    refine wp_imul dX8_copy_154 (by omega) ?_
    refine wp_iload dX8_copy_155 rfl ?_
    refine wp_iadd dX8_copy_157 (by omega) ?_
    refine wp_iload dX8_copy_158 rfl ?_
    refine wp_iadd dX8_copy_160 (by omega) ?_
    refine wp_aload_n dX8_copy_161 rfl rfl ?_
    refine wp_get 69 rfl fl_RX8_78 rfl ⟨by omega, by omega⟩ dX8_copy_162 rfl (v := 90) (sr_69_52 (M := (mcp M 90 (40 * s + a) 90 (40 * t + b) k)) hR) ?_
    refine wp_bipush dX8_copy_165 (by decide) (by decide) ?_
    refine wp_iload_n dX8_copy_167 rfl rfl ?_
    refine wp_imul dX8_copy_168 (by omega) ?_
    refine wp_iload_n dX8_copy_169 rfl rfl ?_
    refine wp_iadd dX8_copy_170 (by omega) ?_
    refine wp_iload dX8_copy_171 rfl ?_
    refine wp_iadd dX8_copy_173 (by omega) ?_
    refine wp_iald 90 rfl rfl ⟨by omega, by omega⟩ ⟨by omega, by omega⟩ dX8_copy_174 (v := (M 90 (40 * s + a + k))) (by rw [show ((((40 * (s : Int)) + (a : Int)) + (k : Int))).toNat = (40 * s + a + k) by omega]; exact mcp_at (by omega)) ?_
    refine wp_iast 90 rfl rfl ⟨by omega, by omega⟩ ⟨by omega, by omega⟩ dX8_copy_175 (jn := (40 * t + b + k)) (by omega) ?_
    refine wp_iinc (loc' := [(2, 69), (0, (s : Int)), (0, (a : Int)), (0, (t : Int)), (0, (b : Int)), (0, (N : Int)), (0, 0), (0, ((k : Int) + 1)), (0, (k : Int))]) dX8_copy_176 rfl (by omega) rfl ?_
    refine wp_goto (tgt := 121) dX8_copy_179 (by decide) ?_
    rw [mcp_up]
    exact ih (k + 1) _ (by omega)
set_option maxRecDepth 20000 in
set_option maxHeartbeats 4000000 in
theorem lp_cpd  {l : Launch} {g : Gw} {d n : Nat} {M : Mm} {Q : Option Wd → Mm → Prop} (hn : 90 ≤ n) {s t a b N : Nat} (hs : s < 4) (ht : t < 4) (ha : a + N ≤ 40) (hb : b + N ≤ 40) (hov : s = t ∧ a < b) (hR0 : SR M) (kk : Q (some (0, (N : Int))) (mcp M 90 (40 * s + a) 90 (40 * t + b) N)) : ∀ (m k : Nat) (u8 : Wd), k + m = N → Wp l g d 0 0 n m_X8_copy 121 [] [(2, 69), (0, (s : Int)), (0, (a : Int)), (0, (t : Int)), (0, (b : Int)), (0, (N : Int)), (0, 1), (0, (k : Int)), u8] (mcp M 90 (40 * s + a + (N - k)) 90 (40 * t + b + (N - k)) k) Q := by
  intro m
  induction m with
  | zero =>
    intro k u8 hk
    have hR := VMh.sr (mcp_fr (M := M) (s := (40 * s + a + (N - k))) (t := (40 * t + b + (N - k))) (k := k)) hR0
    refine wp_iload dX8_copy_121 rfl ?_
    refine wp_iload dX8_copy_123 rfl ?_
    refine wp_icmp_ge (tgt := 182) dX8_copy_125 (by decide) (fun _ => ?_) (fun h => absurd h (by omega))
    refine wp_iload dX8_copy_182 rfl ?_
    refine wp_iret rfl dX8_copy_184 ?_
    have e : k = N := by omega
    subst e
    rw [show k - k = 0 by omega]
    exact kk
  | succ m ih =>
    intro k u8 hk
    have hR := VMh.sr (mcp_fr (M := M) (s := (40 * s + a + (N - k))) (t := (40 * t + b + (N - k))) (k := k)) hR0
    refine wp_iload dX8_copy_121 rfl ?_
    refine wp_iload dX8_copy_123 rfl ?_
    refine wp_icmp_ge (tgt := 182) dX8_copy_125 (by decide) (fun h => absurd h (by omega)) (fun _ => ?_)
    refine wp_iload dX8_copy_128 rfl ?_
    refine wp_if_eq (tgt := 143) dX8_copy_130 (by decide) (fun h => absurd h (by decide)) (fun _ => ?_)
    refine wp_iload dX8_copy_133 rfl ?_
    refine wp_iconst dX8_copy_135 (by decide) ?_
    refine wp_isub dX8_copy_136 (by omega) ?_
    refine wp_iload dX8_copy_137 rfl ?_
    refine wp_isub dX8_copy_139 (by omega) ?_
    refine wp_goto (tgt := 145) dX8_copy_140 (by decide) ?_
    refine wp_istore (loc' := [(2, 69), (0, (s : Int)), (0, (a : Int)), (0, (t : Int)), (0, (b : Int)), (0, (N : Int)), (0, 1), (0, (k : Int)), (0, (((N : Int) - 1) - (k : Int)))]) dX8_copy_145 (Nat.le_of_ble_eq_true rfl) rfl ?_
    refine wp_aload_n dX8_copy_147 rfl rfl ?_
    refine wp_get 69 rfl fl_RX8_78 rfl ⟨by omega, by omega⟩ dX8_copy_148 rfl (v := 90) (sr_69_52 (M := (mcp M 90 (40 * s + a + (N - k)) 90 (40 * t + b + (N - k)) k)) hR) ?_
    refine wp_bipush dX8_copy_151 (by decide) (by decide) ?_
    refine wp_iload_n dX8_copy_153 rfl rfl ?_
    refine wp_imul dX8_copy_154 (by omega) ?_
    refine wp_iload dX8_copy_155 rfl ?_
    refine wp_iadd dX8_copy_157 (by omega) ?_
    refine wp_iload dX8_copy_158 rfl ?_
    refine wp_iadd dX8_copy_160 (by omega) ?_
    refine wp_aload_n dX8_copy_161 rfl rfl ?_
    refine wp_get 69 rfl fl_RX8_78 rfl ⟨by omega, by omega⟩ dX8_copy_162 rfl (v := 90) (sr_69_52 (M := (mcp M 90 (40 * s + a + (N - k)) 90 (40 * t + b + (N - k)) k)) hR) ?_
    refine wp_bipush dX8_copy_165 (by decide) (by decide) ?_
    refine wp_iload_n dX8_copy_167 rfl rfl ?_
    refine wp_imul dX8_copy_168 (by omega) ?_
    refine wp_iload_n dX8_copy_169 rfl rfl ?_
    refine wp_iadd dX8_copy_170 (by omega) ?_
    refine wp_iload dX8_copy_171 rfl ?_
    refine wp_iadd dX8_copy_173 (by omega) ?_
    refine wp_iald 90 rfl rfl ⟨by omega, by omega⟩ ⟨by omega, by omega⟩ dX8_copy_174 (v := (M 90 (40 * s + a + (N - 1 - k)))) (by rw [show ((((40 * (s : Int)) + (a : Int)) + (((N : Int) - 1) - (k : Int)))).toNat = (40 * s + a + (N - 1 - k)) by omega]; exact mcp_at (by omega)) ?_
    refine wp_iast 90 rfl rfl ⟨by omega, by omega⟩ ⟨by omega, by omega⟩ dX8_copy_175 (jn := (40 * t + b + (N - 1 - k))) (by omega) ?_
    refine wp_iinc (loc' := [(2, 69), (0, (s : Int)), (0, (a : Int)), (0, (t : Int)), (0, (b : Int)), (0, (N : Int)), (0, 1), (0, ((k : Int) + 1)), (0, (((N : Int) - 1) - (k : Int)))]) dX8_copy_176 rfl (by omega) rfl ?_
    refine wp_goto (tgt := 121) dX8_copy_179 (by decide) ?_
    have e1 : 40 * s + a + (N - k) = 40 * s + a + (N - 1 - k) + 1 := by omega
    have e2 : 40 * t + b + (N - k) = 40 * t + b + (N - 1 - k) + 1 := by omega
    rw [e1, e2, mcp_dn]
    have q := ih (k + 1) (0, (((N : Int) - 1) - (k : Int))) (by omega)
    rw [show N - (k + 1) = N - 1 - k by omega] at q
    exact q
set_option maxRecDepth 20000 in
set_option maxHeartbeats 4000000 in
theorem cm_copy {l : Launch} {g : Gw} {d n : Nat} {M : Mm} {Q : Option Wd → Mm → Prop} (hn : 90 ≤ n) (hd : 70 ≤ d) (hR : SR M) {B : Mm} (hB : Rms M B) (hV : Ws B) (x x2 y y2 z : Int) (hz : -2147483648 ≤ z ∧ z < 2147483648) (kB : ¬ (0 ≤ x ∧ x < 4 ∧ 0 ≤ y ∧ y < 4) → Q (some (0, -2)) M) (kN : (0 ≤ x ∧ x < 4 ∧ 0 ≤ y ∧ y < 4) → (B x.toNat 0 = -1 ∨ B y.toNat 0 = -1) → Q (some (0, -11)) M) (kU : (0 ≤ x ∧ x < 4 ∧ 0 ≤ y ∧ y < 4) → ¬ (B x.toNat 0 = -1 ∨ B y.toNat 0 = -1) → B x.toNat 0 ≠ B y.toNat 0 → Q (some (0, -13)) M) (kO : (0 ≤ x ∧ x < 4 ∧ 0 ≤ y ∧ y < 4) → ¬ (B x.toNat 0 = -1 ∨ B y.toNat 0 = -1) → B x.toNat 0 = B y.toNat 0 → ¬ (0 ≤ x2 ∧ 0 ≤ y2 ∧ 0 ≤ z ∧ x2 + z ≤ B x.toNat 1 ∧ y2 + z ≤ B y.toNat 1) → Q (some (0, -12)) M) (k : (0 ≤ x ∧ x < 4 ∧ 0 ≤ y ∧ y < 4) → ¬ (B x.toNat 0 = -1 ∨ B y.toNat 0 = -1) → B x.toNat 0 = B y.toNat 0 → (0 ≤ x2 ∧ 0 ≤ y2 ∧ 0 ≤ z ∧ x2 + z ≤ B x.toNat 1 ∧ y2 + z ≤ B y.toNat 1) → ∀ M', Rms M' (mcp B x.toNat (2 + x2.toNat) y.toNat (2 + y2.toNat) z.toNat) → Fr VMh M M' → Q (some (0, z)) M') : Wp l g d 0 0 n m_X8_copy 0 [] [(2, 69), (0, x), (0, x2), (0, y), (0, y2), (0, z), (9, 0), (9, 0), (9, 0)] M Q := by
  by_cases hx : (0 ≤ x ∧ x < 4 ∧ 0 ≤ y ∧ y < 4)
  · obtain ⟨s, rfl⟩ := Int.eq_ofNat_of_zero_le hx.1
    obtain ⟨t, rfl⟩ := Int.eq_ofNat_of_zero_le hx.2.2.1
    have hs : s < 4 := by omega
    have ht : t < 4 := by omega
    have hv := hV.r hs
    have hvt := hV.r ht
    by_cases hT : B s 0 = -1
    · have h87 : M 87 s = 0 := (hB s hs).1.trans (if_pos hT)
      refine wp_iload_n dX8_copy_0 rfl rfl ?_
      refine wp_callS0 (d' := d - 1) cs_RX8_439 [(0, (s : Int))] [] rfl rfl (Nat.le_of_ble_eq_true rfl) dX8_copy_1 rfl (Nat.le_of_ble_eq_true rfl) (by omega) (loc1 := [(0, (s : Int))]) rfl ?_
      refine sp_isSh (by omega) (s : Int) (fun s1 => ?_) (fun s1 => ?_)
      · refine wp_if_eq (tgt := 14) dX8_copy_4 (by decide) (fun h => absurd h (by decide)) (fun _ => ?_)
        refine wp_iload_n dX8_copy_7 rfl rfl ?_
        refine wp_callS0 (d' := d - 1) cs_RX8_439 [(0, (t : Int))] [] rfl rfl (Nat.le_of_ble_eq_true rfl) dX8_copy_8 rfl (Nat.le_of_ble_eq_true rfl) (by omega) (loc1 := [(0, (t : Int))]) rfl ?_
        refine sp_isSh (by omega) (t : Int) (fun s8 => ?_) (fun s8 => ?_)
        · refine wp_if_ne (tgt := 17) dX8_copy_11 (by decide) (fun _ => ?_) (fun h => absurd h (by decide))
          refine wp_aload_n dX8_copy_17 rfl rfl ?_
          refine wp_get 69 rfl fl_RX8_69 rfl ⟨by omega, by omega⟩ dX8_copy_18 rfl (v := 87) (sr_69_49 (M := M) hR) ?_
          refine wp_iload_n dX8_copy_21 rfl rfl ?_
          refine wp_zald 87 rfl rfl ⟨by omega, by omega⟩ ⟨by omega, by omega⟩ dX8_copy_22 (v := 0) (h87) ?_
          refine wp_if_eq (tgt := 35) dX8_copy_23 (by decide) (fun _ => ?_) (fun h => absurd h (by decide))
          refine wp_bipush dX8_copy_35 (by decide) (by decide) ?_
          refine wp_iret rfl dX8_copy_37 ?_
          exact kN (by omega) (Or.inl hT)
        · refine wp_if_ne (tgt := 17) dX8_copy_11 (by decide) (fun h => absurd h (by decide)) (fun _ => ?_)
          refine wp_bipush dX8_copy_14 (by decide) (by decide) ?_
          refine wp_iret rfl dX8_copy_16 ?_
          exact kB (by omega)
      · refine wp_if_eq (tgt := 14) dX8_copy_4 (by decide) (fun _ => ?_) (fun h => absurd h (by decide))
        refine wp_bipush dX8_copy_14 (by decide) (by decide) ?_
        refine wp_iret rfl dX8_copy_16 ?_
        exact kB (by omega)
    · have h87 : M 87 s = 1 := (hB s hs).1.trans (if_neg hT)
      have h8 := (hB s hs).2 hT
      by_cases hU : B t 0 = -1
      · have g87 : M 87 t = 0 := (hB t ht).1.trans (if_pos hU)
        refine wp_iload_n dX8_copy_0 rfl rfl ?_
        refine wp_callS0 (d' := d - 1) cs_RX8_439 [(0, (s : Int))] [] rfl rfl (Nat.le_of_ble_eq_true rfl) dX8_copy_1 rfl (Nat.le_of_ble_eq_true rfl) (by omega) (loc1 := [(0, (s : Int))]) rfl ?_
        refine sp_isSh (by omega) (s : Int) (fun s1 => ?_) (fun s1 => ?_)
        · refine wp_if_eq (tgt := 14) dX8_copy_4 (by decide) (fun h => absurd h (by decide)) (fun _ => ?_)
          refine wp_iload_n dX8_copy_7 rfl rfl ?_
          refine wp_callS0 (d' := d - 1) cs_RX8_439 [(0, (t : Int))] [] rfl rfl (Nat.le_of_ble_eq_true rfl) dX8_copy_8 rfl (Nat.le_of_ble_eq_true rfl) (by omega) (loc1 := [(0, (t : Int))]) rfl ?_
          refine sp_isSh (by omega) (t : Int) (fun s8 => ?_) (fun s8 => ?_)
          · refine wp_if_ne (tgt := 17) dX8_copy_11 (by decide) (fun _ => ?_) (fun h => absurd h (by decide))
            refine wp_aload_n dX8_copy_17 rfl rfl ?_
            refine wp_get 69 rfl fl_RX8_69 rfl ⟨by omega, by omega⟩ dX8_copy_18 rfl (v := 87) (sr_69_49 (M := M) hR) ?_
            refine wp_iload_n dX8_copy_21 rfl rfl ?_
            refine wp_zald 87 rfl rfl ⟨by omega, by omega⟩ ⟨by omega, by omega⟩ dX8_copy_22 (v := 1) (h87) ?_
            refine wp_if_eq (tgt := 35) dX8_copy_23 (by decide) (fun h => absurd h (by decide)) (fun _ => ?_)
            refine wp_aload_n dX8_copy_26 rfl rfl ?_
            refine wp_get 69 rfl fl_RX8_69 rfl ⟨by omega, by omega⟩ dX8_copy_27 rfl (v := 87) (sr_69_49 (M := M) hR) ?_
            refine wp_iload_n dX8_copy_30 rfl rfl ?_
            refine wp_zald 87 rfl rfl ⟨by omega, by omega⟩ ⟨by omega, by omega⟩ dX8_copy_31 (v := 0) (g87) ?_
            refine wp_if_ne (tgt := 38) dX8_copy_32 (by decide) (fun h => absurd h (by decide)) (fun _ => ?_)
            refine wp_bipush dX8_copy_35 (by decide) (by decide) ?_
            refine wp_iret rfl dX8_copy_37 ?_
            exact kN (by omega) (Or.inr hU)
          · refine wp_if_ne (tgt := 17) dX8_copy_11 (by decide) (fun h => absurd h (by decide)) (fun _ => ?_)
            refine wp_bipush dX8_copy_14 (by decide) (by decide) ?_
            refine wp_iret rfl dX8_copy_16 ?_
            exact kB (by omega)
        · refine wp_if_eq (tgt := 14) dX8_copy_4 (by decide) (fun _ => ?_) (fun h => absurd h (by decide))
          refine wp_bipush dX8_copy_14 (by decide) (by decide) ?_
          refine wp_iret rfl dX8_copy_16 ?_
          exact kB (by omega)
      · have g87 : M 87 t = 1 := (hB t ht).1.trans (if_neg hU)
        have g8 := (hB t ht).2 hU
        refine wp_iload_n dX8_copy_0 rfl rfl ?_
        refine wp_callS0 (d' := d - 1) cs_RX8_439 [(0, (s : Int))] [] rfl rfl (Nat.le_of_ble_eq_true rfl) dX8_copy_1 rfl (Nat.le_of_ble_eq_true rfl) (by omega) (loc1 := [(0, (s : Int))]) rfl ?_
        refine sp_isSh (by omega) (s : Int) (fun s1 => ?_) (fun s1 => ?_)
        · refine wp_if_eq (tgt := 14) dX8_copy_4 (by decide) (fun h => absurd h (by decide)) (fun _ => ?_)
          refine wp_iload_n dX8_copy_7 rfl rfl ?_
          refine wp_callS0 (d' := d - 1) cs_RX8_439 [(0, (t : Int))] [] rfl rfl (Nat.le_of_ble_eq_true rfl) dX8_copy_8 rfl (Nat.le_of_ble_eq_true rfl) (by omega) (loc1 := [(0, (t : Int))]) rfl ?_
          refine sp_isSh (by omega) (t : Int) (fun s8 => ?_) (fun s8 => ?_)
          · refine wp_if_ne (tgt := 17) dX8_copy_11 (by decide) (fun _ => ?_) (fun h => absurd h (by decide))
            refine wp_aload_n dX8_copy_17 rfl rfl ?_
            refine wp_get 69 rfl fl_RX8_69 rfl ⟨by omega, by omega⟩ dX8_copy_18 rfl (v := 87) (sr_69_49 (M := M) hR) ?_
            refine wp_iload_n dX8_copy_21 rfl rfl ?_
            refine wp_zald 87 rfl rfl ⟨by omega, by omega⟩ ⟨by omega, by omega⟩ dX8_copy_22 (v := 1) (h87) ?_
            refine wp_if_eq (tgt := 35) dX8_copy_23 (by decide) (fun h => absurd h (by decide)) (fun _ => ?_)
            refine wp_aload_n dX8_copy_26 rfl rfl ?_
            refine wp_get 69 rfl fl_RX8_69 rfl ⟨by omega, by omega⟩ dX8_copy_27 rfl (v := 87) (sr_69_49 (M := M) hR) ?_
            refine wp_iload_n dX8_copy_30 rfl rfl ?_
            refine wp_zald 87 rfl rfl ⟨by omega, by omega⟩ ⟨by omega, by omega⟩ dX8_copy_31 (v := 1) (g87) ?_
            refine wp_if_ne (tgt := 38) dX8_copy_32 (by decide) (fun _ => ?_) (fun h => absurd h (by decide))
            refine wp_aload_n dX8_copy_38 rfl rfl ?_
            refine wp_get 69 rfl fl_RX8_72 rfl ⟨by omega, by omega⟩ dX8_copy_39 rfl (v := 88) (sr_69_50 (M := M) hR) ?_
            refine wp_iload_n dX8_copy_42 rfl rfl ?_
            refine wp_iald 88 rfl rfl ⟨by omega, by omega⟩ ⟨by omega, by omega⟩ dX8_copy_43 (v := (B s 0)) (h8.1) ?_
            refine wp_aload_n dX8_copy_44 rfl rfl ?_
            refine wp_get 69 rfl fl_RX8_72 rfl ⟨by omega, by omega⟩ dX8_copy_45 rfl (v := 88) (sr_69_50 (M := M) hR) ?_
            refine wp_iload_n dX8_copy_48 rfl rfl ?_
            refine wp_iald 88 rfl rfl ⟨by omega, by omega⟩ ⟨by omega, by omega⟩ dX8_copy_49 (v := (B t 0)) (g8.1) ?_
            refine wp_icmp_eq (tgt := 56) dX8_copy_50 (by decide) (fun h50 => ?_) (fun h50 => ?_)
            · refine wp_iload dX8_copy_56 rfl ?_
              refine wp_if_lt (tgt := 97) dX8_copy_58 (by decide) (fun h58 => ?_) (fun h58 => ?_)
              · refine wp_bipush dX8_copy_97 (by decide) (by decide) ?_
                refine wp_iret rfl dX8_copy_99 ?_
                exact kO (by omega) (fun h => h.elim hT hU) (by show B s 0 = B t 0; omega) (fun h => by have h : 0 ≤ x2 ∧ 0 ≤ y2 ∧ 0 ≤ z ∧ x2 + z ≤ B s 1 ∧ y2 + z ≤ B t 1 := h; omega)
              · refine wp_iload_n dX8_copy_61 rfl rfl ?_
                refine wp_if_lt (tgt := 97) dX8_copy_62 (by decide) (fun h62 => ?_) (fun h62 => ?_)
                · refine wp_bipush dX8_copy_97 (by decide) (by decide) ?_
                  refine wp_iret rfl dX8_copy_99 ?_
                  exact kO (by omega) (fun h => h.elim hT hU) (by show B s 0 = B t 0; omega) (fun h => by have h : 0 ≤ x2 ∧ 0 ≤ y2 ∧ 0 ≤ z ∧ x2 + z ≤ B s 1 ∧ y2 + z ≤ B t 1 := h; omega)
                · refine wp_iload dX8_copy_65 rfl ?_
                  refine wp_if_lt (tgt := 97) dX8_copy_67 (by decide) (fun h67 => ?_) (fun h67 => ?_)
                  · refine wp_bipush dX8_copy_97 (by decide) (by decide) ?_
                    refine wp_iret rfl dX8_copy_99 ?_
                    exact kO (by omega) (fun h => h.elim hT hU) (by show B s 0 = B t 0; omega) (fun h => by have h : 0 ≤ x2 ∧ 0 ≤ y2 ∧ 0 ≤ z ∧ x2 + z ≤ B s 1 ∧ y2 + z ≤ B t 1 := h; omega)
                  · refine wp_iload_n dX8_copy_70 rfl rfl ?_
                    refine wp_aload_n dX8_copy_71 rfl rfl ?_
                    refine wp_get 69 rfl fl_RX8_75 rfl ⟨by omega, by omega⟩ dX8_copy_72 rfl (v := 89) (sr_69_51 (M := M) hR) ?_
                    refine wp_iload_n dX8_copy_75 rfl rfl ?_
                    refine wp_iald 89 rfl rfl ⟨by omega, by omega⟩ ⟨by omega, by omega⟩ dX8_copy_76 (v := (B s 1)) (h8.2.1) ?_
                    refine wp_iload dX8_copy_77 rfl ?_
                    refine wp_isub dX8_copy_79 (by omega) ?_
                    refine wp_icmp_gt (tgt := 97) dX8_copy_80 (by decide) (fun h80 => ?_) (fun h80 => ?_)
                    · refine wp_bipush dX8_copy_97 (by decide) (by decide) ?_
                      refine wp_iret rfl dX8_copy_99 ?_
                      exact kO (by omega) (fun h => h.elim hT hU) (by show B s 0 = B t 0; omega) (fun h => by have h : 0 ≤ x2 ∧ 0 ≤ y2 ∧ 0 ≤ z ∧ x2 + z ≤ B s 1 ∧ y2 + z ≤ B t 1 := h; omega)
                    · refine wp_iload dX8_copy_83 rfl ?_
                      refine wp_aload_n dX8_copy_85 rfl rfl ?_
                      refine wp_get 69 rfl fl_RX8_75 rfl ⟨by omega, by omega⟩ dX8_copy_86 rfl (v := 89) (sr_69_51 (M := M) hR) ?_
                      refine wp_iload_n dX8_copy_89 rfl rfl ?_
                      refine wp_iald 89 rfl rfl ⟨by omega, by omega⟩ ⟨by omega, by omega⟩ dX8_copy_90 (v := (B t 1)) (g8.2.1) ?_
                      refine wp_iload dX8_copy_91 rfl ?_
                      refine wp_isub dX8_copy_93 (by omega) ?_
                      refine wp_icmp_le (tgt := 100) dX8_copy_94 (by decide) (fun h94 => ?_) (fun h94 => ?_)
                      · refine wp_iload_n dX8_copy_100 rfl rfl ?_
                        refine wp_iload_n dX8_copy_101 rfl rfl ?_
                        refine wp_icmp_ne (tgt := 115) dX8_copy_102 (by decide) (fun h102 => ?_) (fun h102 => ?_)
                        · refine wp_iconst dX8_copy_115 (by decide) ?_
                          refine wp_istore (loc' := [(2, 69), (0, (s : Int)), (0, x2), (0, (t : Int)), (0, y2), (0, z), (0, 0), (9, 0), (9, 0)]) dX8_copy_116 (Nat.le_of_ble_eq_true rfl) rfl ?_
                          refine wp_iconst dX8_copy_118 (by decide) ?_
                          refine wp_istore (loc' := [(2, 69), (0, (s : Int)), (0, x2), (0, (t : Int)), (0, y2), (0, z), (0, 0), (0, 0), (9, 0)]) dX8_copy_119 (Nat.le_of_ble_eq_true rfl) rfl ?_
                          obtain ⟨a, ha⟩ := Int.eq_ofNat_of_zero_le (show 0 ≤ x2 by omega)
                          obtain ⟨b, hb⟩ := Int.eq_ofNat_of_zero_le (show 0 ≤ y2 by omega)
                          obtain ⟨N, hN⟩ := Int.eq_ofNat_of_zero_le (show 0 ≤ z by omega)
                          subst ha hb hN
                          have q := lp_cpu (l := l) (g := g) (d := d) (Q := Q) hn hs ht (a := a) (b := b) (N := N) (by omega) (by omega) (by omega) hR (k (by omega) (fun h => h.elim hT hU) (by show B s 0 = B t 0; omega) (show 0 ≤ (a : Int) ∧ 0 ≤ (b : Int) ∧ 0 ≤ (N : Int) ∧ (a : Int) + (N : Int) ≤ B s 1 ∧ (b : Int) + (N : Int) ≤ B t 1 by omega) _ (hB.cpy hV hs ht hT (by omega) (by omega)) mcp_fr) N 0 (9, 0) (by omega)
                          rw [mcp_0] at q
                          exact q
                        · refine wp_iload_n dX8_copy_105 rfl rfl ?_
                          refine wp_iload dX8_copy_106 rfl ?_
                          refine wp_icmp_ge (tgt := 115) dX8_copy_108 (by decide) (fun h108 => ?_) (fun h108 => ?_)
                          · refine wp_iconst dX8_copy_115 (by decide) ?_
                            refine wp_istore (loc' := [(2, 69), (0, (s : Int)), (0, x2), (0, (t : Int)), (0, y2), (0, z), (0, 0), (9, 0), (9, 0)]) dX8_copy_116 (Nat.le_of_ble_eq_true rfl) rfl ?_
                            refine wp_iconst dX8_copy_118 (by decide) ?_
                            refine wp_istore (loc' := [(2, 69), (0, (s : Int)), (0, x2), (0, (t : Int)), (0, y2), (0, z), (0, 0), (0, 0), (9, 0)]) dX8_copy_119 (Nat.le_of_ble_eq_true rfl) rfl ?_
                            obtain ⟨a, ha⟩ := Int.eq_ofNat_of_zero_le (show 0 ≤ x2 by omega)
                            obtain ⟨b, hb⟩ := Int.eq_ofNat_of_zero_le (show 0 ≤ y2 by omega)
                            obtain ⟨N, hN⟩ := Int.eq_ofNat_of_zero_le (show 0 ≤ z by omega)
                            subst ha hb hN
                            have q := lp_cpu (l := l) (g := g) (d := d) (Q := Q) hn hs ht (a := a) (b := b) (N := N) (by omega) (by omega) (by omega) hR (k (by omega) (fun h => h.elim hT hU) (by show B s 0 = B t 0; omega) (show 0 ≤ (a : Int) ∧ 0 ≤ (b : Int) ∧ 0 ≤ (N : Int) ∧ (a : Int) + (N : Int) ≤ B s 1 ∧ (b : Int) + (N : Int) ≤ B t 1 by omega) _ (hB.cpy hV hs ht hT (by omega) (by omega)) mcp_fr) N 0 (9, 0) (by omega)
                            rw [mcp_0] at q
                            exact q
                          · refine wp_iconst dX8_copy_111 (by decide) ?_
                            refine wp_goto (tgt := 116) dX8_copy_112 (by decide) ?_
                            refine wp_istore (loc' := [(2, 69), (0, (s : Int)), (0, x2), (0, (t : Int)), (0, y2), (0, z), (0, 1), (9, 0), (9, 0)]) dX8_copy_116 (Nat.le_of_ble_eq_true rfl) rfl ?_
                            refine wp_iconst dX8_copy_118 (by decide) ?_
                            refine wp_istore (loc' := [(2, 69), (0, (s : Int)), (0, x2), (0, (t : Int)), (0, y2), (0, z), (0, 1), (0, 0), (9, 0)]) dX8_copy_119 (Nat.le_of_ble_eq_true rfl) rfl ?_
                            obtain ⟨a, ha⟩ := Int.eq_ofNat_of_zero_le (show 0 ≤ x2 by omega)
                            obtain ⟨b, hb⟩ := Int.eq_ofNat_of_zero_le (show 0 ≤ y2 by omega)
                            obtain ⟨N, hN⟩ := Int.eq_ofNat_of_zero_le (show 0 ≤ z by omega)
                            subst ha hb hN
                            have q := lp_cpd (l := l) (g := g) (d := d) (Q := Q) hn hs ht (a := a) (b := b) (N := N) (by omega) (by omega) (by omega) hR (k (by omega) (fun h => h.elim hT hU) (by show B s 0 = B t 0; omega) (show 0 ≤ (a : Int) ∧ 0 ≤ (b : Int) ∧ 0 ≤ (N : Int) ∧ (a : Int) + (N : Int) ≤ B s 1 ∧ (b : Int) + (N : Int) ≤ B t 1 by omega) _ (hB.cpy hV hs ht hT (by omega) (by omega)) mcp_fr) N 0 (9, 0) (by omega)
                            rw [mcp_0] at q
                            exact q
                      · refine wp_bipush dX8_copy_97 (by decide) (by decide) ?_
                        refine wp_iret rfl dX8_copy_99 ?_
                        exact kO (by omega) (fun h => h.elim hT hU) (by show B s 0 = B t 0; omega) (fun h => by have h : 0 ≤ x2 ∧ 0 ≤ y2 ∧ 0 ≤ z ∧ x2 + z ≤ B s 1 ∧ y2 + z ≤ B t 1 := h; omega)
            · refine wp_bipush dX8_copy_53 (by decide) (by decide) ?_
              refine wp_iret rfl dX8_copy_55 ?_
              exact kU (by omega) (fun h => h.elim hT hU) (by show B s 0 ≠ B t 0; omega)
          · refine wp_if_ne (tgt := 17) dX8_copy_11 (by decide) (fun h => absurd h (by decide)) (fun _ => ?_)
            refine wp_bipush dX8_copy_14 (by decide) (by decide) ?_
            refine wp_iret rfl dX8_copy_16 ?_
            exact kB (by omega)
        · refine wp_if_eq (tgt := 14) dX8_copy_4 (by decide) (fun _ => ?_) (fun h => absurd h (by decide))
          refine wp_bipush dX8_copy_14 (by decide) (by decide) ?_
          refine wp_iret rfl dX8_copy_16 ?_
          exact kB (by omega)
  · refine wp_iload_n dX8_copy_0 rfl rfl ?_
    refine wp_callS0 (d' := d - 1) cs_RX8_439 [(0, x)] [] rfl rfl (Nat.le_of_ble_eq_true rfl) dX8_copy_1 rfl (Nat.le_of_ble_eq_true rfl) (by omega) (loc1 := [(0, x)]) rfl ?_
    refine sp_isSh (by omega) x (fun h => ?_) (fun h => ?_)
    · refine wp_if_eq (tgt := 14) dX8_copy_4 (by decide) (fun h => absurd h (by decide)) (fun _ => ?_)
      refine wp_iload_n dX8_copy_7 rfl rfl ?_
      refine wp_callS0 (d' := d - 1) cs_RX8_439 [(0, y)] [] rfl rfl (Nat.le_of_ble_eq_true rfl) dX8_copy_8 rfl (Nat.le_of_ble_eq_true rfl) (by omega) (loc1 := [(0, y)]) rfl ?_
      refine sp_isSh (by omega) y (fun h => ?_) (fun h => ?_)
      · refine wp_if_ne (tgt := 17) dX8_copy_11 (by decide) (fun _ => ?_) (fun h => absurd h (by decide))
        exfalso
        omega
      · refine wp_if_ne (tgt := 17) dX8_copy_11 (by decide) (fun h => absurd h (by decide)) (fun _ => ?_)
        refine wp_bipush dX8_copy_14 (by decide) (by decide) ?_
        refine wp_iret rfl dX8_copy_16 ?_
        exact kB (by omega)
    · refine wp_if_eq (tgt := 14) dX8_copy_4 (by decide) (fun _ => ?_) (fun h => absurd h (by decide))
      refine wp_bipush dX8_copy_14 (by decide) (by decide) ?_
      refine wp_iret rfl dX8_copy_16 ?_
      exact kB (by omega)
theorem Ws_mu {B : Mm} (h : Ws B) (s i : Nat) (v : Int) : Ws (mu B s (2 + i) v) := by
  intro t ht
  have e : ∀ j, j < 2 → mu B s (2 + i) v t j = B t j := by
    intro j hj
    by_cases c : t = s
    · subst c; exact mu_nj _ _ _ (by omega)
    · exact mu_ne _ _ _ c _
  rw [e 0 (by omega), e 1 (by omega)]
  exact h t ht
def VMf (i j : Nat) : Prop := VMt i j ∨ VMh i j
theorem VMf.sr {M M' : Mm} (h : Fr VMf M M') (hR : SR M) : SR M' := hR.frL h (by unfold VMf VMt VMl VMs VMw VMh; decide +kernel)
theorem VMt.f : ∀ i j, VMt i j → VMf i j := fun i j h => Or.inl h
theorem VMl.f : ∀ i j, VMl i j → VMf i j := fun i j h => Or.inl (Or.inl h)
theorem VMh.f : ∀ i j, VMh i j → VMf i j := fun i j h => Or.inr h
def VMg (i j : Nat) : Prop := VMl i j ∨ VMh i j
theorem VMg.nw : ∀ i j, VMg i j → ¬ VMw i j := by
  intro i j h
  unfold VMg VMl VMs VMh at h
  unfold VMw
  omega
theorem VMg.f : ∀ i j, VMg i j → VMf i j := by
  intro i j h
  unfold VMg at h
  unfold VMf VMt
  rcases h with h | h
  · exact Or.inl (Or.inl h)
  · exact Or.inr h
set_option maxRecDepth 20000 in
set_option maxHeartbeats 4000000 in
theorem lp_flm  {l : Launch} {g : Gw} {d n : Nat} (hn : 90 ≤ n) (hd : 70 ≤ d) {E : Ev} {s : Nat} (hs : s < 4) {A0 : Ls} {N : Nat} (hN40 : N ≤ 30) : ∀ (m q : Nat) (A : Ls) (B : Mm) (M : Mm) (Q : Option Wd → Mm → Prop), q + m = N → MJ M A E → SLa A0 A → Rms M B → Ws B → (∀ M' A' u, MJ M' A' E → SLa A0 A' → Rms M' (flmB E s m q A B) → Fr VMg M M' → Wp l g d 0 0 n m_X8_film 67 [] [(2, 69), (0, (s : Int)), (0, (N : Int)), u] M' Q) → Wp l g d 0 0 n m_X8_film 36 [] [(2, 69), (0, (s : Int)), (0, (N : Int)), (0, (q : Int))] M Q := by
  intro m
  induction m with
  | zero =>
    intro q A B M Q hm hI hS hB hV k
    have hR := hI.1
    refine wp_iload_n dX8_film_36 rfl rfl ?_
    refine wp_iload_n dX8_film_37 rfl rfl ?_
    refine wp_icmp_ge (tgt := 67) dX8_film_38 (by decide) (fun _ => ?_) (fun h => absurd h (by omega))
    exact k M A _ hI hS hB Fr.rf
  | succ m ih =>
    intro q A B M Q hm hI hS hB hV k
    have hR := hI.1
    refine wp_iload_n dX8_film_36 rfl rfl ?_
    refine wp_iload_n dX8_film_37 rfl rfl ?_
    refine wp_icmp_ge (tgt := 67) dX8_film_38 (by decide) (fun h => absurd h (by omega)) (fun _ => ?_)
    refine wp_aload_n dX8_film_41 rfl rfl ?_
    refine wp_callV0 (d' := d - 1) cv_RX8_368 69 rfl [] [] rfl rfl (Or.inl ⟨_, _, rfl, by decide, rfl, by omega, by omega⟩) (by omega) (Nat.le_of_ble_eq_true rfl) dX8_film_42 rfl (Nat.le_of_ble_eq_true rfl) (by omega) (loc1 := [(2, 69), (9, 0), (9, 0), (9, 0)]) rfl ?_
    refine sp_tkm hn hI (by omega) (fun M1 I1 F1 => ?_)
    have R1 := I1.1
    refine wp_pop dX8_film_45 (Or.inl rfl) ?_
    refine wp_aload_n dX8_film_46 rfl rfl ?_
    refine wp_get 69 rfl fl_RX8_78 rfl ⟨by omega, by omega⟩ dX8_film_47 rfl (v := 90) (sr_69_52 (M := M1) R1) ?_
    refine wp_bipush dX8_film_50 (by decide) (by decide) ?_
    refine wp_iload_n dX8_film_52 rfl rfl ?_
    refine wp_imul dX8_film_53 (by omega) ?_
    refine wp_iload_n dX8_film_54 rfl rfl ?_
    refine wp_iadd dX8_film_55 (by omega) ?_
    refine wp_aload_n dX8_film_56 rfl rfl ?_
    refine wp_callV0 (d' := d - 1) cv_RX8_433 69 rfl [] [(0, ((40 * (s : Int)) + (q : Int))), (2, 90)] rfl rfl (Or.inl ⟨_, _, rfl, by decide, rfl, by omega, by omega⟩) (by omega) (Nat.le_of_ble_eq_true rfl) dX8_film_57 rfl (Nat.le_of_ble_eq_true rfl) (by omega) (loc1 := [(2, 69)]) rfl ?_
    refine sp_fnm hn I1 ?_
    refine wp_iast 90 rfl rfl ⟨by omega, by omega⟩ ⟨by omega, by omega⟩ dX8_film_60 (jn := (40 * s + q)) (by omega) ?_
    refine wp_iinc (loc' := [(2, 69), (0, (s : Int)), (0, (N : Int)), (0, ((q : Int) + 1))]) dX8_film_61 rfl (by omega) rfl ?_
    refine wp_goto (tgt := 36) dX8_film_64 (by decide) ?_
    have f1 : Fr VMh M1 (mu M1 90 (40 * s + q) (fstA (tickA E A).1)) := Fr.rf.put (by unfold VMh; omega)
    have B1 := (hB.fr F1 VMl.nh).put (i := q) (v := fstA (tickA E A).1) hs (by omega) hV
    exact ih (q + 1) (tickA E A).1 _ _ Q (by omega) (I1.frn (f1.mono VMh.n) (VMh.sr f1 R1)) (hS.tick E) B1 (Ws_mu hV s q _) (fun M2 A2 u2 I2 S2 C2 F2 => k M2 A2 u2 I2 S2 C2 (((F1.mono (fun i j h => Or.inl h)).tr (f1.mono (fun i j h => Or.inr h))).tr F2))
set_option maxRecDepth 20000 in
set_option maxHeartbeats 4000000 in
theorem cm_film {l : Launch} {g : Gw} {d n : Nat} {M : Mm} {Q : Option Wd → Mm → Prop} (hn : 90 ≤ n) {A : Ls} {E : Ev} (hI : MJ M A E) (hd : 76 ≤ d) {B : Mm} (hB : Rms M B) (hV : Ws B) (x y : Int) (kB : ¬ (0 ≤ x ∧ x < 4 ∧ 0 ≤ y ∧ y ≤ 30) → Q (some (0, -2)) M) (k : (0 ≤ x ∧ x < 4 ∧ 0 ≤ y ∧ y ≤ 30) → ∀ M', MJ M' A E → Rms M' (flmB E x.toNat y.toNat 0 A (layB B x.toNat 0 y)) → Fr VMf M M' → Q (some (0, y)) M') : Wp l g d 0 0 n m_X8_film 0 [] [(2, 69), (0, x), (0, y), (9, 0)] M Q := by
  obtain ⟨hR, hA, hW, hr, hX⟩ := id hI
  by_cases hx : 0 ≤ x ∧ x < 4 ∧ 0 ≤ y ∧ y ≤ 30
  · obtain ⟨s, rfl⟩ := Int.eq_ofNat_of_zero_le hx.1
    obtain ⟨N, rfl⟩ := Int.eq_ofNat_of_zero_le hx.2.2.1
    have hs : s < 4 := by omega
    refine wp_iload_n dX8_film_0 rfl rfl ?_
    refine wp_callS0 (d' := d - 1) cs_RX8_439 [(0, (s : Int))] [] rfl rfl (Nat.le_of_ble_eq_true rfl) dX8_film_1 rfl (Nat.le_of_ble_eq_true rfl) (by omega) (loc1 := [(0, (s : Int))]) rfl ?_
    refine sp_isSh (by omega) (s : Int) (fun s1 => ?_) (fun s1 => ?_)
    · refine wp_if_eq (tgt := 19) dX8_film_4 (by decide) (fun h => absurd h (by decide)) (fun _ => ?_)
      refine wp_iload_n dX8_film_7 rfl rfl ?_
      refine wp_i2l dX8_film_8 ?_
      refine wp_lconst (v := 0) dX8_film_9 (by decide) (by decide) ?_
      refine wp_ldc2 (x := 30) dX8_film_10 kl_RX8_445 (by decide) (wr_l (by omega)) ?_
      refine wp_callS0 (d' := d - 1) cs_RX8_91 [(1, (N : Int)), (1, 0), (1, 30)] [] rfl rfl (Nat.le_of_ble_eq_true rfl) dX8_film_13 rfl (Nat.le_of_ble_eq_true rfl) (by omega) (loc1 := [(1, (N : Int)), (9, 0), (1, 0), (9, 0), (1, 30), (9, 0)]) rfl ?_
      refine sp_in (N : Int) 0 30 (fun i13 => ?_) (fun i13 => ?_)
      · refine wp_if_ne (tgt := 22) dX8_film_16 (by decide) (fun _ => ?_) (fun h => absurd h (by decide))
        refine wp_aload_n dX8_film_22 rfl rfl ?_
        refine wp_iload_n dX8_film_23 rfl rfl ?_
        refine wp_iconst dX8_film_24 (by decide) ?_
        refine wp_iload_n dX8_film_25 rfl rfl ?_
        refine wp_callV0 (d' := d - 1) cv_RX8_447 69 rfl [(0, (s : Int)), (0, 0), (0, (N : Int))] [] rfl rfl (Or.inl ⟨_, _, rfl, by decide, rfl, by omega, by omega⟩) (by omega) (Nat.le_of_ble_eq_true rfl) dX8_film_26 rfl (Nat.le_of_ble_eq_true rfl) (by omega) (loc1 := [(2, 69), (0, (s : Int)), (0, 0), (0, (N : Int)), (9, 0)]) rfl ?_
        refine cm_sheet hn (by omega) hR hB hV (x := (s : Int)) (y := 0) (z := (N : Int)) (fun h => absurd h (by omega)) (fun h => by omega) (fun h => by omega) (fun _ M1 B1 F1 => ?_)
        have I1 := hI.frn (F1.mono VMh.n) (VMh.sr F1 hR)
        refine wp_pop dX8_film_29 (Or.inl rfl) ?_
        refine wp_aload_n dX8_film_30 rfl rfl ?_
        refine wp_callV0 (d' := d - 1) cv_RX8_430 69 rfl [] [] rfl rfl (Or.inl ⟨_, _, rfl, by decide, rfl, by omega, by omega⟩) (by omega) (Nat.le_of_ble_eq_true rfl) dX8_film_31 rfl (Nat.le_of_ble_eq_true rfl) (by omega) (loc1 := [(2, 69), (9, 0)]) rfl ?_
        refine sp_asd hn I1 (fun M2 I2 S2 F2 => ?_)
        refine wp_iconst dX8_film_34 (by decide) ?_
        refine wp_istore_n (loc' := [(2, 69), (0, (s : Int)), (0, (N : Int)), (0, 0)]) dX8_film_35 rfl (Nat.le_of_ble_eq_true rfl) rfl ?_
        have V1 : Ws (layB B s 0 (N : Int)) := by
          intro t ht
          unfold layB
          by_cases c : t = s
          · rw [if_pos c, if_pos rfl, if_pos c, if_neg (by decide), if_pos rfl]
            omega
          · rw [if_neg c, if_neg c]
            exact hV t ht
        refine lp_flm hn (by omega) hs (N := N) (by omega) N 0 A (layB B s 0 (N : Int)) M2 Q (by omega) I2 SLa.rf (B1.fr (F2.mono VMw.t) VMt.nh) V1 (fun M3 A3 u I3 L3 C3 F3 => ?_)
        have T3 := S2.fr F3 VMg.nw
        refine wp_aload_n dX8_film_67 rfl rfl ?_
        refine wp_callV0 (d' := d - 1) cv_RX8_436 69 rfl [] [] rfl rfl (Or.inl ⟨_, _, rfl, by decide, rfl, by omega, by omega⟩) (by omega) (Nat.le_of_ble_eq_true rfl) dX8_film_68 rfl (Nat.le_of_ble_eq_true rfl) (by omega) (loc1 := [(2, 69), (9, 0)]) rfl ?_
        refine sp_bck hn I3 L3 hW T3 (fun M4 I4 F4 => ?_)
        refine wp_iload_n dX8_film_71 rfl rfl ?_
        refine wp_iret rfl dX8_film_72 ?_
        exact k (by omega) M4 I4 (C3.fr (F4.mono VMb.l) VMl.nh) ((F1.mono VMh.f).tr (((F2.mono VMw.t).mono VMt.f).tr ((F3.mono VMg.f).tr ((F4.mono VMb.l).mono VMl.f))))
      · refine wp_if_ne (tgt := 22) dX8_film_16 (by decide) (fun h => absurd h (by decide)) (fun _ => ?_)
        refine wp_bipush dX8_film_19 (by decide) (by decide) ?_
        refine wp_iret rfl dX8_film_21 ?_
        exact kB (by omega)
    · refine wp_if_eq (tgt := 19) dX8_film_4 (by decide) (fun _ => ?_) (fun h => absurd h (by decide))
      refine wp_bipush dX8_film_19 (by decide) (by decide) ?_
      refine wp_iret rfl dX8_film_21 ?_
      exact kB (by omega)
  · refine wp_iload_n dX8_film_0 rfl rfl ?_
    refine wp_callS0 (d' := d - 1) cs_RX8_439 [(0, x)] [] rfl rfl (Nat.le_of_ble_eq_true rfl) dX8_film_1 rfl (Nat.le_of_ble_eq_true rfl) (by omega) (loc1 := [(0, x)]) rfl ?_
    refine sp_isSh (by omega) x (fun s1 => ?_) (fun s1 => ?_)
    · refine wp_if_eq (tgt := 19) dX8_film_4 (by decide) (fun h => absurd h (by decide)) (fun _ => ?_)
      refine wp_iload_n dX8_film_7 rfl rfl ?_
      refine wp_i2l dX8_film_8 ?_
      refine wp_lconst (v := 0) dX8_film_9 (by decide) (by decide) ?_
      refine wp_ldc2 (x := 30) dX8_film_10 kl_RX8_445 (by decide) (wr_l (by omega)) ?_
      refine wp_callS0 (d' := d - 1) cs_RX8_91 [(1, y), (1, 0), (1, 30)] [] rfl rfl (Nat.le_of_ble_eq_true rfl) dX8_film_13 rfl (Nat.le_of_ble_eq_true rfl) (by omega) (loc1 := [(1, y), (9, 0), (1, 0), (9, 0), (1, 30), (9, 0)]) rfl ?_
      refine sp_in y 0 30 (fun i13 => ?_) (fun i13 => ?_)
      · refine wp_if_ne (tgt := 22) dX8_film_16 (by decide) (fun _ => ?_) (fun h => absurd h (by decide))
        exfalso
        omega
      · refine wp_if_ne (tgt := 22) dX8_film_16 (by decide) (fun h => absurd h (by decide)) (fun _ => ?_)
        refine wp_bipush dX8_film_19 (by decide) (by decide) ?_
        refine wp_iret rfl dX8_film_21 ?_
        exact kB (by omega)
    · refine wp_if_eq (tgt := 19) dX8_film_4 (by decide) (fun _ => ?_) (fun h => absurd h (by decide))
      refine wp_bipush dX8_film_19 (by decide) (by decide) ?_
      refine wp_iret rfl dX8_film_21 ?_
      exact kB (by omega)
