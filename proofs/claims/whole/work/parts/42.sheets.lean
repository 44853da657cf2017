/-! ===== the sheets ===== -/
def isS (S s : Nat) : Prop := s < 4 ∧ S = 61 + 2 * s
theorem isS.b {S s : Nat} (h : isS S s) : 61 ≤ S ∧ S ≤ 67 ∧ s < 4 ∧ S = 61 + 2 * s := by unfold isS at h; omega
theorem isS.c {S s : Nat} (h : isS S s) : (S = 61 ∧ s = 0) ∨ (S = 63 ∧ s = 1) ∨ (S = 65 ∧ s = 2) ∨ (S = 67 ∧ s = 3) := by unfold isS at h; omega
theorem isS.k0 {S s : Nat} (h : isS S s) : kd S = (4, 3) := by rcases h.c with ⟨rfl, -⟩ | ⟨rfl, -⟩ | ⟨rfl, -⟩ | ⟨rfl, -⟩ <;> rfl
theorem isS.k1 {S s : Nat} (h : isS S s) : kd (S + 1) = (10, 40) := by rcases h.c with ⟨rfl, -⟩ | ⟨rfl, -⟩ | ⟨rfl, -⟩ | ⟨rfl, -⟩ <;> rfl
theorem isS.r0 {S s : Nat} {M : Mm} (h : isS S s) (hR : SR M) : M S 0 = ((S + 1 : Nat) : Int) := by
  rcases h.c with ⟨rfl, -⟩ | ⟨rfl, -⟩ | ⟨rfl, -⟩ | ⟨rfl, -⟩
  · exact sr_61_0 hR
  · exact sr_63_0 hR
  · exact sr_65_0 hR
  · exact sr_67_0 hR
/-- the cells of sheet S -/
def VQ (S i j : Nat) : Prop := i = S + 1 ∨ (i = S ∧ (j = 1 ∨ j = 2))
/-- the cells of all sheets -/
def VS (i j : Nat) : Prop := 61 ≤ i ∧ i ≤ 68 ∧ (i % 2 = 0 ∨ j ≠ 0)
theorem VQ.s {S s : Nat} (h : isS S s) : ∀ i j, VQ S i j → VS i j := by
  intro i j v
  have hb := h.b
  unfold VQ at v
  unfold VS
  omega
theorem VS.sr {M M' : Mm} (h : Fr VS M M') (hR : SR M) : SR M' := hR.frL h (by unfold VS; decide +kernel)
theorem VQ.sr {M M' : Mm} {S s : Nat} (hS : isS S s) (h : Fr (VQ S) M M') (hR : SR M) : SR M' := VS.sr (h.mono (VQ.s hS)) hR
def cvt (s v : Int) : Int := if s = 0 then i8 v else if s = 1 then i16 v else v
/-- sheets apart from where they are kept: 0 sort, 1 size, 2 .. items -/
def Rs (M : Mm) (B : Mm) : Prop := ∀ s : Nat, s < 4 → M (61 + 2 * s) 1 = B s 0 ∧ M (61 + 2 * s) 2 = B s 1 ∧ ∀ i : Nat, (i : Int) < B s 1 → M (61 + 2 * s + 1) i = B s (2 + i)
def Ws (B : Mm) : Prop := ∀ s : Nat, s < 4 → (B s 0 = -1 ∧ B s 1 = 0) ∨ (0 ≤ B s 0 ∧ B s 0 ≤ 2 ∧ 0 ≤ B s 1 ∧ B s 1 ≤ 40)
theorem Ws.r {B : Mm} (h : Ws B) {s : Nat} (hs : s < 4) : 0 ≤ B s 1 ∧ B s 1 ≤ 40 ∧ -1 ≤ B s 0 ∧ B s 0 ≤ 2 := by have := h s hs; omega
def layB (B : Mm) (s : Nat) (x n : Int) : Mm := fun t j => if t = s then (if j = 0 then x else if j = 1 then n else 0) else B t j
def putB (B : Mm) (s i : Nat) (v : Int) : Mm := mu B s (2 + i) (cvt (B s 0) v)
theorem Rs.lay {M M' B : Mm} (h : Rs M B) {S s : Nat} (hS : isS S s) {x n : Int} (h1 : M' S 1 = x) (h2 : M' S 2 = n) (hn : n ≤ 40) (h3 : ∀ i, i < 40 → M' (S + 1) i = 0) (f : Fr (VQ S) M M') : Rs M' (layB B s x n) := by
  intro t ht
  have hb := hS.b
  unfold layB
  by_cases c : t = s
  · subst c
    rw [show 61 + 2 * t = S by omega, if_pos rfl, if_pos rfl, if_pos rfl, if_neg (by decide), if_pos rfl]
    refine ⟨h1, h2, fun i hi => ?_⟩
    rw [if_pos rfl, if_neg (by omega), if_neg (by omega)]
    exact h3 i (by omega)
  · have e : ∀ i j, ¬ VQ S i j → M' i j = M i j := f
    rw [if_neg c, if_neg c, e _ _ (by unfold VQ; omega), e _ _ (by unfold VQ; omega)]
    refine ⟨(h t ht).1, (h t ht).2.1, fun i hi => ?_⟩
    rw [if_neg c, e _ _ (by unfold VQ; omega)]
    exact (h t ht).2.2 i hi
theorem Ws.lay {B : Mm} (h : Ws B) (s : Nat) {x n : Int} (hx : (x = -1 ∧ n = 0) ∨ (0 ≤ x ∧ x ≤ 2 ∧ 0 ≤ n ∧ n ≤ 40)) : Ws (layB B s x n) := by
  intro t ht
  unfold layB
  by_cases c : t = s
  · rw [if_pos c, if_pos c, if_pos rfl, if_neg (by decide), if_pos rfl]; exact hx
  · rw [if_neg c, if_neg c]; exact h t ht
theorem Rs.put {M B : Mm} (h : Rs M B) {S s : Nat} (hS : isS S s) {i : Nat} {v : Int} : Rs (mu M (S + 1) i (cvt (M S 1) v)) (putB B s i v) := by
  intro t ht
  have hb := hS.b
  unfold putB
  have e1 : M S 1 = B s 0 := by rw [hb.2.2.2]; exact (h s hS.1).1
  have g1 : ∀ j, mu M (S + 1) i (cvt (M S 1) v) (61 + 2 * t) j = M (61 + 2 * t) j := fun j => mu_ne _ _ _ (by omega) _
  rw [g1, g1]
  refine ⟨?_, ?_, fun k hk => ?_⟩
  · by_cases c : t = s
    · subst c; rw [mu_nj _ _ _ (by omega)]; exact (h t ht).1
    · rw [mu_ne _ _ _ c]; exact (h t ht).1
  · by_cases c : t = s
    · subst c; rw [mu_nj _ _ _ (by omega)]; exact (h t ht).2.1
    · rw [mu_ne _ _ _ c]; exact (h t ht).2.1
  · by_cases c : t = s
    · subst c
      rw [mu_nj _ _ _ (by omega)] at hk
      rw [show 61 + 2 * t + 1 = S + 1 by omega]
      by_cases c2 : k = i
      · subst c2; rw [mu_self, mu_self, e1]
      · rw [mu_nj _ _ _ c2, mu_nj _ _ _ (by omega), show S + 1 = 61 + 2 * t + 1 by omega]; exact (h t ht).2.2 k hk
    · rw [mu_ne _ _ _ c] at hk
      rw [mu_ne _ _ _ (by omega), mu_ne _ _ _ c]; exact (h t ht).2.2 k hk
theorem Ws.put {B : Mm} (h : Ws B) (s i : Nat) (v : Int) : Ws (putB B s i v) := by
  intro t ht
  unfold putB
  by_cases c : t = s
  · subst c; rw [mu_nj _ _ _ (by omega), mu_nj _ _ _ (by omega)]; exact h t ht
  · rw [mu_ne _ _ _ c, mu_ne _ _ _ c]; exact h t ht
theorem Rs.copy {M B : Mm} (h : Rs M B) {S s S2 s2 : Nat} (hS : isS S s) (hS2 : isS S2 s2) {i j n : Nat} (hi : ((i + n : Nat) : Int) ≤ B s 1) : Rs (mcp M (S + 1) i (S2 + 1) j n) (mcp B s (2 + i) s2 (2 + j) n) := by
  intro t ht
  have hb := hS.b
  have hb2 := hS2.b
  have g1 : ∀ k, mcp M (S + 1) i (S2 + 1) j n (61 + 2 * t) k = M (61 + 2 * t) k := fun k => if_neg (by omega)
  have e0 : ∀ k, k < 2 → mcp B s (2 + i) s2 (2 + j) n t k = B t k := by
    intro k hk
    unfold mcp
    split
    · rw [if_neg (by omega)]
    · rfl
  rw [g1, g1, e0 0 (by omega), e0 1 (by omega)]
  unfold mcp
  refine ⟨(h t ht).1, (h t ht).2.1, fun k hk => ?_⟩
  by_cases c : t = s2
  · subst c
    rw [if_pos (by omega), if_pos rfl]
    by_cases c2 : j ≤ k ∧ k < j + n
    · rw [if_pos c2, if_pos (by omega), show 2 + i + (2 + k - (2 + j)) = 2 + (i + (k - j)) by omega, show S + 1 = 61 + 2 * s + 1 by omega]
      exact (h s hS.1).2.2 _ (by omega)
    · rw [if_neg c2, if_neg (by omega)]; exact (h t ht).2.2 k hk
  · rw [if_neg (by omega), if_neg c]; exact (h t ht).2.2 k hk
theorem Ws.copy {B : Mm} (h : Ws B) (s i s2 j n : Nat) : Ws (mcp B s (2 + i) s2 (2 + j) n) := by
  intro t ht
  have e0 : ∀ k, k < 2 → mcp B s (2 + i) s2 (2 + j) n t k = B t k := by
    intro k hk
    unfold mcp
    split
    · rw [if_neg (by omega)]
    · rfl
  rw [e0 0 (by omega), e0 1 (by omega)]
  exact h t ht
theorem Rs.fr {M M' B : Mm} (h : Rs M B) {V : Nat → Nat → Prop} (f : Fr V M M') (hv : ∀ i j, V i j → ¬ VS i j) : Rs M' B := by
  intro t ht
  have e : ∀ i j, VS i j → M' i j = M i j := fun i j z => f i j (fun v => hv i j v z)
  rw [e _ _ (by unfold VS; omega), e _ _ (by unfold VS; omega)]
  refine ⟨(h t ht).1, (h t ht).2.1, fun k hk => ?_⟩
  rw [e _ _ (by unfold VS; omega)]
  exact (h t ht).2.2 k hk
set_option maxRecDepth 20000 in
set_option maxHeartbeats 4000000 in
theorem lp_lay  {l : Launch} {g : Gw} {d n : Nat} {S s : Nat} (hS : isS S s) (hn : 90 ≤ n) (x y : Int) : ∀ (m p : Nat) (M : Mm) (Q : Option Wd → Mm → Prop), p + m = 40 → SR M → (∀ i, i < p → M (S + 1) i = 0) → (∀ M', Fr (fun i _ => i = S + 1) M M' → (∀ i, i < 40 → M' (S + 1) i = 0) → SR M' → Q none M') → Wp l g d 0 0 n m_X4_lay 21 [] [(2, (S : Int)), (0, x), (0, y), (0, (p : Int))] M Q := by
  have hb := hS.b
  intro m
  induction m with
  | zero =>
    intro p M Q hp hR h0 k
    refine wp_iload_n dX4_lay_21 rfl rfl ?_
    refine wp_bipush dX4_lay_22 (by decide) (by decide) ?_
    refine wp_icmp_ge (tgt := 40) dX4_lay_24 (by decide) (fun _ => ?_) (fun h => absurd h (by omega))
    refine wp_vret rfl dX4_lay_40 ?_
    exact k M Fr.rf (fun i hi => h0 i (by omega)) hR
  | succ m ih =>
    intro p M Q hp hR h0 k
    refine wp_iload_n dX4_lay_21 rfl rfl ?_
    refine wp_bipush dX4_lay_22 (by decide) (by decide) ?_
    refine wp_icmp_ge (tgt := 40) dX4_lay_24 (by decide) (fun h => absurd h (by omega)) (fun _ => ?_)
    refine wp_aload_n dX4_lay_27 rfl rfl ?_
    refine wp_get S rfl fl_RX4_9 hS.k0 ⟨by omega, by omega⟩ dX4_lay_28 rfl (v := ((S + 1 : Nat) : Int)) (hS.r0 hR) ?_
    refine wp_iload_n dX4_lay_31 rfl rfl ?_
    refine wp_iconst dX4_lay_32 (by decide) ?_
    refine wp_iast (S + 1) rfl hS.k1 ⟨by omega, by omega⟩ ⟨by omega, by omega⟩ dX4_lay_33 (jn := p) rfl ?_
    refine wp_iinc (loc' := [(2, (S : Int)), (0, x), (0, y), (0, ((p : Int) + 1))]) dX4_lay_34 rfl (by omega) rfl ?_
    refine wp_goto (tgt := 21) dX4_lay_37 (by decide) ?_
    refine ih (p + 1) _ Q (by omega) (SR.row (by rcases hS.c with ⟨rfl, -⟩ | ⟨rfl, -⟩ | ⟨rfl, -⟩ | ⟨rfl, -⟩ <;> decide) hR) (fun i hi => ?_) (fun M2 a1 a2 a3 => k M2 ((Fr.rf.put (V := fun i _ => i = S + 1) rfl).tr a1) a2 a3)
    by_cases c : i = p
    · subst c; exact mu_self _ _ _ _
    · rw [mu_nj _ _ _ c]; exact h0 i (by omega)
set_option maxRecDepth 20000 in
set_option maxHeartbeats 4000000 in
theorem sp_layS {l : Launch} {g : Gw} {d n : Nat} {M : Mm} {Q : Option Wd → Mm → Prop} {S s : Nat} (hS : isS S s) (hn : 90 ≤ n) (hR : SR M) (hd : 1 ≤ d) (x y : Int) (hy : 0 ≤ y ∧ y ≤ 40) (k : ∀ M', M' S 1 = x → M' S 2 = y → (∀ i, i < 40 → M' (S + 1) i = 0) → Fr (VQ S) M M' → SR M' → Q none M') : Wp l g d 0 0 n m_X4_lay 0 [] [(2, (S : Int)), (0, x), (0, y), (9, 0)] M Q := by
  have hb := hS.b
  refine wp_aload_n dX4_lay_0 rfl rfl ?_
  refine wp_iload_n dX4_lay_1 rfl rfl ?_
  refine wp_puti S rfl fl_RX4_13 hS.k0 ⟨by omega, by omega⟩ dX4_lay_2 rfl rfl ?_
  refine wp_aload_n dX4_lay_5 rfl rfl ?_
  refine wp_iconst dX4_lay_6 (by decide) ?_
  refine wp_iload_n dX4_lay_7 rfl rfl ?_
  refine wp_bipush dX4_lay_8 (by decide) (by decide) ?_
  refine wp_mmin mm_RX4_20 mms_min ini_RJ9 mmc_min (Nat.le_of_ble_eq_true rfl) (by omega) rfl dX4_lay_10 ?_
  refine wp_mmax mm_RX4_26 mms_max ini_RJ9 mmc_max (Nat.le_of_ble_eq_true rfl) (by omega) rfl dX4_lay_13 ?_
  refine wp_puti S rfl fl_RX4_17 hS.k0 ⟨by omega, by omega⟩ dX4_lay_16 rfl rfl ?_
  refine wp_iconst dX4_lay_19 (by decide) ?_
  refine wp_istore_n (loc' := [(2, (S : Int)), (0, x), (0, y), (0, 0)]) dX4_lay_20 rfl (Nat.le_of_ble_eq_true rfl) rfl ?_
  rw [show (if 0 < (if 40 < y then 40 else y) then (if 40 < y then 40 else y) else 0) = y by (repeat' split) <;> omega]
  have f1 : Fr (VQ S) M (mu (mu M S 1 x) S 2 y) := (Fr.rf.put (Or.inr ⟨rfl, Or.inl rfl⟩)).put (Or.inr ⟨rfl, Or.inr rfl⟩)
  refine lp_lay hS hn x y 40 0 _ Q rfl (VQ.sr hS f1 hR) (fun i hi => by omega) (fun M2 a1 a2 a3 => k M2 ?_ ?_ a2 (f1.tr (a1.mono (fun i j h => Or.inl h))) a3)
  · rw [a1 S 1 (by omega), mu_nj _ _ _ (by omega), mu_self]
  · rw [a1 S 2 (by omega), mu_self]
set_option maxRecDepth 20000 in
set_option maxHeartbeats 4000000 in
theorem sp_itemS {l : Launch} {g : Gw} {d n : Nat} {M : Mm} {Q : Option Wd → Mm → Prop} {S s : Nat} (hS : isS S s) (hn : 90 ≤ n) (hR : SR M) (hz : M S 2 ≤ 40) (x : Int) (k1 : 0 ≤ x ∧ x < M S 2 → Q (some (0, M (S + 1) x.toNat)) M) (k2 : ¬ (0 ≤ x ∧ x < M S 2) → Q (some (0, 0)) M) : Wp l g d 0 0 n m_X4_item 0 [] [(2, (S : Int)), (0, x)] M Q := by
  have hb := hS.b
  refine wp_iload_n dX4_item_0 rfl rfl ?_
  refine wp_if_lt (tgt := 27) dX4_item_1 (by decide) (fun h1 => ?_) (fun h1 => ?_)
  · refine wp_iconst dX4_item_27 (by decide) ?_
    refine wp_iret rfl dX4_item_28 ?_
    exact k2 (by omega)
  · refine wp_iload_n dX4_item_4 rfl rfl ?_
    refine wp_aload_n dX4_item_5 rfl rfl ?_
    refine wp_get S rfl fl_RX4_17 hS.k0 ⟨by omega, by omega⟩ dX4_item_6 rfl (v := (M S 2)) (rfl) ?_
    refine wp_icmp_ge (tgt := 27) dX4_item_9 (by decide) (fun h9 => ?_) (fun h9 => ?_)
    · refine wp_iconst dX4_item_27 (by decide) ?_
      refine wp_iret rfl dX4_item_28 ?_
      exact k2 (by omega)
    · refine wp_iload_n dX4_item_12 rfl rfl ?_
      refine wp_bipush dX4_item_13 (by decide) (by decide) ?_
      refine wp_icmp_ge (tgt := 27) dX4_item_15 (by decide) (fun h15 => ?_) (fun h15 => ?_)
      · refine wp_iconst dX4_item_27 (by decide) ?_
        refine wp_iret rfl dX4_item_28 ?_
        exact k2 (by omega)
      · refine wp_aload_n dX4_item_18 rfl rfl ?_
        refine wp_get S rfl fl_RX4_9 hS.k0 ⟨by omega, by omega⟩ dX4_item_19 rfl (v := ((S + 1 : Nat) : Int)) (hS.r0 hR) ?_
        refine wp_iload_n dX4_item_22 rfl rfl ?_
        refine wp_iald (S + 1) rfl hS.k1 ⟨by omega, by omega⟩ ⟨by omega, by omega⟩ dX4_item_23 (v := (M (S + 1) (x).toNat)) (rfl) ?_
        refine wp_goto (tgt := 28) dX4_item_24 (by decide) ?_
        refine wp_iret rfl dX4_item_28 ?_
        exact k1 (by omega)
set_option maxRecDepth 20000 in
set_option maxHeartbeats 4000000 in
theorem sp_putS {l : Launch} {g : Gw} {d n : Nat} {M : Mm} {Q : Option Wd → Mm → Prop} {S s : Nat} (hS : isS S s) (hn : 90 ≤ n) (hR : SR M) (hz : M S 2 ≤ 40) (x v : Int) (k1 : 0 ≤ x ∧ x < M S 2 → Q none (mu M (S + 1) x.toNat (cvt (M S 1) v))) (k2 : ¬ (0 ≤ x ∧ x < M S 2) → Q none M) : Wp l g d 0 0 n m_X4_put 0 [] [(2, (S : Int)), (0, x), (0, v)] M Q := by
  have hb := hS.b
  refine wp_iload_n dX4_put_0 rfl rfl ?_
  refine wp_if_lt (tgt := 50) dX4_put_1 (by decide) (fun h1 => ?_) (fun h1 => ?_)
  · refine wp_vret rfl dX4_put_50 ?_
    exact k2 (by omega)
  · refine wp_iload_n dX4_put_4 rfl rfl ?_
    refine wp_aload_n dX4_put_5 rfl rfl ?_
    refine wp_get S rfl fl_RX4_17 hS.k0 ⟨by omega, by omega⟩ dX4_put_6 rfl (v := (M S 2)) (rfl) ?_
    refine wp_icmp_ge (tgt := 50) dX4_put_9 (by decide) (fun h9 => ?_) (fun h9 => ?_)
    · refine wp_vret rfl dX4_put_50 ?_
      exact k2 (by omega)
    · refine wp_iload_n dX4_put_12 rfl rfl ?_
      refine wp_bipush dX4_put_13 (by decide) (by decide) ?_
      refine wp_icmp_ge (tgt := 50) dX4_put_15 (by decide) (fun h15 => ?_) (fun h15 => ?_)
      · refine wp_vret rfl dX4_put_50 ?_
        exact k2 (by omega)
      · refine wp_aload_n dX4_put_18 rfl rfl ?_
        refine wp_get S rfl fl_RX4_9 hS.k0 ⟨by omega, by omega⟩ dX4_put_19 rfl (v := ((S + 1 : Nat) : Int)) (hS.r0 hR) ?_
        refine wp_iload_n dX4_put_22 rfl rfl ?_
        refine wp_aload_n dX4_put_23 rfl rfl ?_
        refine wp_get S rfl fl_RX4_13 hS.k0 ⟨by omega, by omega⟩ dX4_put_24 rfl (v := (M S 1)) (rfl) ?_
        refine wp_if_ne (tgt := 35) dX4_put_27 (by decide) (fun h27 => ?_) (fun h27 => ?_)
        · refine wp_aload_n dX4_put_35 rfl rfl ?_
          refine wp_get S rfl fl_RX4_13 hS.k0 ⟨by omega, by omega⟩ dX4_put_36 rfl (v := (M S 1)) (rfl) ?_
          refine wp_iconst dX4_put_39 (by decide) ?_
          refine wp_icmp_ne (tgt := 48) dX4_put_40 (by decide) (fun h40 => ?_) (fun h40 => ?_)
          · refine wp_iload_n dX4_put_48 rfl rfl ?_
            refine wp_iast (S + 1) rfl hS.k1 ⟨by omega, by omega⟩ ⟨by omega, by omega⟩ dX4_put_49 (jn := (x).toNat) rfl ?_
            refine wp_vret rfl dX4_put_50 ?_
            rw [show v = cvt (M S 1) v by unfold cvt; rw [if_neg (by omega), if_neg (by omega)]]
            exact k1 (by omega)
          · refine wp_iload_n dX4_put_43 rfl rfl ?_
            refine wp_i2s dX4_put_44 ?_
            refine wp_goto (tgt := 49) dX4_put_45 (by decide) ?_
            refine wp_iast (S + 1) rfl hS.k1 ⟨by omega, by omega⟩ ⟨by omega, by omega⟩ dX4_put_49 (jn := (x).toNat) rfl ?_
            refine wp_vret rfl dX4_put_50 ?_
            rw [show (i16 v) = cvt (M S 1) v by unfold cvt; rw [if_neg (by omega), if_pos (by omega)]]
            exact k1 (by omega)
        · refine wp_iload_n dX4_put_30 rfl rfl ?_
          refine wp_i2b dX4_put_31 ?_
          refine wp_goto (tgt := 49) dX4_put_32 (by decide) ?_
          refine wp_iast (S + 1) rfl hS.k1 ⟨by omega, by omega⟩ ⟨by omega, by omega⟩ dX4_put_49 (jn := (x).toNat) rfl ?_
          refine wp_vret rfl dX4_put_50 ?_
          rw [show (i8 v) = cvt (M S 1) v by unfold cvt; rw [if_pos (by omega)]]
          exact k1 (by omega)
set_option maxRecDepth 20000 in
set_option maxHeartbeats 4000000 in
theorem sp_hasS {l : Launch} {g : Gw} {d n : Nat} {M : Mm} {Q : Option Wd → Mm → Prop} {S s : Nat} (hS : isS S s) (hn : 90 ≤ n) (hR : SR M) (hz : 0 ≤ M S 2 ∧ M S 2 ≤ 40) (x y : Int) (k1 : 0 ≤ x ∧ 0 ≤ y ∧ x + y ≤ M S 2 → Q (some (0, 1)) M) (k2 : ¬ (0 ≤ x ∧ 0 ≤ y ∧ x + y ≤ M S 2) → Q (some (0, 0)) M) : Wp l g d 0 0 n m_X4_hasItems 0 [] [(2, (S : Int)), (0, x), (0, y)] M Q := by
  have hb := hS.b
  refine wp_iload_n dX4_hasItems_0 rfl rfl ?_
  refine wp_if_lt (tgt := 30) dX4_hasItems_1 (by decide) (fun h1 => ?_) (fun h1 => ?_)
  · refine wp_iconst dX4_hasItems_30 (by decide) ?_
    refine wp_zret rfl (by omega) dX4_hasItems_31 ?_
    exact k2 (by omega)
  · refine wp_iload_n dX4_hasItems_4 rfl rfl ?_
    refine wp_if_lt (tgt := 30) dX4_hasItems_5 (by decide) (fun h5 => ?_) (fun h5 => ?_)
    · refine wp_iconst dX4_hasItems_30 (by decide) ?_
      refine wp_zret rfl (by omega) dX4_hasItems_31 ?_
      exact k2 (by omega)
    · refine wp_iload_n dX4_hasItems_8 rfl rfl ?_
      refine wp_aload_n dX4_hasItems_9 rfl rfl ?_
      refine wp_get S rfl fl_RX4_17 hS.k0 ⟨by omega, by omega⟩ dX4_hasItems_10 rfl (v := (M S 2)) (rfl) ?_
      refine wp_icmp_gt (tgt := 30) dX4_hasItems_13 (by decide) (fun h13 => ?_) (fun h13 => ?_)
      · refine wp_iconst dX4_hasItems_30 (by decide) ?_
        refine wp_zret rfl (by omega) dX4_hasItems_31 ?_
        exact k2 (by omega)
      · refine wp_iload_n dX4_hasItems_16 rfl rfl ?_
        refine wp_aload_n dX4_hasItems_17 rfl rfl ?_
        refine wp_get S rfl fl_RX4_17 hS.k0 ⟨by omega, by omega⟩ dX4_hasItems_18 rfl (v := (M S 2)) (rfl) ?_
        refine wp_iload_n dX4_hasItems_21 rfl rfl ?_
        refine wp_isub dX4_hasItems_22 (by omega) ?_
        refine wp_icmp_gt (tgt := 30) dX4_hasItems_23 (by decide) (fun h23 => ?_) (fun h23 => ?_)
        · refine wp_iconst dX4_hasItems_30 (by decide) ?_
          refine wp_zret rfl (by omega) dX4_hasItems_31 ?_
          exact k2 (by omega)
        · refine wp_iconst dX4_hasItems_26 (by decide) ?_
          refine wp_goto (tgt := 31) dX4_hasItems_27 (by decide) ?_
          refine wp_zret rfl (by omega) dX4_hasItems_31 ?_
          exact k1 (by omega)
set_option maxRecDepth 20000 in
set_option maxHeartbeats 4000000 in
theorem sp_carryS {l : Launch} {g : Gw} {d n : Nat} {M : Mm} {Q : Option Wd → Mm → Prop} {S s S2 s2 : Nat} (hS : isS S s) (hS2 : isS S2 s2) (hn : 90 ≤ n) (hR : SR M) (hd : 2 ≤ d) (hz : 0 ≤ M S 2 ∧ M S 2 ≤ 40) (hz2 : 0 ≤ M S2 2 ∧ M S2 2 ≤ 40) (x y z : Int) (h1 : 0 ≤ x ∧ 0 ≤ z ∧ x + z ≤ M S 2) (h2 : 0 ≤ y ∧ 0 ≤ z ∧ y + z ≤ M S2 2) (k : Q none (mcp M (S + 1) x.toNat (S2 + 1) y.toNat z.toNat)) : Wp l g d 0 0 n m_X4_carry 0 [] [(2, (S : Int)), (0, x), (2, (S2 : Int)), (0, y), (0, z)] M Q := by
  have hb := hS.b
  have hb2 := hS2.b
  refine wp_aload_n dX4_carry_0 rfl rfl ?_
  refine wp_iload_n dX4_carry_1 rfl rfl ?_
  refine wp_iload dX4_carry_2 rfl ?_
  refine wp_callV0 (d' := d - 1) cv_RX4_29 S rfl [(0, x), (0, z)] [] rfl rfl (Or.inl ⟨_, _, hS.k0, by decide, rfl, by omega, by omega⟩) (by omega) (Nat.le_of_ble_eq_true rfl) dX4_carry_4 rfl (Nat.le_of_ble_eq_true rfl) (by omega) (loc1 := [(2, (S : Int)), (0, x), (0, z)]) rfl ?_
  refine sp_hasS hS hn hR hz x z (fun h4 => ?_) (fun h4 => ?_)
  · refine wp_if_eq (tgt := 35) dX4_carry_7 (by decide) (fun h => absurd h (by decide)) (fun _ => ?_)
    refine wp_aload_n dX4_carry_10 rfl rfl ?_
    refine wp_iload_n dX4_carry_11 rfl rfl ?_
    refine wp_iload dX4_carry_12 rfl ?_
    refine wp_callV0 (d' := d - 1) cv_RX4_29 S2 rfl [(0, y), (0, z)] [] rfl rfl (Or.inl ⟨_, _, hS2.k0, by decide, rfl, by omega, by omega⟩) (by omega) (Nat.le_of_ble_eq_true rfl) dX4_carry_14 rfl (Nat.le_of_ble_eq_true rfl) (by omega) (loc1 := [(2, (S2 : Int)), (0, y), (0, z)]) rfl ?_
    refine sp_hasS hS2 hn hR hz2 y z (fun h14 => ?_) (fun h14 => ?_)
    · refine wp_if_eq (tgt := 35) dX4_carry_17 (by decide) (fun h => absurd h (by decide)) (fun _ => ?_)
      refine wp_aload_n dX4_carry_20 rfl rfl ?_
      refine wp_get S rfl fl_RX4_9 hS.k0 ⟨by omega, by omega⟩ dX4_carry_21 rfl (v := ((S + 1 : Nat) : Int)) (hS.r0 hR) ?_
      refine wp_iload_n dX4_carry_24 rfl rfl ?_
      refine wp_aload_n dX4_carry_25 rfl rfl ?_
      refine wp_get S2 rfl fl_RX4_9 hS2.k0 ⟨by omega, by omega⟩ dX4_carry_26 rfl (v := ((S2 + 1 : Nat) : Int)) (hS2.r0 hR) ?_
      refine wp_iload_n dX4_carry_29 rfl rfl ?_
      refine wp_iload dX4_carry_30 rfl ?_
      refine wp_copy (S + 1) (S2 + 1) rfl rfl hS.k1 hS2.k1 ⟨by omega, by omega⟩ ⟨by omega, by omega⟩ (by omega) (by omega) (by omega) (by omega) (by omega) acl_RX4_33 acn acs ini_RJ10 (Nat.le_of_ble_eq_true rfl) (by omega) rfl (by decide) dX4_carry_32 ?_
      refine wp_vret rfl dX4_carry_35 ?_
      exact k
    · refine wp_if_eq (tgt := 35) dX4_carry_17 (by decide) (fun _ => ?_) (fun h => absurd h (by decide))
      refine wp_vret rfl dX4_carry_35 ?_
      omega
  · refine wp_if_eq (tgt := 35) dX4_carry_7 (by decide) (fun _ => ?_) (fun h => absurd h (by decide))
    refine wp_vret rfl dX4_carry_35 ?_
    omega
set_option maxRecDepth 20000 in
set_option maxHeartbeats 4000000 in
theorem sp_sheetOf {l : Launch} {g : Gw} {d n : Nat} {M : Mm} {Q : Option Wd → Mm → Prop} (hn : 90 ≤ n) (hR : SR M) (x : Int) (kN : ¬ (0 ≤ x ∧ x < 4) → Q (some (2, 0)) M) (k : ∀ S s : Nat, isS S s → x = (s : Int) → Q (some (2, (S : Int))) M) : Wp l g d 0 0 n m_X7_sheetOf 0 [] [(2, 1), (0, x)] M Q := by
  by_cases hx : 0 ≤ x ∧ x < 4
  · rcases (show x = 0 ∨ x = 1 ∨ x = 2 ∨ x = 3 by omega) with rfl | rfl | rfl | rfl
    · refine wp_iload_n dX7_sheetOf_0 rfl rfl ?_
      refine wp_if_lt (tgt := 9) dX7_sheetOf_1 (by decide) (fun h => absurd h (by decide)) (fun _ => ?_)
      refine wp_iload_n dX7_sheetOf_4 rfl rfl ?_
      refine wp_iconst dX7_sheetOf_5 (by decide) ?_
      refine wp_icmp_lt (tgt := 13) dX7_sheetOf_6 (by decide) (fun _ => ?_) (fun h => absurd h (by decide))
      refine wp_aload_n dX7_sheetOf_13 rfl rfl ?_
      refine wp_get 1 rfl fl_RX7_56 rfl ⟨by omega, by omega⟩ dX7_sheetOf_14 rfl (v := 60) (sr_1_8 (M := M) hR) ?_
      refine wp_iload_n dX7_sheetOf_17 rfl rfl ?_
      refine wp_aald 60 rfl (t := 3) rfl (by decide) ⟨by omega, by omega⟩ ⟨by omega, by omega⟩ dX7_sheetOf_18 (v := 61) (sr_60_0 (M := M) hR) ?_
      refine wp_aret rfl (Or.inl ⟨_, rfl⟩) dX7_sheetOf_19 ?_
      exact k 61 0 ⟨by decide, rfl⟩ rfl
    · refine wp_iload_n dX7_sheetOf_0 rfl rfl ?_
      refine wp_if_lt (tgt := 9) dX7_sheetOf_1 (by decide) (fun h => absurd h (by decide)) (fun _ => ?_)
      refine wp_iload_n dX7_sheetOf_4 rfl rfl ?_
      refine wp_iconst dX7_sheetOf_5 (by decide) ?_
      refine wp_icmp_lt (tgt := 13) dX7_sheetOf_6 (by decide) (fun _ => ?_) (fun h => absurd h (by decide))
      refine wp_aload_n dX7_sheetOf_13 rfl rfl ?_
      refine wp_get 1 rfl fl_RX7_56 rfl ⟨by omega, by omega⟩ dX7_sheetOf_14 rfl (v := 60) (sr_1_8 (M := M) hR) ?_
      refine wp_iload_n dX7_sheetOf_17 rfl rfl ?_
      refine wp_aald 60 rfl (t := 3) rfl (by decide) ⟨by omega, by omega⟩ ⟨by omega, by omega⟩ dX7_sheetOf_18 (v := 63) (sr_60_1 (M := M) hR) ?_
      refine wp_aret rfl (Or.inl ⟨_, rfl⟩) dX7_sheetOf_19 ?_
      exact k 63 1 ⟨by decide, rfl⟩ rfl
    · refine wp_iload_n dX7_sheetOf_0 rfl rfl ?_
      refine wp_if_lt (tgt := 9) dX7_sheetOf_1 (by decide) (fun h => absurd h (by decide)) (fun _ => ?_)
      refine wp_iload_n dX7_sheetOf_4 rfl rfl ?_
      refine wp_iconst dX7_sheetOf_5 (by decide) ?_
      refine wp_icmp_lt (tgt := 13) dX7_sheetOf_6 (by decide) (fun _ => ?_) (fun h => absurd h (by decide))
      refine wp_aload_n dX7_sheetOf_13 rfl rfl ?_
      refine wp_get 1 rfl fl_RX7_56 rfl ⟨by omega, by omega⟩ dX7_sheetOf_14 rfl (v := 60) (sr_1_8 (M := M) hR) ?_
      refine wp_iload_n dX7_sheetOf_17 rfl rfl ?_
      refine wp_aald 60 rfl (t := 3) rfl (by decide) ⟨by omega, by omega⟩ ⟨by omega, by omega⟩ dX7_sheetOf_18 (v := 65) (sr_60_2 (M := M) hR) ?_
      refine wp_aret rfl (Or.inl ⟨_, rfl⟩) dX7_sheetOf_19 ?_
      exact k 65 2 ⟨by decide, rfl⟩ rfl
    · refine wp_iload_n dX7_sheetOf_0 rfl rfl ?_
      refine wp_if_lt (tgt := 9) dX7_sheetOf_1 (by decide) (fun h => absurd h (by decide)) (fun _ => ?_)
      refine wp_iload_n dX7_sheetOf_4 rfl rfl ?_
      refine wp_iconst dX7_sheetOf_5 (by decide) ?_
      refine wp_icmp_lt (tgt := 13) dX7_sheetOf_6 (by decide) (fun _ => ?_) (fun h => absurd h (by decide))
      refine wp_aload_n dX7_sheetOf_13 rfl rfl ?_
      refine wp_get 1 rfl fl_RX7_56 rfl ⟨by omega, by omega⟩ dX7_sheetOf_14 rfl (v := 60) (sr_1_8 (M := M) hR) ?_
      refine wp_iload_n dX7_sheetOf_17 rfl rfl ?_
      refine wp_aald 60 rfl (t := 3) rfl (by decide) ⟨by omega, by omega⟩ ⟨by omega, by omega⟩ dX7_sheetOf_18 (v := 67) (sr_60_3 (M := M) hR) ?_
      refine wp_aret rfl (Or.inl ⟨_, rfl⟩) dX7_sheetOf_19 ?_
      exact k 67 3 ⟨by decide, rfl⟩ rfl
  · refine wp_iload_n dX7_sheetOf_0 rfl rfl ?_
    refine wp_if_lt (tgt := 9) dX7_sheetOf_1 (by decide) (fun h1 => ?_) (fun h1 => ?_)
    · refine wp_null dX7_sheetOf_9 ?_
      refine wp_goto (tgt := 19) dX7_sheetOf_10 (by decide) ?_
      refine wp_aret rfl (Or.inl ⟨_, rfl⟩) dX7_sheetOf_19 ?_
      exact kN (by omega)
    · refine wp_iload_n dX7_sheetOf_4 rfl rfl ?_
      refine wp_iconst dX7_sheetOf_5 (by decide) ?_
      refine wp_icmp_lt (tgt := 13) dX7_sheetOf_6 (by decide) (fun h => absurd h (by omega)) (fun _ => ?_)
      refine wp_null dX7_sheetOf_9 ?_
      refine wp_goto (tgt := 19) dX7_sheetOf_10 (by decide) ?_
      refine wp_aret rfl (Or.inl ⟨_, rfl⟩) dX7_sheetOf_19 ?_
      exact kN (by omega)
set_option maxRecDepth 20000 in
set_option maxHeartbeats 4000000 in
theorem cs_sheet {l : Launch} {g : Gw} {d n : Nat} {M : Mm} {Q : Option Wd → Mm → Prop} (hn : 90 ≤ n) (hd : 10 ≤ d) (hR : SR M) {B : Mm} (hB : Rs M B) (hV : Ws B) (x y z : Int) (kB : ¬ (0 ≤ x ∧ x < 4 ∧ -1 ≤ y ∧ y ≤ 2 ∧ (y = -1 ∨ z ≤ 40)) → Q (some (0, -2)) M) (kW : (0 ≤ x ∧ x < 4 ∧ 0 ≤ y ∧ y ≤ 2 ∧ z < 0) → Q (some (0, -14)) M) (kM : (0 ≤ x ∧ x < 4 ∧ y = -1) → ∀ M', Rs M' (layB B x.toNat y 0) → Fr VS M M' → SR M' → Q (some (0, 1)) M') (k : (0 ≤ x ∧ x < 4 ∧ 0 ≤ y ∧ y ≤ 2 ∧ 0 ≤ z ∧ z ≤ 40) → ∀ M', Rs M' (layB B x.toNat y z) → Fr VS M M' → SR M' → Q (some (0, 1)) M') : Wp l g d 0 0 n m_X7_sheet 0 [] [(2, 1), (0, x), (0, y), (0, z), (9, 0)] M Q := by
  refine wp_aload_n dX7_sheet_0 rfl rfl ?_
  refine wp_iload_n dX7_sheet_1 rfl rfl ?_
  refine wp_callV0 (d' := d - 1) cv_RX7_212 1 rfl [(0, x)] [] rfl rfl (Or.inl ⟨_, _, rfl, by decide, rfl, by omega, by omega⟩) (by omega) (Nat.le_of_ble_eq_true rfl) dX7_sheet_2 rfl (Nat.le_of_ble_eq_true rfl) (by omega) (loc1 := [(2, 1), (0, x)]) rfl ?_
  refine sp_sheetOf hn hR x (fun hN2 => ?_) (fun S s hS eS => ?_)
  · refine wp_astore (loc' := [(2, 1), (0, x), (0, y), (0, z), (2, 0)]) dX7_sheet_5 (Nat.le_of_ble_eq_true rfl) rfl ?_
    refine wp_aload dX7_sheet_7 rfl ?_
    refine wp_ifnull (tgt := 24) dX7_sheet_9 (by decide) (fun _ => ?_) (fun h => absurd h (by decide))
    refine wp_bipush dX7_sheet_24 (by decide) (by decide) ?_
    refine wp_iret rfl dX7_sheet_26 ?_
    exact kB (by omega)
  · subst eS
    have bS := hS.b
    have g1S : M S 1 = B s 0 := by have q := (hB s hS.1).1; rw [← hS.2] at q; exact q
    have g2S : M S 2 = B s 1 := by have q := (hB s hS.1).2.1; rw [← hS.2] at q; exact q
    have g3S := hV.r hS.1
    refine wp_astore (loc' := [(2, 1), (0, (s : Int)), (0, y), (0, z), (2, (S : Int))]) dX7_sheet_5 (Nat.le_of_ble_eq_true rfl) rfl ?_
    refine wp_aload dX7_sheet_7 rfl ?_
    refine wp_ifnull (tgt := 24) dX7_sheet_9 (by decide) (fun h => absurd h (by omega)) (fun _ => ?_)
    refine wp_iload_n dX7_sheet_12 rfl rfl ?_
    refine wp_iconst dX7_sheet_13 (by decide) ?_
    refine wp_icmp_eq (tgt := 27) dX7_sheet_14 (by decide) (fun h14 => ?_) (fun h14 => ?_)
    · refine wp_iload_n dX7_sheet_27 rfl rfl ?_
      refine wp_iconst dX7_sheet_28 (by decide) ?_
      refine wp_icmp_ne (tgt := 41) dX7_sheet_29 (by decide) (fun h29 => ?_) (fun h29 => ?_)
      · refine wp_iload_n dX7_sheet_41 rfl rfl ?_
        refine wp_bipush dX7_sheet_42 (by decide) (by decide) ?_
        refine wp_icmp_le (tgt := 50) dX7_sheet_44 (by decide) (fun h44 => ?_) (fun h44 => ?_)
        · refine wp_iload_n dX7_sheet_50 rfl rfl ?_
          refine wp_if_ge (tgt := 57) dX7_sheet_51 (by decide) (fun h51 => ?_) (fun h51 => ?_)
          · refine wp_aload dX7_sheet_57 rfl ?_
            refine wp_iload_n dX7_sheet_59 rfl rfl ?_
            refine wp_iload_n dX7_sheet_60 rfl rfl ?_
            refine wp_callV0 (d' := d - 1) cv_RX7_247 S rfl [(0, y), (0, z)] [] rfl rfl (Or.inl ⟨_, _, hS.k0, by decide, rfl, by omega, by omega⟩) (by omega) (Nat.le_of_ble_eq_true rfl) dX7_sheet_61 rfl (Nat.le_of_ble_eq_true rfl) (by omega) (loc1 := [(2, (S : Int)), (0, y), (0, z), (9, 0)]) rfl ?_
            refine sp_layS hS hn hR (by omega) y z (by omega) (fun M1 m1 m2 m3 m4 m5 => ?_)
            refine wp_iconst dX7_sheet_64 (by decide) ?_
            refine wp_iret rfl dX7_sheet_65 ?_
            exact k (by omega) M1 (hB.lay hS m1 m2 (by omega) m3 m4) (m4.mono (VQ.s hS)) m5
          · refine wp_bipush dX7_sheet_54 (by decide) (by decide) ?_
            refine wp_iret rfl dX7_sheet_56 ?_
            exact kW (by omega)
        · refine wp_bipush dX7_sheet_47 (by decide) (by decide) ?_
          refine wp_iret rfl dX7_sheet_49 ?_
          exact kB (by omega)
      · refine wp_aload dX7_sheet_32 rfl ?_
        refine wp_iload_n dX7_sheet_34 rfl rfl ?_
        refine wp_iconst dX7_sheet_35 (by decide) ?_
        refine wp_callV0 (d' := d - 1) cv_RX7_247 S rfl [(0, y), (0, 0)] [] rfl rfl (Or.inl ⟨_, _, hS.k0, by decide, rfl, by omega, by omega⟩) (by omega) (Nat.le_of_ble_eq_true rfl) dX7_sheet_36 rfl (Nat.le_of_ble_eq_true rfl) (by omega) (loc1 := [(2, (S : Int)), (0, y), (0, 0), (9, 0)]) rfl ?_
        refine sp_layS hS hn hR (by omega) y 0 (by omega) (fun M1 m1 m2 m3 m4 m5 => ?_)
        refine wp_iconst dX7_sheet_39 (by decide) ?_
        refine wp_iret rfl dX7_sheet_40 ?_
        exact kM (by omega) M1 (hB.lay hS m1 m2 (by omega) m3 m4) (m4.mono (VQ.s hS)) m5
    · refine wp_iload_n dX7_sheet_17 rfl rfl ?_
      refine wp_callS0 (d' := d - 1) cs_RX7_265 [(0, y)] [] rfl rfl (Nat.le_of_ble_eq_true rfl) dX7_sheet_18 rfl (Nat.le_of_ble_eq_true rfl) (by omega) (loc1 := [(0, y)]) rfl ?_
      refine wp_iload_n dX4_isSort_0 rfl rfl ?_
      refine wp_if_lt (tgt := 13) dX4_isSort_1 (by decide) (fun h1 => ?_) (fun h1 => ?_)
      · refine wp_iconst dX4_isSort_13 (by decide) ?_
        refine wp_zret rfl (by omega) dX4_isSort_14 ?_
        refine wp_if_ne (tgt := 27) dX7_sheet_21 (by decide) (fun h => absurd h (by decide)) (fun _ => ?_)
        refine wp_bipush dX7_sheet_24 (by decide) (by decide) ?_
        refine wp_iret rfl dX7_sheet_26 ?_
        exact kB (by omega)
      · refine wp_iload_n dX4_isSort_4 rfl rfl ?_
        refine wp_iconst dX4_isSort_5 (by decide) ?_
        refine wp_icmp_gt (tgt := 13) dX4_isSort_6 (by decide) (fun h6 => ?_) (fun h6 => ?_)
        · refine wp_iconst dX4_isSort_13 (by decide) ?_
          refine wp_zret rfl (by omega) dX4_isSort_14 ?_
          refine wp_if_ne (tgt := 27) dX7_sheet_21 (by decide) (fun h => absurd h (by decide)) (fun _ => ?_)
          refine wp_bipush dX7_sheet_24 (by decide) (by decide) ?_
          refine wp_iret rfl dX7_sheet_26 ?_
          exact kB (by omega)
        · refine wp_iconst dX4_isSort_9 (by decide) ?_
          refine wp_goto (tgt := 14) dX4_isSort_10 (by decide) ?_
          refine wp_zret rfl (by omega) dX4_isSort_14 ?_
          refine wp_if_ne (tgt := 27) dX7_sheet_21 (by decide) (fun _ => ?_) (fun h => absurd h (by decide))
          refine wp_iload_n dX7_sheet_27 rfl rfl ?_
          refine wp_iconst dX7_sheet_28 (by decide) ?_
          refine wp_icmp_ne (tgt := 41) dX7_sheet_29 (by decide) (fun h29 => ?_) (fun h29 => ?_)
          · refine wp_iload_n dX7_sheet_41 rfl rfl ?_
            refine wp_bipush dX7_sheet_42 (by decide) (by decide) ?_
            refine wp_icmp_le (tgt := 50) dX7_sheet_44 (by decide) (fun h44 => ?_) (fun h44 => ?_)
            · refine wp_iload_n dX7_sheet_50 rfl rfl ?_
              refine wp_if_ge (tgt := 57) dX7_sheet_51 (by decide) (fun h51 => ?_) (fun h51 => ?_)
              · refine wp_aload dX7_sheet_57 rfl ?_
                refine wp_iload_n dX7_sheet_59 rfl rfl ?_
                refine wp_iload_n dX7_sheet_60 rfl rfl ?_
                refine wp_callV0 (d' := d - 1) cv_RX7_247 S rfl [(0, y), (0, z)] [] rfl rfl (Or.inl ⟨_, _, hS.k0, by decide, rfl, by omega, by omega⟩) (by omega) (Nat.le_of_ble_eq_true rfl) dX7_sheet_61 rfl (Nat.le_of_ble_eq_true rfl) (by omega) (loc1 := [(2, (S : Int)), (0, y), (0, z), (9, 0)]) rfl ?_
                refine sp_layS hS hn hR (by omega) y z (by omega) (fun M1 m1 m2 m3 m4 m5 => ?_)
                refine wp_iconst dX7_sheet_64 (by decide) ?_
                refine wp_iret rfl dX7_sheet_65 ?_
                exact k (by omega) M1 (hB.lay hS m1 m2 (by omega) m3 m4) (m4.mono (VQ.s hS)) m5
              · refine wp_bipush dX7_sheet_54 (by decide) (by decide) ?_
                refine wp_iret rfl dX7_sheet_56 ?_
                exact kW (by omega)
            · refine wp_bipush dX7_sheet_47 (by decide) (by decide) ?_
              refine wp_iret rfl dX7_sheet_49 ?_
              exact kB (by omega)
          · refine wp_aload dX7_sheet_32 rfl ?_
            refine wp_iload_n dX7_sheet_34 rfl rfl ?_
            refine wp_iconst dX7_sheet_35 (by decide) ?_
            refine wp_callV0 (d' := d - 1) cv_RX7_247 S rfl [(0, y), (0, 0)] [] rfl rfl (Or.inl ⟨_, _, hS.k0, by decide, rfl, by omega, by omega⟩) (by omega) (Nat.le_of_ble_eq_true rfl) dX7_sheet_36 rfl (Nat.le_of_ble_eq_true rfl) (by omega) (loc1 := [(2, (S : Int)), (0, y), (0, 0), (9, 0)]) rfl ?_
            refine sp_layS hS hn hR (by omega) y 0 (by omega) (fun M1 m1 m2 m3 m4 m5 => ?_)
            refine wp_iconst dX7_sheet_39 (by decide) ?_
            refine wp_iret rfl dX7_sheet_40 ?_
            exact kM (by omega) M1 (hB.lay hS m1 m2 (by omega) m3 m4) (m4.mono (VQ.s hS)) m5
set_option maxRecDepth 20000 in
set_option maxHeartbeats 4000000 in
theorem cs_cell {l : Launch} {g : Gw} {d n : Nat} {M : Mm} {Q : Option Wd → Mm → Prop} (hn : 90 ≤ n) (hd : 10 ≤ d) (hR : SR M) {B : Mm} (hB : Rs M B) (hV : Ws B) (x y z : Int) (kB : ¬ (0 ≤ x ∧ x < 4) → Q (some (0, -2)) M) (kN : (0 ≤ x ∧ x < 4) → B x.toNat 0 = -1 → Q (some (0, -11)) M) (kO : (0 ≤ x ∧ x < 4) → B x.toNat 0 ≠ -1 → ¬ (0 ≤ y ∧ y < B x.toNat 1) → Q (some (0, -12)) M) (k : (0 ≤ x ∧ x < 4) → B x.toNat 0 ≠ -1 → (0 ≤ y ∧ y < B x.toNat 1) → ∀ M', Rs M' (putB B x.toNat y.toNat z) → Fr VS M M' → SR M' → Q (some (0, 1)) M') : Wp l g d 0 0 n m_X7_cell 0 [] [(2, 1), (0, x), (0, y), (0, z), (9, 0)] M Q := by
  refine wp_aload_n dX7_cell_0 rfl rfl ?_
  refine wp_iload_n dX7_cell_1 rfl rfl ?_
  refine wp_callV0 (d' := d - 1) cv_RX7_212 1 rfl [(0, x)] [] rfl rfl (Or.inl ⟨_, _, rfl, by decide, rfl, by omega, by omega⟩) (by omega) (Nat.le_of_ble_eq_true rfl) dX7_cell_2 rfl (Nat.le_of_ble_eq_true rfl) (by omega) (loc1 := [(2, 1), (0, x)]) rfl ?_
  refine sp_sheetOf hn hR x (fun hN2 => ?_) (fun S s hS eS => ?_)
  · refine wp_astore (loc' := [(2, 1), (0, x), (0, y), (0, z), (2, 0)]) dX7_cell_5 (Nat.le_of_ble_eq_true rfl) rfl ?_
    refine wp_aload dX7_cell_7 rfl ?_
    refine wp_ifnonnull (tgt := 15) dX7_cell_9 (by decide) (fun h => absurd h (by decide)) (fun _ => ?_)
    refine wp_bipush dX7_cell_12 (by decide) (by decide) ?_
    refine wp_iret rfl dX7_cell_14 ?_
    exact kB (by omega)
  · subst eS
    have bS := hS.b
    have g1S : M S 1 = B s 0 := by have q := (hB s hS.1).1; rw [← hS.2] at q; exact q
    have g2S : M S 2 = B s 1 := by have q := (hB s hS.1).2.1; rw [← hS.2] at q; exact q
    have g3S := hV.r hS.1
    refine wp_astore (loc' := [(2, 1), (0, (s : Int)), (0, y), (0, z), (2, (S : Int))]) dX7_cell_5 (Nat.le_of_ble_eq_true rfl) rfl ?_
    refine wp_aload dX7_cell_7 rfl ?_
    refine wp_ifnonnull (tgt := 15) dX7_cell_9 (by decide) (fun _ => ?_) (fun h => absurd h (by omega))
    refine wp_aload dX7_cell_15 rfl ?_
    refine wp_callV0 (d' := d - 1) cv_RX7_216 S rfl [] [] rfl rfl (Or.inl ⟨_, _, hS.k0, by decide, rfl, by omega, by omega⟩) (by omega) (Nat.le_of_ble_eq_true rfl) dX7_cell_17 rfl (Nat.le_of_ble_eq_true rfl) (by omega) (loc1 := [(2, (S : Int))]) rfl ?_
    refine wp_aload_n dX4_isMissing_0 rfl rfl ?_
    refine wp_get S rfl fl_RX4_13 hS.k0 ⟨by omega, by omega⟩ dX4_isMissing_1 rfl (v := (M S 1)) (rfl) ?_
    refine wp_iconst dX4_isMissing_4 (by decide) ?_
    refine wp_icmp_ne (tgt := 12) dX4_isMissing_5 (by decide) (fun h5 => ?_) (fun h5 => ?_)
    · refine wp_iconst dX4_isMissing_12 (by decide) ?_
      refine wp_zret rfl (by omega) dX4_isMissing_13 ?_
      refine wp_if_eq (tgt := 26) dX7_cell_20 (by decide) (fun _ => ?_) (fun h => absurd h (by decide))
      refine wp_iload_n dX7_cell_26 rfl rfl ?_
      refine wp_if_lt (tgt := 39) dX7_cell_27 (by decide) (fun h27 => ?_) (fun h27 => ?_)
      · refine wp_bipush dX7_cell_39 (by decide) (by decide) ?_
        refine wp_iret rfl dX7_cell_41 ?_
        exact kO (by omega) (by show B s 0 ≠ -1; omega) (by show ¬ (0 ≤ y ∧ y < B s 1); omega)
      · refine wp_iload_n dX7_cell_30 rfl rfl ?_
        refine wp_aload dX7_cell_31 rfl ?_
        refine wp_get S rfl fl_RX7_219 hS.k0 ⟨by omega, by omega⟩ dX7_cell_33 rfl (v := (M S 2)) (rfl) ?_
        refine wp_icmp_lt (tgt := 42) dX7_cell_36 (by decide) (fun h36 => ?_) (fun h36 => ?_)
        · refine wp_aload dX7_cell_42 rfl ?_
          refine wp_iload_n dX7_cell_44 rfl rfl ?_
          refine wp_iload_n dX7_cell_45 rfl rfl ?_
          refine wp_callV0 (d' := d - 1) cv_RX7_250 S rfl [(0, y), (0, z)] [] rfl rfl (Or.inl ⟨_, _, hS.k0, by decide, rfl, by omega, by omega⟩) (by omega) (Nat.le_of_ble_eq_true rfl) dX7_cell_46 rfl (Nat.le_of_ble_eq_true rfl) (by omega) (loc1 := [(2, (S : Int)), (0, y), (0, z)]) rfl ?_
          refine sp_putS hS hn hR (by omega) y z (fun _ => ?_) (fun h => absurd (by omega) h)
          refine wp_iconst dX7_cell_49 (by decide) ?_
          refine wp_iret rfl dX7_cell_50 ?_
          have f1 : Fr (VQ S) M (mu M (S + 1) y.toNat (cvt (M S 1) z)) := Fr.rf.put (Or.inl rfl)
          exact k (by omega) (by show B s 0 ≠ -1; omega) (by show 0 ≤ y ∧ y < B s 1; omega) _ (hB.put hS) (f1.mono (VQ.s hS)) (VQ.sr hS f1 hR)
        · refine wp_bipush dX7_cell_39 (by decide) (by decide) ?_
          refine wp_iret rfl dX7_cell_41 ?_
          exact kO (by omega) (by show B s 0 ≠ -1; omega) (by show ¬ (0 ≤ y ∧ y < B s 1); omega)
    · refine wp_iconst dX4_isMissing_8 (by decide) ?_
      refine wp_goto (tgt := 13) dX4_isMissing_9 (by decide) ?_
      refine wp_zret rfl (by omega) dX4_isMissing_13 ?_
      refine wp_if_eq (tgt := 26) dX7_cell_20 (by decide) (fun h => absurd h (by decide)) (fun _ => ?_)
      refine wp_bipush dX7_cell_23 (by decide) (by decide) ?_
      refine wp_iret rfl dX7_cell_25 ?_
      exact kN (by omega) (by show B s 0 = -1; omega)
