/-! ===== Text: the stack ===== -/
def isT (T : Nat) : Prop := T = 27 ∨ T = 31 ∨ T = 35 ∨ T = 39 ∨ T = 43 ∨ T = 47
theorem isT.b {T : Nat} (h : isT T) : 27 ≤ T ∧ T ≤ 47 := by unfold isT at h; omega
theorem isT.k0 {T : Nat} (h : isT T) : kd T = (5, 5) := by rcases h with rfl | rfl | rfl | rfl | rfl | rfl <;> rfl
theorem isT.k1 {T : Nat} (h : isT T) : kd (T + 1) = (10, 160) := by rcases h with rfl | rfl | rfl | rfl | rfl | rfl <;> rfl
theorem isT.k2 {T : Nat} (h : isT T) : kd (T + 2) = (10, 3) := by rcases h with rfl | rfl | rfl | rfl | rfl | rfl <;> rfl
theorem isT.k3 {T : Nat} (h : isT T) : kd (T + 3) = (10, 160) := by rcases h with rfl | rfl | rfl | rfl | rfl | rfl <;> rfl
theorem isT.r0 {T : Nat} {M : Mm} (h : isT T) (hR : SR M) : M T 0 = ((T + 1 : Nat) : Int) := by
  rcases h with rfl | rfl | rfl | rfl | rfl | rfl
  · exact sr_27_0 hR
  · exact sr_31_0 hR
  · exact sr_35_0 hR
  · exact sr_39_0 hR
  · exact sr_43_0 hR
  · exact sr_47_0 hR
theorem isT.r1 {T : Nat} {M : Mm} (h : isT T) (hR : SR M) : M T 1 = ((T + 2 : Nat) : Int) := by
  rcases h with rfl | rfl | rfl | rfl | rfl | rfl
  · exact sr_27_1 hR
  · exact sr_31_1 hR
  · exact sr_35_1 hR
  · exact sr_39_1 hR
  · exact sr_43_1 hR
  · exact sr_47_1 hR
theorem isT.r3 {T : Nat} {M : Mm} (h : isT T) (hR : SR M) : M T 3 = ((T + 3 : Nat) : Int) := by
  rcases h with rfl | rfl | rfl | rfl | rfl | rfl
  · exact sr_27_3 hR
  · exact sr_31_3 hR
  · exact sr_35_3 hR
  · exact sr_39_3 hR
  · exact sr_43_3 hR
  · exact sr_47_3 hR
/-- the stack of a Text holds these numbers, the top one first -/
def Stk (M : Mm) (T : Nat) (s : List Int) : Prop := M T 4 = (s.length : Int) ∧ ∀ k : Nat, k < s.length → M (T + 3) k = s.reverse.getD k 0
/-- the cells of a Text's stack -/
def VT (T i j : Nat) : Prop := i = T + 3 ∨ (i = T ∧ j = 4)
theorem VT.sr {M M' : Mm} {T : Nat} (hT : isT T) (h : Fr (VT T) M M') (hR : SR M) : SR M' := by
  refine hR.of (fun q hq => h _ _ ?_)
  have hall : ∀ q ∈ srL, ∀ T ∈ [27, 31, 35, 39, 43, 47], ¬ (q.1 = T + 3 ∨ (q.1 = T ∧ q.2.1 = 4)) := by decide +kernel
  refine hall q hq T ?_
  rcases hT with rfl | rfl | rfl | rfl | rfl | rfl <;> decide
theorem Stk.push {M : Mm} {T : Nat} {s : List Int} (h : Stk M T s) (v : Int) : Stk (mu (mu M (T + 3) (M T 4).toNat v) T 4 (M T 4 + 1)) T (v :: s) := by
  obtain ⟨h1, h2⟩ := h
  refine ⟨?_, fun k hk => ?_⟩
  · rw [mu_self, h1]; simp
  · rw [mu_ne _ _ _ (by omega), h1]
    simp only [List.length_cons] at hk
    by_cases e : k = s.length
    · subst e
      rw [show ((s.length : Int)).toNat = s.length from rfl, mu_self]
      simp [List.getD_eq_getElem?_getD]
    · rw [mu_nj _ _ _ (by omega), h2 k (by omega)]
      simp only [List.getD_eq_getElem?_getD, List.reverse_cons]
      rw [List.getElem?_append_left (by simp; omega)]
theorem Stk.pull {M : Mm} {T : Nat} {v : Int} {s : List Int} (h : Stk M T (v :: s)) : Stk (mu M T 4 (M T 4 - 1)) T s ∧ M (T + 3) (M T 4 - 1).toNat = v := by
  obtain ⟨h1, h2⟩ := h
  simp only [List.length_cons] at h1 h2
  have e : (M T 4 - 1).toNat = s.length := by omega
  refine ⟨⟨by rw [mu_self]; omega, fun k hk => ?_⟩, ?_⟩
  · rw [mu_ne _ _ _ (by omega), h2 k (by omega)]
    simp only [List.getD_eq_getElem?_getD, List.reverse_cons]
    rw [List.getElem?_append_left (by simp; omega)]
  · rw [e, h2 s.length (by omega)]
    simp [List.getD_eq_getElem?_getD]
set_option maxRecDepth 20000 in
set_option maxHeartbeats 4000000 in
theorem sp_push {l : Launch} {g : Gw} {d n : Nat} {M : Mm} {Q : Option Wd → Mm → Prop} {T : Nat} (hT : isT T) (hn : 60 ≤ n) (hR : SR M) {s : List Int} (hS : Stk M T s) (hl : s.length < 160) (v : Int) (k : ∀ M', Stk M' T (v :: s) → Fr (VT T) M M' → SR M' → Q none M') : Wp l g d 0 0 n m_X5_push 0 [] [(2, (T : Int)), (0, v)] M Q := by
  have hb := hT.b
  have h1 := hS.1
  refine wp_aload_n dX5_push_0 rfl rfl ?_
  refine wp_get T rfl fl_RX5_25 hT.k0 ⟨by omega, by omega⟩ dX5_push_1 rfl (v := (M T 4)) (rfl) ?_
  refine wp_if_lt (tgt := 39) dX5_push_4 (by decide) (fun h => absurd h (by omega)) (fun _ => ?_)
  refine wp_aload_n dX5_push_7 rfl rfl ?_
  refine wp_get T rfl fl_RX5_25 hT.k0 ⟨by omega, by omega⟩ dX5_push_8 rfl (v := (M T 4)) (rfl) ?_
  refine wp_aload_n dX5_push_11 rfl rfl ?_
  refine wp_get T rfl fl_RX5_18 hT.k0 ⟨by omega, by omega⟩ dX5_push_12 rfl (v := ((T + 3 : Nat) : Int)) (hT.r3 hR) ?_
  refine wp_alen (T + 3) rfl hT.k3 (by decide) (by decide) ⟨by omega, by omega⟩ dX5_push_15 ?_
  refine wp_icmp_ge (tgt := 39) dX5_push_16 (by decide) (fun h => absurd h (by omega)) (fun _ => ?_)
  refine wp_aload_n dX5_push_19 rfl rfl ?_
  refine wp_get T rfl fl_RX5_18 hT.k0 ⟨by omega, by omega⟩ dX5_push_20 rfl (v := ((T + 3 : Nat) : Int)) (hT.r3 hR) ?_
  refine wp_aload_n dX5_push_23 rfl rfl ?_
  refine wp_get T rfl fl_RX5_25 hT.k0 ⟨by omega, by omega⟩ dX5_push_24 rfl (v := (M T 4)) (rfl) ?_
  refine wp_iload_n dX5_push_27 rfl rfl ?_
  refine wp_iast (T + 3) rfl hT.k3 ⟨by omega, by omega⟩ ⟨by omega, by omega⟩ dX5_push_28 (jn := ((M T 4)).toNat) rfl ?_
  refine wp_aload_n dX5_push_29 rfl rfl ?_
  refine wp_dup dX5_push_30 (Or.inr rfl) ?_
  refine wp_get T rfl fl_RX5_25 hT.k0 ⟨by omega, by omega⟩ dX5_push_31 rfl (v := (M T 4)) ((mu_ne _ _ _ (by omega) _).trans (rfl)) ?_
  refine wp_iconst dX5_push_34 (by decide) ?_
  refine wp_iadd dX5_push_35 (by omega) ?_
  refine wp_puti T rfl fl_RX5_25 hT.k0 ⟨by omega, by omega⟩ dX5_push_36 rfl rfl ?_
  refine wp_vret rfl dX5_push_39 ?_
  have f : Fr (VT T) M (mu (mu M (T + 3) (M T 4).toNat v) T 4 (M T 4 + 1)) := (Fr.rf.put (Or.inl rfl)).put (Or.inr ⟨rfl, rfl⟩)
  exact k _ (hS.push v) f (VT.sr hT f hR)
set_option maxRecDepth 20000 in
set_option maxHeartbeats 4000000 in
theorem sp_pull {l : Launch} {g : Gw} {d n : Nat} {M : Mm} {Q : Option Wd → Mm → Prop} {T : Nat} (hT : isT T) (hn : 60 ≤ n) (hR : SR M) {s : List Int} (hS : Stk M T s) (hl : s.length ≤ 160) (k : ∀ M', Stk M' T s.tail → Fr (VT T) M M' → SR M' → Q (some (0, s.headD 0)) M') : Wp l g d 0 0 n m_X5_pull 0 [] [(2, (T : Int))] M Q := by
  have hb := hT.b
  cases s with
  | nil =>
    have h1 : M T 4 = 0 := hS.1
    refine wp_aload_n dX5_pull_0 rfl rfl ?_
    refine wp_get T rfl fl_RX5_25 hT.k0 ⟨by omega, by omega⟩ dX5_pull_1 rfl (v := (M T 4)) (rfl) ?_
    refine wp_if_le (tgt := 19) dX5_pull_4 (by decide) (fun _ => ?_) (fun h => absurd h (by omega))
    refine wp_iconst dX5_pull_19 (by decide) ?_
    refine wp_iret rfl dX5_pull_20 ?_
    exact k M hS Fr.rf hR
  | cons v s =>
    have h1 : M T 4 = ((s.length + 1 : Nat) : Int) := hS.1
    have h2 : s.length + 1 ≤ 160 := hl
    refine wp_aload_n dX5_pull_0 rfl rfl ?_
    refine wp_get T rfl fl_RX5_25 hT.k0 ⟨by omega, by omega⟩ dX5_pull_1 rfl (v := (M T 4)) (rfl) ?_
    refine wp_if_le (tgt := 19) dX5_pull_4 (by decide) (fun h => absurd h (by omega)) (fun _ => ?_)
    refine wp_aload_n dX5_pull_7 rfl rfl ?_
    refine wp_get T rfl fl_RX5_25 hT.k0 ⟨by omega, by omega⟩ dX5_pull_8 rfl (v := (M T 4)) (rfl) ?_
    refine wp_aload_n dX5_pull_11 rfl rfl ?_
    refine wp_get T rfl fl_RX5_18 hT.k0 ⟨by omega, by omega⟩ dX5_pull_12 rfl (v := ((T + 3 : Nat) : Int)) (hT.r3 hR) ?_
    refine wp_alen (T + 3) rfl hT.k3 (by decide) (by decide) ⟨by omega, by omega⟩ dX5_pull_15 ?_
    refine wp_icmp_le (tgt := 21) dX5_pull_16 (by decide) (fun _ => ?_) (fun h => absurd h (by omega))
    refine wp_aload_n dX5_pull_21 rfl rfl ?_
    refine wp_dup dX5_pull_22 (Or.inr rfl) ?_
    refine wp_get T rfl fl_RX5_25 hT.k0 ⟨by omega, by omega⟩ dX5_pull_23 rfl (v := (M T 4)) (rfl) ?_
    refine wp_iconst dX5_pull_26 (by decide) ?_
    refine wp_isub dX5_pull_27 (by omega) ?_
    refine wp_puti T rfl fl_RX5_25 hT.k0 ⟨by omega, by omega⟩ dX5_pull_28 rfl rfl ?_
    refine wp_aload_n dX5_pull_31 rfl rfl ?_
    refine wp_get T rfl fl_RX5_18 hT.k0 ⟨by omega, by omega⟩ dX5_pull_32 rfl (v := ((T + 3 : Nat) : Int)) ((mu_nj _ _ _ (by omega)).trans (hT.r3 hR)) ?_
    refine wp_aload_n dX5_pull_35 rfl rfl ?_
    refine wp_get T rfl fl_RX5_25 hT.k0 ⟨by omega, by omega⟩ dX5_pull_36 rfl (v := ((M T 4) - 1)) (mu_self _ _ _ _) ?_
    refine wp_iald (T + 3) rfl hT.k3 ⟨by omega, by omega⟩ ⟨by omega, by omega⟩ dX5_pull_39 (v := (M (T + 3) (((M T 4) - 1)).toNat)) ((mu_ne _ _ _ (by omega) _).trans (rfl)) ?_
    refine wp_iret rfl dX5_pull_40 ?_
    have f : Fr (VT T) M (mu M T 4 (M T 4 - 1)) := Fr.rf.put (Or.inr ⟨rfl, rfl⟩)
    exact (show (M (T + 3) (((M T 4) - 1)).toNat) = v from hS.pull.2) ▸ k _ hS.pull.1 f (VT.sr hT f hR)
