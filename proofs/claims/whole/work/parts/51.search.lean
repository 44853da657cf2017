/-! ===== the class's search: lay, keep ===== -/
abbrev pr0 : Od × Int := ([], 0)
/-- the orders found, as the class keeps them -/
def Fnd (M : Mm) (N : Nat) (l : List (Od × Int)) : Prop := M 52 3 = (l.length : Int) ∧ ∀ i : Nat, i < l.length → M 53 i = encN 5 0 (at0 (l.getD i pr0).1) N ∧ M 54 i = (l.getD i pr0).2
def FI (M : Mm) (N : Nat) (l : List (Od × Int)) : Prop := ∀ c : Nat, c < 3125 → M 55 c ≤ M 52 5 ∧ (M 55 c = M 52 5 ↔ ∃ y ∈ l.map Prod.fst, encN 5 0 (at0 y) N = (c : Int))
/-- what a search writes -/
def VY (i j : Nat) : Prop := (i = 52 ∧ (j = 3 ∨ j = 5 ∨ 10 ≤ j)) ∨ (53 ≤ i ∧ i ≤ 59)
theorem VY.sr {M M' : Mm} (h : Fr VY M M') (hR : SR M) : SR M' := hR.frL h (by unfold VY; decide +kernel)
theorem pow5 {p : Nat} (h : p ≤ 5) : (5 : Int) ^ p ≤ 3125 := by
  rcases (show p = 0 ∨ p = 1 ∨ p = 2 ∨ p = 3 ∨ p = 4 ∨ p = 5 by omega) with rfl | rfl | rfl | rfl | rfl | rfl <;> decide
theorem enc5_r {N : Nat} {x : Od} (h : okO N x) (hN : N ≤ 5) {p : Nat} (hp : p ≤ N) : 0 ≤ encN 5 0 (at0 x) p ∧ encN 5 0 (at0 x) p < 3125 := by
  have h1 := encN_r (b := 5) (o := 0) (by omega) (by omega) (f := at0 x) p (fun q hq => by have := h.at (p := q) (by omega); omega)
  have h2 := pow5 (p := p) (by omega)
  omega
theorem enc5_inj {N : Nat} {x y : Od} (h : okO N x) (hy : okO N y) (e : encN 5 0 (at0 x) N = encN 5 0 (at0 y) N) : x = y :=
  od_ext h.1 hy.1 (encN_inj (b := 5) (o := 0) (by omega) (by omega) N (fun q hq => by have := h.at hq; omega) (fun q hq => by have := hy.at hq; omega) e)
theorem getD_ok {N : Nat} {l : List (Od × Int)} (h : ∀ z ∈ l.map Prod.fst, okO N z) {i : Nat} (hi : i < l.length) : okO N (l.getD i pr0).1 := by
  apply h
  rw [List.mem_map]
  refine ⟨l[i], List.getElem_mem _, ?_⟩
  simp [List.getD_eq_getElem?_getD, List.getElem?_eq_getElem hi]
theorem Fnd.app {M : Mm} {N : Nat} {l : List (Od × Int)} (h : Fnd M N l) (y : Od) (w c : Int) (hc : c = encN 5 0 (at0 y) N) (M' : Mm) (h1 : M' 52 3 = M 52 3 + 1) (h2 : ∀ i, M' 53 i = if i = (M 52 3).toNat then c else M 53 i) (h3 : ∀ i, M' 54 i = if i = (M 52 3).toNat then w else M 54 i) : Fnd M' N (l ++ [(y, w)]) := by
  obtain ⟨a, b⟩ := h
  refine ⟨by rw [h1, a]; simp, fun i hi => ?_⟩
  rw [h2, h3, a]
  simp only [List.length_append, List.length_cons, List.length_nil] at hi
  by_cases e : i = l.length
  · subst e
    rw [if_pos (by omega), if_pos (by omega)]
    simp [List.getD_eq_getElem?_getD, hc]
  · rw [if_neg (by omega), if_neg (by omega)]
    have := b i (by omega)
    rw [show (l ++ [(y, w)]).getD i pr0 = l.getD i pr0 by simp [List.getD_eq_getElem?_getD, List.getElem?_append_left (show i < l.length by omega)]]
    exact this
theorem FI.app {M : Mm} {N : Nat} {l : List (Od × Int)} (h : FI M N l) (y : Od) (w : Int) (cn : Nat) (hc : (cn : Int) = encN 5 0 (at0 y) N) (M' : Mm) (h1 : M' 52 5 = M 52 5) (h2 : ∀ i, M' 55 i = if i = cn then M 52 5 else M 55 i) : FI M' N (l ++ [(y, w)]) := by
  intro c hcl
  obtain ⟨a, b⟩ := h c hcl
  rw [h1, h2]
  by_cases e : c = cn
  · rw [if_pos e]
    refine ⟨by omega, fun _ => ⟨y, by simp, by rw [← hc, e]⟩, fun _ => rfl⟩
  · rw [if_neg e]
    refine ⟨a, fun z => ?_, fun z => ?_⟩
    · obtain ⟨q, q1, q2⟩ := b.mp z
      exact ⟨q, by rw [List.map_append]; exact List.mem_append_left _ q1, q2⟩
    · obtain ⟨q, q1, q2⟩ := z
      rw [List.map_append, List.mem_append] at q1
      rcases q1 with q1 | q1
      · exact b.mpr ⟨q, q1, q2⟩
      · simp at q1
        subst q1
        omega
set_option maxRecDepth 20000 in
set_option maxHeartbeats 4000000 in
theorem lp_layO  {l : Launch} {g : Gw} {d n : Nat} (hn : 60 ≤ n) (i : Int) {f : Nat → Int} {N : Nat} (hN : N ≤ 5) (hf : ∀ q, q < N → 0 ≤ f q ∧ f q ≤ 4) : ∀ (m : Nat) (M : Mm) (Q : Option Wd → Mm → Prop), m ≤ N → SR M → (∀ q, m ≤ q → q < N → M 56 q = f q) → (∀ M', Fr (fun i _ => i = 56) M M' → (∀ q, q < N → M' 56 q = f q) → SR M' → Q none M') → Wp l g d 0 0 n m_X3_lay 36 [] [(2, 52), (0, i), (0, encN 5 0 f m), (0, (m : Int) - 1)] M Q := by
  intro m
  induction m with
  | zero =>
    intro M Q hm hR h0 k
    refine wp_iload_n dX3_lay_36 rfl rfl ?_
    refine wp_if_lt (tgt := 59) dX3_lay_37 (by decide) (fun _ => ?_) (fun h => absurd h (by omega))
    refine wp_vret rfl dX3_lay_59 ?_
    exact k M Fr.rf (fun q hq => h0 q (by omega) hq) hR
  | succ m ih =>
    intro M Q hm hR h0 k
    refine wp_iload_n dX3_lay_36 rfl rfl ?_
    refine wp_if_lt (tgt := 59) dX3_lay_37 (by decide) (fun h => absurd h (by omega)) (fun _ => ?_)
    refine wp_aload_n dX3_lay_40 rfl rfl ?_
    refine wp_get 52 rfl fl_RX3_21 rfl ⟨by omega, by omega⟩ dX3_lay_41 rfl (v := 56) (sr_52_6 (M := M) hR) ?_
    refine wp_iload_n dX3_lay_44 rfl rfl ?_
    refine wp_iload_n dX3_lay_45 rfl rfl ?_
    refine wp_iconst dX3_lay_46 (by decide) ?_
    refine wp_irem dX3_lay_47 (by omega) ?_
    refine wp_iast 56 rfl rfl ⟨by omega, by omega⟩ ⟨by omega, by omega⟩ dX3_lay_48 (jn := m) (by omega) ?_
    refine wp_iload_n dX3_lay_49 rfl rfl ?_
    refine wp_iconst dX3_lay_50 (by decide) ?_
    refine wp_idiv dX3_lay_51 (by omega) ?_
    refine wp_istore_n (loc' := [(2, 52), (0, i), (0, (Int.tdiv (encN 5 0 f (m + 1)) 5)), (0, (((m + 1 : Nat) : Int) - 1))]) dX3_lay_52 rfl (Nat.le_of_ble_eq_true rfl) rfl ?_
    refine wp_iinc (loc' := [(2, 52), (0, i), (0, (Int.tdiv (encN 5 0 f (m + 1)) 5)), (0, ((((m + 1 : Nat) : Int) - 1) + (-1)))]) dX3_lay_53 rfl (by omega) rfl ?_
    refine wp_goto (tgt := 36) dX3_lay_56 (by decide) ?_
    obtain ⟨em, ed⟩ := encN_mod (b := 5) (o := 0) (by omega) (by omega) (f := f) (n := m) (fun q hq => by have := hf q (by omega); omega)
    rw [ed, em, show f m + 0 = f m by omega, show ((((m + 1 : Nat) : Int) - 1) + (-1)) = (m : Int) - 1 by omega]
    refine ih _ Q (by omega) (SR.row (by decide) hR) (fun q h1 h2 => ?_) (fun M2 a1 a2 a3 => k M2 ((Fr.rf.put (V := fun i _ => i = 56) rfl).tr a1) a2 a3)
    by_cases c : q = m
    · subst c; exact mu_self _ _ _ _
    · rw [mu_nj _ _ _ c]; exact h0 q (by omega) h2
set_option maxRecDepth 20000 in
set_option maxHeartbeats 4000000 in
theorem sp_layO {l : Launch} {g : Gw} {d n : Nat} {M : Mm} {Q : Option Wd → Mm → Prop} (hn : 60 ≤ n) (hR : SR M) {N : Nat} {lt : List (Od × Int)} (hF : Fnd M N lt) (h120 : lt.length ≤ 120) (hL : M 52 11 = (N : Int)) (hN : N ≤ 5) {i : Nat} (hi : i < lt.length) (hO : okO N (lt.getD i pr0).1) (k : ∀ M', Fr (fun i _ => i = 56) M M' → (∀ q, q < N → M' 56 q = at0 (lt.getD i pr0).1 q) → SR M' → Q none M') : Wp l g d 0 0 n m_X3_lay 0 [] [(2, 52), (0, (i : Int)), (9, 0), (9, 0)] M Q := by
  have h3 := hF.1
  refine wp_iload_n dX3_lay_0 rfl rfl ?_
  refine wp_if_lt (tgt := 27) dX3_lay_1 (by decide) (fun h => absurd h (by omega)) (fun _ => ?_)
  refine wp_iload_n dX3_lay_4 rfl rfl ?_
  refine wp_aload_n dX3_lay_5 rfl rfl ?_
  refine wp_get 52 rfl fl_RX3_58 rfl ⟨by omega, by omega⟩ dX3_lay_6 rfl (v := (M 52 3)) (rfl) ?_
  refine wp_icmp_ge (tgt := 27) dX3_lay_9 (by decide) (fun h => absurd h (by omega)) (fun _ => ?_)
  refine wp_iload_n dX3_lay_12 rfl rfl ?_
  refine wp_bipush dX3_lay_13 (by decide) (by decide) ?_
  refine wp_icmp_ge (tgt := 27) dX3_lay_15 (by decide) (fun h => absurd h (by omega)) (fun _ => ?_)
  refine wp_aload_n dX3_lay_18 rfl rfl ?_
  refine wp_get 52 rfl fl_RX3_11 rfl ⟨by omega, by omega⟩ dX3_lay_19 rfl (v := 53) (sr_52_1 (M := M) hR) ?_
  refine wp_iload_n dX3_lay_22 rfl rfl ?_
  refine wp_iald 53 rfl rfl ⟨by omega, by omega⟩ ⟨by omega, by omega⟩ dX3_lay_23 (v := (M 53 i)) (rfl) ?_
  refine wp_goto (tgt := 28) dX3_lay_24 (by decide) ?_
  refine wp_istore_n (loc' := [(2, 52), (0, (i : Int)), (0, (M 53 i)), (9, 0)]) dX3_lay_28 rfl (Nat.le_of_ble_eq_true rfl) rfl ?_
  refine wp_aload_n dX3_lay_29 rfl rfl ?_
  refine wp_get 52 rfl fl_RX3_57 rfl ⟨by omega, by omega⟩ dX3_lay_30 rfl (v := (M 52 11)) (rfl) ?_
  refine wp_iconst dX3_lay_33 (by decide) ?_
  refine wp_isub dX3_lay_34 (by omega) ?_
  refine wp_istore_n (loc' := [(2, 52), (0, (i : Int)), (0, (M 53 i)), (0, ((M 52 11) - 1))]) dX3_lay_35 rfl (Nat.le_of_ble_eq_true rfl) rfl ?_
  rw [show M 53 i = encN 5 0 (at0 (lt.getD i pr0).1) N from (hF.2 i hi).1, hL]
  exact lp_layO hn i hN (fun q hq => (hO).at hq) N M Q (by omega) hR (fun q h1 h2 => by omega) k
set_option maxRecDepth 20000 in
set_option maxHeartbeats 4000000 in
theorem sp_passingsAt {l : Launch} {g : Gw} {d n : Nat} {M : Mm} {Q : Option Wd → Mm → Prop} (hn : 60 ≤ n) (hR : SR M) {N : Nat} {lt : List (Od × Int)} (hF : Fnd M N lt) (h120 : lt.length ≤ 120) {i : Nat} (hi : i < lt.length) (k : Q (some (0, (lt.getD i pr0).2)) M) : Wp l g d 0 0 n m_X3_passingsAt 0 [] [(2, 52), (0, (i : Int))] M Q := by
  have h3 := hF.1
  refine wp_iload_n dX3_passingsAt_0 rfl rfl ?_
  refine wp_if_lt (tgt := 27) dX3_passingsAt_1 (by decide) (fun h => absurd h (by omega)) (fun _ => ?_)
  refine wp_iload_n dX3_passingsAt_4 rfl rfl ?_
  refine wp_aload_n dX3_passingsAt_5 rfl rfl ?_
  refine wp_get 52 rfl fl_RX3_58 rfl ⟨by omega, by omega⟩ dX3_passingsAt_6 rfl (v := (M 52 3)) (rfl) ?_
  refine wp_icmp_ge (tgt := 27) dX3_passingsAt_9 (by decide) (fun h => absurd h (by omega)) (fun _ => ?_)
  refine wp_iload_n dX3_passingsAt_12 rfl rfl ?_
  refine wp_bipush dX3_passingsAt_13 (by decide) (by decide) ?_
  refine wp_icmp_ge (tgt := 27) dX3_passingsAt_15 (by decide) (fun h => absurd h (by omega)) (fun _ => ?_)
  refine wp_aload_n dX3_passingsAt_18 rfl rfl ?_
  refine wp_get 52 rfl fl_RX3_15 rfl ⟨by omega, by omega⟩ dX3_passingsAt_19 rfl (v := 54) (sr_52_2 (M := M) hR) ?_
  refine wp_iload_n dX3_passingsAt_22 rfl rfl ?_
  refine wp_iald 54 rfl rfl ⟨by omega, by omega⟩ ⟨by omega, by omega⟩ dX3_passingsAt_23 (v := (M 54 i)) (rfl) ?_
  refine wp_goto (tgt := 28) dX3_passingsAt_24 (by decide) ?_
  refine wp_iret rfl dX3_passingsAt_28 ?_
  rw [show M 54 i = (lt.getD i pr0).2 from (hF.2 i hi).2]
  exact k
set_option maxRecDepth 20000 in
set_option maxHeartbeats 4000000 in
theorem lp_code  {l : Launch} {g : Gw} {d n : Nat} {M : Mm} {Q : Option Wd → Mm → Prop} (hn : 60 ≤ n) (hR : SR M) (w : Int) {y : Od} {N : Nat} (hN : N ≤ 5) (hO : okO N y) (hL : M 52 11 = (N : Int)) (hy : ∀ q, q < N → M 56 q = at0 y q) (k : Wp l g d 0 0 n m_X3_keep 29 [] [(2, 52), (0, w), (0, encN 5 0 (at0 y) N), (0, (N : Int))] M Q) : ∀ (m p : Nat), p + m = N → Wp l g d 0 0 n m_X3_keep 4 [] [(2, 52), (0, w), (0, encN 5 0 (at0 y) p), (0, (p : Int))] M Q := by
  intro m
  induction m with
  | zero =>
    intro p hp
    refine wp_iload_n dX3_keep_4 rfl rfl ?_
    refine wp_aload_n dX3_keep_5 rfl rfl ?_
    refine wp_get 52 rfl fl_RX3_57 rfl ⟨by omega, by omega⟩ dX3_keep_6 rfl (v := (M 52 11)) (rfl) ?_
    refine wp_icmp_ge (tgt := 29) dX3_keep_9 (by decide) (fun _ => ?_) (fun h => absurd h (by omega))
    have hpN : p = N := by omega
    subst hpN
    exact k
  | succ m ih =>
    intro p hp
    have r1 := enc5_r hO hN (p := p) (by omega)
    have r2 := hO.at (p := p) (by omega)
    have r3 := hy p (by omega)
    refine wp_iload_n dX3_keep_4 rfl rfl ?_
    refine wp_aload_n dX3_keep_5 rfl rfl ?_
    refine wp_get 52 rfl fl_RX3_57 rfl ⟨by omega, by omega⟩ dX3_keep_6 rfl (v := (M 52 11)) (rfl) ?_
    refine wp_icmp_ge (tgt := 29) dX3_keep_9 (by decide) (fun h => absurd h (by omega)) (fun _ => ?_)
    refine wp_iload_n dX3_keep_12 rfl rfl ?_
    refine wp_iconst dX3_keep_13 (by decide) ?_
    refine wp_imul dX3_keep_14 (by omega) ?_
    refine wp_aload_n dX3_keep_15 rfl rfl ?_
    refine wp_get 52 rfl fl_RX3_21 rfl ⟨by omega, by omega⟩ dX3_keep_16 rfl (v := 56) (sr_52_6 (M := M) hR) ?_
    refine wp_iload_n dX3_keep_19 rfl rfl ?_
    refine wp_iald 56 rfl rfl ⟨by omega, by omega⟩ ⟨by omega, by omega⟩ dX3_keep_20 (v := (M 56 p)) (rfl) ?_
    refine wp_iadd dX3_keep_21 (by omega) ?_
    refine wp_istore_n (loc' := [(2, 52), (0, w), (0, (((encN 5 0 (at0 y) p) * 5) + (M 56 p))), (0, (p : Int))]) dX3_keep_22 rfl (Nat.le_of_ble_eq_true rfl) rfl ?_
    refine wp_iinc (loc' := [(2, 52), (0, w), (0, (((encN 5 0 (at0 y) p) * 5) + (M 56 p))), (0, ((p : Int) + 1))]) dX3_keep_23 rfl (by omega) rfl ?_
    refine wp_goto (tgt := 4) dX3_keep_26 (by decide) ?_
    rw [show encN 5 0 (at0 y) p * 5 + M 56 p = encN 5 0 (at0 y) (p + 1) by rw [hy p (by omega)]; show _ = encN 5 0 (at0 y) p * 5 + at0 y p + 0; omega]
    exact ih (p + 1) (by omega)
def VK (i j : Nat) : Prop := (i = 52 ∧ j = 3) ∨ i = 53 ∨ i = 54 ∨ i = 55
theorem VK.y : ∀ i j, VK i j → VY i j := by
  intro i j h
  unfold VK at h
  unfold VY
  omega
set_option maxRecDepth 20000 in
set_option maxHeartbeats 4000000 in
theorem sp_keep {l : Launch} {g : Gw} {d n : Nat} {M : Mm} {Q : Option Wd → Mm → Prop} (hn : 60 ≤ n) (hR : SR M) {N : Nat} {lt : List (Od × Int)} (hF : Fnd M N lt) (hI : FI M N lt) (h120 : lt.length ≤ 120) (hA : ∀ z ∈ lt.map Prod.fst, okO N z) (hL : M 52 11 = (N : Int)) (hN : N ≤ 5) (w : Int) {y : Od} (hO : okO N y) (hy : ∀ q, q < N → M 56 q = at0 y q) (hlt : ¬ y ∈ lt.map Prod.fst → lt.length < 120) (k : ∀ M', Fnd M' N (keepA lt y w) → FI M' N (keepA lt y w) → Fr VK M M' → SR M' → Q none M') : Wp l g d 0 0 n m_X3_keep 0 [] [(2, 52), (0, w), (9, 0), (9, 0)] M Q := by
  have h3 := hF.1
  refine wp_iconst dX3_keep_0 (by decide) ?_
  refine wp_istore_n (loc' := [(2, 52), (0, w), (0, 0), (9, 0)]) dX3_keep_1 rfl (Nat.le_of_ble_eq_true rfl) rfl ?_
  refine wp_iconst dX3_keep_2 (by decide) ?_
  refine wp_istore_n (loc' := [(2, 52), (0, w), (0, 0), (0, 0)]) dX3_keep_3 rfl (Nat.le_of_ble_eq_true rfl) rfl ?_
  refine lp_code hn hR w hN hO hL hy ?_ N 0 (by omega)
  have r1 := enc5_r hO hN (p := N) (by omega)
  generalize ec : encN 5 0 (at0 y) N = c at *
  replace ec := ec.symm
  refine wp_iload_n dX3_keep_29 rfl rfl ?_
  refine wp_if_lt (tgt := 69) dX3_keep_30 (by decide) (fun h => absurd h (by omega)) (fun _ => ?_)
  refine wp_iload_n dX3_keep_33 rfl rfl ?_
  refine wp_sipush dX3_keep_34 (by decide) (by decide) ?_
  refine wp_icmp_ge (tgt := 69) dX3_keep_37 (by decide) (fun h => absurd h (by omega)) (fun _ => ?_)
  refine wp_aload_n dX3_keep_40 rfl rfl ?_
  refine wp_get 52 rfl fl_RX3_18 rfl ⟨by omega, by omega⟩ dX3_keep_41 rfl (v := 55) (sr_52_4 (M := M) hR) ?_
  refine wp_iload_n dX3_keep_44 rfl rfl ?_
  refine wp_iald 55 rfl rfl ⟨by omega, by omega⟩ ⟨by omega, by omega⟩ dX3_keep_45 (v := (M 55 (c).toNat)) (rfl) ?_
  refine wp_aload_n dX3_keep_46 rfl rfl ?_
  refine wp_get 52 rfl fl_RX3_64 rfl ⟨by omega, by omega⟩ dX3_keep_47 rfl (v := (M 52 5)) (rfl) ?_
  refine wp_icmp_eq (tgt := 69) dX3_keep_50 (by decide) (fun h50 => ?_) (fun h50 => ?_)
  · refine wp_vret rfl dX3_keep_69 ?_
    have hin : y ∈ lt.map Prod.fst := by
      obtain ⟨z, z1, z2⟩ := (hI c.toNat (by omega)).2.mp h50
      rw [show (c.toNat : Int) = encN 5 0 (at0 y) N by omega] at z2
      rw [← enc5_inj (hA z z1) hO z2]; exact z1
    rw [show keepA lt y w = lt from if_pos hin] at k
    exact k M hF hI Fr.rf hR
  · refine wp_aload_n dX3_keep_53 rfl rfl ?_
    refine wp_get 52 rfl fl_RX3_58 rfl ⟨by omega, by omega⟩ dX3_keep_54 rfl (v := (M 52 3)) (rfl) ?_
    refine wp_if_lt (tgt := 69) dX3_keep_57 (by decide) (fun h => absurd h (by omega)) (fun _ => ?_)
    refine wp_aload_n dX3_keep_60 rfl rfl ?_
    refine wp_get 52 rfl fl_RX3_58 rfl ⟨by omega, by omega⟩ dX3_keep_61 rfl (v := (M 52 3)) (rfl) ?_
    refine wp_bipush dX3_keep_64 (by decide) (by decide) ?_
    refine wp_icmp_lt (tgt := 70) dX3_keep_66 (by decide) (fun _ => ?_) (fun h => absurd h (by have := hlt (fun z => h50 ((hI c.toNat (by omega)).2.mpr ⟨y, z, by omega⟩)); omega))
    refine wp_aload_n dX3_keep_70 rfl rfl ?_
    refine wp_get 52 rfl fl_RX3_18 rfl ⟨by omega, by omega⟩ dX3_keep_71 rfl (v := 55) (sr_52_4 (M := M) hR) ?_
    refine wp_iload_n dX3_keep_74 rfl rfl ?_
    refine wp_aload_n dX3_keep_75 rfl rfl ?_
    refine wp_get 52 rfl fl_RX3_64 rfl ⟨by omega, by omega⟩ dX3_keep_76 rfl (v := (M 52 5)) (rfl) ?_
    refine wp_iast 55 rfl rfl ⟨by omega, by omega⟩ ⟨by omega, by omega⟩ dX3_keep_79 (jn := (c).toNat) rfl ?_
    refine wp_aload_n dX3_keep_80 rfl rfl ?_
    refine wp_get 52 rfl fl_RX3_11 rfl ⟨by omega, by omega⟩ dX3_keep_81 rfl (v := 53) (sr_52_1 (M := M) hR) ?_
    refine wp_aload_n dX3_keep_84 rfl rfl ?_
    refine wp_get 52 rfl fl_RX3_58 rfl ⟨by omega, by omega⟩ dX3_keep_85 rfl (v := (M 52 3)) (rfl) ?_
    refine wp_iload_n dX3_keep_88 rfl rfl ?_
    refine wp_iast 53 rfl rfl ⟨by omega, by omega⟩ ⟨by omega, by omega⟩ dX3_keep_89 (jn := ((M 52 3)).toNat) rfl ?_
    refine wp_aload_n dX3_keep_90 rfl rfl ?_
    refine wp_get 52 rfl fl_RX3_15 rfl ⟨by omega, by omega⟩ dX3_keep_91 rfl (v := 54) (sr_52_2 (M := M) hR) ?_
    refine wp_aload_n dX3_keep_94 rfl rfl ?_
    refine wp_get 52 rfl fl_RX3_58 rfl ⟨by omega, by omega⟩ dX3_keep_95 rfl (v := (M 52 3)) (rfl) ?_
    refine wp_iload_n dX3_keep_98 rfl rfl ?_
    refine wp_iast 54 rfl rfl ⟨by omega, by omega⟩ ⟨by omega, by omega⟩ dX3_keep_99 (jn := ((M 52 3)).toNat) rfl ?_
    refine wp_aload_n dX3_keep_100 rfl rfl ?_
    refine wp_dup dX3_keep_101 (Or.inr rfl) ?_
    refine wp_get 52 rfl fl_RX3_58 rfl ⟨by omega, by omega⟩ dX3_keep_102 rfl (v := (M 52 3)) (rfl) ?_
    refine wp_iconst dX3_keep_105 (by decide) ?_
    refine wp_iadd dX3_keep_106 (by omega) ?_
    refine wp_puti 52 rfl fl_RX3_58 rfl ⟨by omega, by omega⟩ dX3_keep_107 rfl rfl ?_
    refine wp_vret rfl dX3_keep_110 ?_
    have hnot : ¬ y ∈ lt.map Prod.fst := fun z => h50 ((hI c.toNat (by omega)).2.mpr ⟨y, z, by omega⟩)
    rw [show keepA lt y w = lt ++ [(y, w)] from if_neg hnot] at k
    have f1 : Fr VK M (mu (mu (mu (mu M 55 (c).toNat (M 52 5)) 53 ((M 52 3)).toNat c) 54 ((M 52 3)).toNat w) 52 3 ((M 52 3) + 1)) := (((Fr.rf.put (Or.inr (Or.inr (Or.inr rfl)))).put (Or.inr (Or.inl rfl))).put (Or.inr (Or.inr (Or.inl rfl)))).put (Or.inl ⟨rfl, rfl⟩)
    refine k _ ?_ ?_ f1 (VY.sr (f1.mono VK.y) hR)
    · refine hF.app y w c ec _ rfl (fun i => ?_) (fun i => ?_)
      · rfl
      · rfl
    · refine hI.app y w c.toNat (by omega) _ rfl (fun i => rfl)
