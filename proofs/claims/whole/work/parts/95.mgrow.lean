/-! ===== the model: orders that are found ===== -/
def V79 (i j : Nat) : Prop := i = 79
def FMl (M : Mm) (N : Nat) (l : List (Od × Int)) : Prop := M 69 30 = (l.length : Int) ∧ ∀ i : Nat, i < l.length → M 76 i = encN 10 1 (at0 (l.getD i pr0).1) N ∧ M 77 i = (l.getD i pr0).2
theorem FMl.app {M : Mm} {N : Nat} {l : List (Od × Int)} (h : FMl M N l) (y : Od) (w c : Int) (hc : c = encN 10 1 (at0 y) N) (M' : Mm) (h1 : M' 69 30 = (l.length : Int) + 1) (h2 : ∀ i, M' 76 i = if i = l.length then c else M 76 i) (h3 : ∀ i, M' 77 i = if i = l.length then w else M 77 i) : FMl M' N (l ++ [(y, w)]) := by
  obtain ⟨a, b⟩ := h
  refine ⟨by rw [h1]; simp, fun i hi => ?_⟩
  rw [h2, h3]
  simp only [List.length_append, List.length_cons, List.length_nil] at hi
  by_cases e : i = l.length
  · subst e
    rw [if_pos rfl, if_pos rfl]
    simp [List.getD_eq_getElem?_getD, hc]
  · rw [if_neg e, if_neg e]
    have := b i (by omega)
    rw [show (l ++ [(y, w)]).getD i pr0 = l.getD i pr0 by simp [List.getD_eq_getElem?_getD, List.getElem?_append_left (show i < l.length by omega)]]
    exact this
theorem FMl.fr {M M' : Mm} {N : Nat} {l : List (Od × Int)} (h : FMl M N l) (e1 : M' 69 30 = M 69 30) (e2 : ∀ j, M' 76 j = M 76 j) (e3 : ∀ j, M' 77 j = M 77 j) : FMl M' N l := ⟨e1.trans h.1, fun i hi => ⟨(e2 i).trans (h.2 i hi).1, (e3 i).trans (h.2 i hi).2⟩⟩
theorem keep_at {l : List (Od × Int)} {y : Od} {w : Int} {i : Nat} (hi : i < l.length) : (keepA l y w).getD i pr0 = l.getD i pr0 := by
  unfold keepA
  split
  · rfl
  · simp [List.getD_eq_getElem?_getD, List.getElem?_append_left hi]
theorem lia_mem {M : Mm} {N : Nat} {l : List (Od × Int)} (h : FMl M N l) (hl : ∀ z ∈ l.map Prod.fst, okO N z) {y : Od} (hy : okO N y) : fst_ (M 76) (encN 10 1 (at0 y) N) l.length 0 = -1 ↔ ¬ y ∈ l.map Prod.fst := by
  have inj : ∀ i, i < l.length → M 76 i = encN 10 1 (at0 y) N → (l.getD i pr0).1 = y := by
    intro i hi e
    have ho := getD_ok hl hi
    have e2 := (h.2 i hi).1.symm.trans e
    have := encN_inj (b := 10) (o := 1) (by omega) (by omega) N (fun q hq => by have := ho.at hq; omega) (fun q hq => by have := hy.at hq; omega) e2
    exact od_ext ho.1 hy.1 this
  constructor
  · intro e hm
    rw [List.mem_map] at hm
    obtain ⟨z, hz, rfl⟩ := hm
    obtain ⟨i, hi, rfl⟩ := List.getElem_of_mem hz
    have := fst_no l.length 0 e i (by omega) (by omega)
    apply this
    rw [(h.2 i hi).1]
    simp [List.getD_eq_getElem?_getD, List.getElem?_eq_getElem hi]
  · intro hm
    rcases fst_r (f := M 76) (x := encN 10 1 (at0 y) N) l.length 0 with e | ⟨q, _, b, _, c⟩
    · exact e
    · exfalso
      apply hm
      have e := inj q (by omega) c
      rw [← e, List.mem_map]
      have hq : q < l.length := by omega
      exact ⟨l[q], List.getElem_mem _, by simp [List.getD_eq_getElem?_getD, List.getElem?_eq_getElem hq]⟩
set_option maxRecDepth 20000 in
set_option maxHeartbeats 4000000 in
theorem lp_spm  {l : Launch} {g : Gw} {d n : Nat} (hn : 90 ≤ n) {x : Od} {N : Nat} (hO : okO N x) (hN5 : N ≤ 5) {D : Int} : ∀ (q : Nat) (v : Int) (M : Mm) (Q : Option Wd → Mm → Prop), q ≤ N → v = (q : Int) - 1 → SR M → (∀ j, q ≤ j → j < N → M 79 j = at0 x j) → (∀ M', Fr V79 M M' → (∀ j, 0 ≤ j → j < N → M' 79 j = at0 x j) → Q none M') → Wp l g d 0 0 n m_X8_spreads 9 [] [(2, 69), (0, D), (0, (encN 10 1 (at0 x) q)), (0, v)] M Q := by
  intro q
  induction q with
  | zero =>
    intro v M Q hqN hv hR hq k
    refine wp_iload_n dX8_spreads_9 rfl rfl ?_
    refine wp_if_lt (tgt := 36) dX8_spreads_10 (by decide) (fun _ => ?_) (fun h => absurd h (by omega))
    refine wp_vret rfl dX8_spreads_36 ?_
    exact k M Fr.rf hq
  | succ q ih =>
    intro v M Q hqN hv hR hq k
    have hr : ∀ p, p < q + 1 → 0 ≤ at0 x p ∧ at0 x p + 1 < 10 := fun p hp => by have := hO.at (p := p) (by omega); omega
    refine wp_iload_n dX8_spreads_9 rfl rfl ?_
    refine wp_if_lt (tgt := 36) dX8_spreads_10 (by decide) (fun h => absurd h (by omega)) (fun _ => ?_)
    refine wp_aload_n dX8_spreads_13 rfl rfl ?_
    refine wp_get 69 rfl fl_RX8_42 rfl ⟨by omega, by omega⟩ dX8_spreads_14 rfl (v := 79) (sr_69_32 (M := M) hR) ?_
    refine wp_iload_n dX8_spreads_17 rfl rfl ?_
    refine wp_iload_n dX8_spreads_18 rfl rfl ?_
    refine wp_bipush dX8_spreads_19 (by decide) (by decide) ?_
    refine wp_irem dX8_spreads_21 (by omega) ?_
    refine wp_iconst dX8_spreads_22 (by decide) ?_
    refine wp_isub dX8_spreads_23 (by rw [(encN_mod (b := 10) (o := 1) (by omega) (by omega) (f := at0 x) (n := q) hr).1]; have := hr q (by omega); omega) ?_
    refine wp_iast 79 rfl rfl ⟨by omega, by omega⟩ ⟨by omega, by omega⟩ dX8_spreads_24 (jn := q) (by omega) ?_
    refine wp_iload_n dX8_spreads_25 rfl rfl ?_
    refine wp_bipush dX8_spreads_26 (by decide) (by decide) ?_
    refine wp_idiv dX8_spreads_28 (by omega) ?_
    refine wp_istore_n (loc' := [(2, 69), (0, D), (0, (Int.tdiv (encN 10 1 (at0 x) (q + 1)) 10)), (0, v)]) dX8_spreads_29 rfl (Nat.le_of_ble_eq_true rfl) rfl ?_
    refine wp_iinc (loc' := [(2, 69), (0, D), (0, (Int.tdiv (encN 10 1 (at0 x) (q + 1)) 10)), (0, (v + (-1)))]) dX8_spreads_30 rfl (by omega) rfl ?_
    refine wp_goto (tgt := 9) dX8_spreads_33 (by decide) ?_
    have f1 : Fr V79 M (mu M 79 q ((Int.tmod (encN 10 1 (at0 x) (q + 1)) 10) - 1)) := Fr.rf.put rfl
    rw [(encN_mod (b := 10) (o := 1) (by omega) (by omega) (f := at0 x) (n := q) hr).2]
    refine ih (v + (-1)) _ Q (by omega) (by omega) (SR.row (by decide +kernel) hR) (fun j hj hj2 => ?_) (fun M2 f2 a2 => k M2 (f1.tr f2) a2)
    by_cases c : j = q
    · subst c
      exact (mu_self _ _ _ _).trans (by rw [(encN_mod (b := 10) (o := 1) (by omega) (by omega) (f := at0 x) (n := j) hr).1]; omega)
    · exact (mu_nj _ _ _ c).trans (hq j (by omega) hj2)
set_option maxRecDepth 20000 in
set_option maxHeartbeats 4000000 in
theorem sp_spm {l : Launch} {g : Gw} {d n : Nat} {M : Mm} {Q : Option Wd → Mm → Prop} (hn : 90 ≤ n) (hR : SR M) {x : Od} {N : Nat} (hO : okO N x) (hN5 : N ≤ 5) (hL : M 69 12 = (N : Int)) (k : ∀ M', Fr V79 M M' → (∀ j, j < N → M' 79 j = at0 x j) → Q none M') : Wp l g d 0 0 n m_X8_spreads 0 [] [(2, 69), (0, encN 10 1 (at0 x) N), (9, 0), (9, 0)] M Q := by
  refine wp_iload_n dX8_spreads_0 rfl rfl ?_
  refine wp_istore_n (loc' := [(2, 69), (0, (encN 10 1 (at0 x) N)), (0, (encN 10 1 (at0 x) N)), (9, 0)]) dX8_spreads_1 rfl (Nat.le_of_ble_eq_true rfl) rfl ?_
  refine wp_aload_n dX8_spreads_2 rfl rfl ?_
  refine wp_get 69 rfl fl_RX8_123 rfl ⟨by omega, by omega⟩ dX8_spreads_3 rfl (v := (N : Int)) (hL) ?_
  refine wp_iconst dX8_spreads_6 (by decide) ?_
  refine wp_isub dX8_spreads_7 (by omega) ?_
  refine wp_istore_n (loc' := [(2, 69), (0, (encN 10 1 (at0 x) N)), (0, (encN 10 1 (at0 x) N)), (0, ((N : Int) - 1))]) dX8_spreads_8 rfl (Nat.le_of_ble_eq_true rfl) rfl ?_
  exact lp_spm hn hO hN5 N _ M Q (by omega) rfl hR (fun j a b => by omega) (fun M1 f1 a1 => k M1 f1 (fun j hj => a1 j (by omega) hj))
set_option maxRecDepth 20000 in
set_option maxHeartbeats 4000000 in
theorem lp_dnm {l : Launch} {g : Gw} {d n : Nat} {M : Mm} {Q : Option Wd → Mm → Prop} (hn : 90 ≤ n) (hR : SR M) {x : Od} {N : Nat} (hO : okO N x) (hN5 : N ≤ 5) (hL : M 69 12 = (N : Int)) (hw : ∀ j, j < N → M 79 j = at0 x j) (k : Q (some (0, encN 10 1 (at0 x) N)) M) : ∀ (m q : Nat), q + m = N → Wp l g d 0 0 n m_X8_digitsNow 4 [] [(2, 69), (0, (encN 10 1 (at0 x) q)), (0, (q : Int))] M Q := by
  intro m
  induction m with
  | zero =>
    intro q hq
    refine wp_iload_n dX8_digitsNow_4 rfl rfl ?_
    refine wp_aload_n dX8_digitsNow_5 rfl rfl ?_
    refine wp_get 69 rfl fl_RX8_123 rfl ⟨by omega, by omega⟩ dX8_digitsNow_6 rfl (v := (N : Int)) (hL) ?_
    refine wp_icmp_ge (tgt := 32) dX8_digitsNow_9 (by decide) (fun _ => ?_) (fun h => absurd h (by omega))
    refine wp_iload_n dX8_digitsNow_32 rfl rfl ?_
    refine wp_iret rfl dX8_digitsNow_33 ?_
    have e : q = N := by omega
    subst e
    exact k
  | succ m ih =>
    intro q hq
    have hr := enc10_r hO hN5 (p := q) (by omega)
    have hr2 := hO.at (p := q) (by omega)
    refine wp_iload_n dX8_digitsNow_4 rfl rfl ?_
    refine wp_aload_n dX8_digitsNow_5 rfl rfl ?_
    refine wp_get 69 rfl fl_RX8_123 rfl ⟨by omega, by omega⟩ dX8_digitsNow_6 rfl (v := (N : Int)) (hL) ?_
    refine wp_icmp_ge (tgt := 32) dX8_digitsNow_9 (by decide) (fun h => absurd h (by omega)) (fun _ => ?_)
    refine wp_bipush dX8_digitsNow_12 (by decide) (by decide) ?_
    refine wp_iload_n dX8_digitsNow_14 rfl rfl ?_
    refine wp_imul dX8_digitsNow_15 (by omega) ?_
    refine wp_aload_n dX8_digitsNow_16 rfl rfl ?_
    refine wp_get 69 rfl fl_RX8_42 rfl ⟨by omega, by omega⟩ dX8_digitsNow_17 rfl (v := 79) (sr_69_32 (M := M) hR) ?_
    refine wp_iload_n dX8_digitsNow_20 rfl rfl ?_
    refine wp_iald 79 rfl rfl ⟨by omega, by omega⟩ ⟨by omega, by omega⟩ dX8_digitsNow_21 (v := (at0 x q)) (hw q (by omega)) ?_
    refine wp_iadd dX8_digitsNow_22 (by omega) ?_
    refine wp_iconst dX8_digitsNow_23 (by decide) ?_
    refine wp_iadd dX8_digitsNow_24 (by omega) ?_
    refine wp_istore_n (loc' := [(2, 69), (0, (((10 * (encN 10 1 (at0 x) q)) + (at0 x q)) + 1)), (0, (q : Int))]) dX8_digitsNow_25 rfl (Nat.le_of_ble_eq_true rfl) rfl ?_
    refine wp_iinc (loc' := [(2, 69), (0, (((10 * (encN 10 1 (at0 x) q)) + (at0 x q)) + 1)), (0, ((q : Int) + 1))]) dX8_digitsNow_26 rfl (by omega) rfl ?_
    refine wp_goto (tgt := 4) dX8_digitsNow_29 (by decide) ?_
    rw [show (((10 * (encN 10 1 (at0 x) q)) + (at0 x q)) + 1) = encN 10 1 (at0 x) (q + 1) by show _ = encN 10 1 (at0 x) q * 10 + at0 x q + 1; omega]
    exact ih (q + 1) (by omega)
set_option maxRecDepth 20000 in
set_option maxHeartbeats 4000000 in
theorem sp_dnm {l : Launch} {g : Gw} {d n : Nat} {M : Mm} {Q : Option Wd → Mm → Prop} (hn : 90 ≤ n) (hR : SR M) {x : Od} {N : Nat} (hO : okO N x) (hN5 : N ≤ 5) (hL : M 69 12 = (N : Int)) (hw : ∀ j, j < N → M 79 j = at0 x j) (k : Q (some (0, encN 10 1 (at0 x) N)) M) : Wp l g d 0 0 n m_X8_digitsNow 0 [] [(2, 69), (9, 0), (9, 0)] M Q := by
  refine wp_iconst dX8_digitsNow_0 (by decide) ?_
  refine wp_istore_n (loc' := [(2, 69), (0, 0), (9, 0)]) dX8_digitsNow_1 rfl (Nat.le_of_ble_eq_true rfl) rfl ?_
  refine wp_iconst dX8_digitsNow_2 (by decide) ?_
  refine wp_istore_n (loc' := [(2, 69), (0, 0), (0, 0)]) dX8_digitsNow_3 rfl (Nat.le_of_ble_eq_true rfl) rfl ?_
  exact lp_dnm hn hR hO hN5 hL hw k N 0 (by omega)
set_option maxRecDepth 20000 in
set_option maxHeartbeats 4000000 in
theorem lp_lam {l : Launch} {g : Gw} {d n : Nat} {M : Mm} {Q : Option Wd → Mm → Prop} (hn : 90 ≤ n) (hR : SR M) {N : Nat} (hN : N ≤ 120) (hL : M 69 30 = (N : Int)) (D : Int) : ∀ (m q : Nat), q + m = N → Q (some (0, fst_ (M 76) D m q)) M → Wp l g d 0 0 n m_X8_listedAt 2 [] [(2, 69), (0, D), (0, (q : Int))] M Q := by
  intro m
  induction m with
  | zero =>
    intro q hq k
    refine wp_iload_n dX8_listedAt_2 rfl rfl ?_
    refine wp_aload_n dX8_listedAt_3 rfl rfl ?_
    refine wp_get 69 rfl fl_RX8_371 rfl ⟨by omega, by omega⟩ dX8_listedAt_4 rfl (v := (N : Int)) (hL) ?_
    refine wp_icmp_ge (tgt := 28) dX8_listedAt_7 (by decide) (fun _ => ?_) (fun h => absurd h (by omega))
    refine wp_iconst dX8_listedAt_28 (by decide) ?_
    refine wp_iret rfl dX8_listedAt_29 ?_
    exact k
  | succ m ih =>
    intro q hq k
    refine wp_iload_n dX8_listedAt_2 rfl rfl ?_
    refine wp_aload_n dX8_listedAt_3 rfl rfl ?_
    refine wp_get 69 rfl fl_RX8_371 rfl ⟨by omega, by omega⟩ dX8_listedAt_4 rfl (v := (N : Int)) (hL) ?_
    refine wp_icmp_ge (tgt := 28) dX8_listedAt_7 (by decide) (fun h => absurd h (by omega)) (fun _ => ?_)
    refine wp_aload_n dX8_listedAt_10 rfl rfl ?_
    refine wp_get 69 rfl fl_RX8_32 rfl ⟨by omega, by omega⟩ dX8_listedAt_11 rfl (v := 76) (sr_69_28 (M := M) hR) ?_
    refine wp_iload_n dX8_listedAt_14 rfl rfl ?_
    refine wp_iald 76 rfl rfl ⟨by omega, by omega⟩ ⟨by omega, by omega⟩ dX8_listedAt_15 (v := (M 76 q)) (rfl) ?_
    refine wp_iload_n dX8_listedAt_16 rfl rfl ?_
    refine wp_icmp_ne (tgt := 22) dX8_listedAt_17 (by decide) (fun h17 => ?_) (fun h17 => ?_)
    · refine wp_iinc (loc' := [(2, 69), (0, D), (0, ((q : Int) + 1))]) dX8_listedAt_22 rfl (by omega) rfl ?_
      refine wp_goto (tgt := 2) dX8_listedAt_25 (by decide) ?_
      unfold fst_ at k
      rw [if_neg h17] at k
      exact ih (q + 1) (by omega) k
    · refine wp_iload_n dX8_listedAt_20 rfl rfl ?_
      refine wp_iret rfl dX8_listedAt_21 ?_
      unfold fst_ at k
      rw [if_pos h17] at k
      exact k
set_option maxRecDepth 20000 in
set_option maxHeartbeats 4000000 in
theorem sp_lam {l : Launch} {g : Gw} {d n : Nat} {M : Mm} {Q : Option Wd → Mm → Prop} (hn : 90 ≤ n) (hR : SR M) {N : Nat} (hN : N ≤ 120) (hL : M 69 30 = (N : Int)) (D : Int) (k : Q (some (0, fst_ (M 76) D N 0)) M) : Wp l g d 0 0 n m_X8_listedAt 0 [] [(2, 69), (0, D), (9, 0)] M Q := by
  refine wp_iconst dX8_listedAt_0 (by decide) ?_
  refine wp_istore_n (loc' := [(2, 69), (0, D), (0, 0)]) dX8_listedAt_1 rfl (Nat.le_of_ble_eq_true rfl) rfl ?_
  exact lp_lam hn hR hN hL D N 0 (by omega) k
set_option maxRecDepth 20000 in
set_option maxHeartbeats 4000000 in
theorem sp_tum {l : Launch} {g : Gw} {d n : Nat} {M : Mm} {Q : Option Wd → Mm → Prop} (hn : 90 ≤ n) (hR : SR M) {x : Od} {N q : Nat} (hN5 : N ≤ 5) (hx : x.length = N) (h1 : 1 ≤ q) (hq : q < N) (hw : ∀ j, j < N → M 79 j = at0 x j) (k : ∀ M', Fr V79 M M' → (∀ j, j < N → M' 79 j = at0 (swp x q) j) → Q none M') : Wp l g d 0 0 n m_X8_turns 0 [] [(2, 69), (0, (q : Int)), (9, 0)] M Q := by
  refine wp_aload_n dX8_turns_0 rfl rfl ?_
  refine wp_get 69 rfl fl_RX8_42 rfl ⟨by omega, by omega⟩ dX8_turns_1 rfl (v := 79) (sr_69_32 (M := M) hR) ?_
  refine wp_iload_n dX8_turns_4 rfl rfl ?_
  refine wp_iald 79 rfl rfl ⟨by omega, by omega⟩ ⟨by omega, by omega⟩ dX8_turns_5 (v := (at0 x q)) (hw q (by omega)) ?_
  refine wp_istore_n (loc' := [(2, 69), (0, (q : Int)), (0, (at0 x q))]) dX8_turns_6 rfl (Nat.le_of_ble_eq_true rfl) rfl ?_
  refine wp_aload_n dX8_turns_7 rfl rfl ?_
  refine wp_get 69 rfl fl_RX8_42 rfl ⟨by omega, by omega⟩ dX8_turns_8 rfl (v := 79) (sr_69_32 (M := M) hR) ?_
  refine wp_iload_n dX8_turns_11 rfl rfl ?_
  refine wp_aload_n dX8_turns_12 rfl rfl ?_
  refine wp_get 69 rfl fl_RX8_42 rfl ⟨by omega, by omega⟩ dX8_turns_13 rfl (v := 79) (sr_69_32 (M := M) hR) ?_
  refine wp_iload_n dX8_turns_16 rfl rfl ?_
  refine wp_iconst dX8_turns_17 (by decide) ?_
  refine wp_isub dX8_turns_18 (by omega) ?_
  refine wp_iald 79 rfl rfl ⟨by omega, by omega⟩ ⟨by omega, by omega⟩ dX8_turns_19 (v := (at0 x (q - 1))) (by rw [show (((q : Int) - 1)).toNat = (q - 1) by omega]; exact hw (q - 1) (by omega)) ?_
  refine wp_iast 79 rfl rfl ⟨by omega, by omega⟩ ⟨by omega, by omega⟩ dX8_turns_20 (jn := q) rfl ?_
  refine wp_aload_n dX8_turns_21 rfl rfl ?_
  refine wp_get 69 rfl fl_RX8_42 rfl ⟨by omega, by omega⟩ dX8_turns_22 rfl (v := 79) (sr_69_32 (M := M) hR) ?_
  refine wp_iload_n dX8_turns_25 rfl rfl ?_
  refine wp_iconst dX8_turns_26 (by decide) ?_
  refine wp_isub dX8_turns_27 (by omega) ?_
  refine wp_iload_n dX8_turns_28 rfl rfl ?_
  refine wp_iast 79 rfl rfl ⟨by omega, by omega⟩ ⟨by omega, by omega⟩ dX8_turns_29 (jn := (q - 1)) (by omega) ?_
  refine wp_vret rfl dX8_turns_30 ?_
  refine k _ (Fr.put (V := V79) (Fr.put (V := V79) Fr.rf rfl) rfl) (fun j hj => ?_)
  rw [swp_at h1 (by omega) j]
  by_cases c : j = q - 1
  · subst c
    rw [mu_self, if_neg (by omega), if_pos rfl]
  · rw [mu_nj _ _ _ c]
    by_cases c2 : j = q
    · subst c2
      rw [mu_self, if_pos rfl]
    · rw [mu_nj _ _ _ c2, if_neg c2, if_neg c]
      exact hw j hj
