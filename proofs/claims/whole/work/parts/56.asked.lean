/-! ===== what is asked of a search ===== -/
abbrev flA (E : Ev) (A : Ls) : List (Od × Int) := (findA (cnA E A) (lnA A)).1
abbrev odA (E : Ev) (A : Ls) (i : Nat) : Od := ((flA E A).getD i pr0).1
abbrev awA (E : Ev) (A : Ls) (i : Nat) : Int := ((flA E A).getD i pr0).2
theorem FJ.fr6 {L : Nat} {M M' : Mm} {A : Ls} {E : Ev} (h : FJ L M A E) (hL : L ≤ 16) (f : Fr (fun i _ => i = 56) M M') : FJ L M' A E := by
  obtain ⟨h1, ⟨s1, s2, s3, s4⟩, h3, h4⟩ := h
  have e : ∀ i j, ¬ i = 56 → M' i j = M i j := f
  refine ⟨h1.fr hL (f.mono (fun i j h => Or.inr (by have : i = 56 := h; omega))), ⟨s1.fr (e _ _ (by decide)) (fun j => e _ _ (by decide)) (fun j => e _ _ (by decide)), s2.fr (e _ _ (by decide)) (fun j => e _ _ (by decide)), (e _ _ (by decide)).trans s3, s4⟩, h3, fun q a b => ?_⟩
  rw [e 58 _ (by decide), e 59 _ (by decide)]
  exact h4 q a b
theorem Lq.at {M : Mm} {E : Ev} {A : Ls} (h : Lq M E A (A.1 3).toNat) {a : Int} (ha : a ∈ lnA A) : M 58 a.toNat = lastsA E A a ∧ M 59 a.toNat = irksA E A a := by
  obtain ⟨q, hq, rfl⟩ := lnA_mem.mp ha
  exact h q (by omega) hq
theorem pow10 {p : Nat} (h : p ≤ 5) : (10 : Int) ^ p ≤ 100000 := by
  rcases (show p = 0 ∨ p = 1 ∨ p = 2 ∨ p = 3 ∨ p = 4 ∨ p = 5 by omega) with rfl | rfl | rfl | rfl | rfl | rfl <;> decide
theorem enc10_r {N : Nat} {x : Od} (h : okO N x) (hN : N ≤ 5) {p : Nat} (hp : p ≤ N) : 0 ≤ encN 10 1 (at0 x) p ∧ encN 10 1 (at0 x) p < 100000 := by
  have h1 := encN_r (b := 10) (o := 1) (by omega) (by omega) (f := at0 x) p (fun q hq => by have := h.at (p := q) (by omega); omega)
  have h2 := pow10 (p := p) (by omega)
  omega
def plcO (f : Nat → Int) (a : Int) : Nat → Nat → Int
  | 0, _ => 5
  | m + 1, p => if f p = a then (p : Int) else plcO f a m (p + 1)
theorem plcO_r {f : Nat → Int} {a : Int} : ∀ m p : Nat, p + m ≤ 5 → 0 ≤ plcO f a m p ∧ plcO f a m p ≤ 5
  | 0, p, h => by unfold plcO; omega
  | m + 1, p, h => by
    unfold plcO
    split
    · omega
    · exact plcO_r m (p + 1) (by omega)
def wtF (E : Ev) (A : Ls) (x : Od) : Nat → Int × Int
  | 0 => (0, 0)
  | p + 1 => (wrap ((wtF E A x p).1 + (if p = 0 then (if 1 < wrap (lastsA E A (at0 x p) - A.2 4 (at0 x p).toNat) then wrap (lastsA E A (at0 x p) - A.2 4 (at0 x p).toNat) else 1) else lastsA E A (at0 x p))), wrap ((wtF E A x p).2 + wrap ((wtF E A x p).1 * irksA E A (at0 x p))))
theorem FJ.ix {L : Nat} {M : Mm} {A : Ls} {E : Ev} (h : FJ L M A E) {i : Nat} (hi : i < (flA E A).length) : (odA E A i).Perm (lnA A) ∧ okO (lnA A).length (odA E A i) := by
  have hp : (odA E A i).Perm (lnA A) := h.2.1.2.2.2.2 _ (List.mem_map.mpr ⟨(flA E A)[i], List.getElem_mem hi, by simp [odA, List.getD_eq_getElem?_getD, List.getElem?_eq_getElem hi]⟩)
  exact ⟨hp, perm_ok (lnA_ok h.1.2.2.1).1 hp⟩
set_option maxRecDepth 20000 in
set_option maxHeartbeats 4000000 in
theorem lp_dig  {l : Launch} {g : Gw} {d n : Nat} {M : Mm} {Q : Option Wd → Mm → Prop} (hn : 60 ≤ n) (hR : SR M) (i : Int) {y : Od} {N : Nat} (hN : N ≤ 5) (hO : okO N y) (hL : M 52 11 = (N : Int)) (hy : ∀ q, q < N → M 56 q = at0 y q) (k : Q (some (0, encN 10 1 (at0 y) N)) M) : ∀ (m p : Nat), p + m = N → Wp l g d 0 0 n m_X3_digitsAt 9 [] [(2, 52), (0, i), (0, encN 10 1 (at0 y) p), (0, (p : Int))] M Q := by
  intro m
  induction m with
  | zero =>
    intro p hp
    refine wp_iload_n dX3_digitsAt_9 rfl rfl ?_
    refine wp_aload_n dX3_digitsAt_10 rfl rfl ?_
    refine wp_get 52 rfl fl_RX3_57 rfl ⟨by omega, by omega⟩ dX3_digitsAt_11 rfl (v := (M 52 11)) (rfl) ?_
    refine wp_icmp_ge (tgt := 37) dX3_digitsAt_14 (by decide) (fun _ => ?_) (fun h => absurd h (by omega))
    refine wp_iload_n dX3_digitsAt_37 rfl rfl ?_
    refine wp_iret rfl dX3_digitsAt_38 ?_
    have hpN : p = N := by omega
    subst hpN
    exact k
  | succ m ih =>
    intro p hp
    have r1 := enc10_r hO hN (p := p) (by omega)
    have r2 := hO.at (p := p) (by omega)
    have r3 := hy p (by omega)
    refine wp_iload_n dX3_digitsAt_9 rfl rfl ?_
    refine wp_aload_n dX3_digitsAt_10 rfl rfl ?_
    refine wp_get 52 rfl fl_RX3_57 rfl ⟨by omega, by omega⟩ dX3_digitsAt_11 rfl (v := (M 52 11)) (rfl) ?_
    refine wp_icmp_ge (tgt := 37) dX3_digitsAt_14 (by decide) (fun h => absurd h (by omega)) (fun _ => ?_)
    refine wp_iload_n dX3_digitsAt_17 rfl rfl ?_
    refine wp_bipush dX3_digitsAt_18 (by decide) (by decide) ?_
    refine wp_imul dX3_digitsAt_20 (by omega) ?_
    refine wp_aload_n dX3_digitsAt_21 rfl rfl ?_
    refine wp_get 52 rfl fl_RX3_21 rfl ⟨by omega, by omega⟩ dX3_digitsAt_22 rfl (v := 56) (sr_52_6 (M := M) hR) ?_
    refine wp_iload_n dX3_digitsAt_25 rfl rfl ?_
    refine wp_iald 56 rfl rfl ⟨by omega, by omega⟩ ⟨by omega, by omega⟩ dX3_digitsAt_26 (v := (M 56 p)) (rfl) ?_
    refine wp_iadd dX3_digitsAt_27 (by omega) ?_
    refine wp_iconst dX3_digitsAt_28 (by decide) ?_
    refine wp_iadd dX3_digitsAt_29 (by omega) ?_
    refine wp_istore_n (loc' := [(2, 52), (0, i), (0, ((((encN 10 1 (at0 y) p) * 10) + (M 56 p)) + 1)), (0, (p : Int))]) dX3_digitsAt_30 rfl (Nat.le_of_ble_eq_true rfl) rfl ?_
    refine wp_iinc (loc' := [(2, 52), (0, i), (0, ((((encN 10 1 (at0 y) p) * 10) + (M 56 p)) + 1)), (0, ((p : Int) + 1))]) dX3_digitsAt_31 rfl (by omega) rfl ?_
    refine wp_goto (tgt := 9) dX3_digitsAt_34 (by decide) ?_
    rw [show encN 10 1 (at0 y) p * 10 + M 56 p + 1 = encN 10 1 (at0 y) (p + 1) by rw [hy p (by omega)]; rfl]
    exact ih (p + 1) (by omega)
set_option maxRecDepth 20000 in
set_option maxHeartbeats 4000000 in
theorem lp_plc  {l : Launch} {g : Gw} {d n : Nat} {M : Mm} {Q : Option Wd → Mm → Prop} (hn : 60 ≤ n) (hR : SR M) (i a : Int) {y : Od} {N : Nat} (hN : N ≤ 5) (hL : M 52 11 = (N : Int)) (hy : ∀ q, q < N → M 56 q = at0 y q) : ∀ (m p : Nat), p + m = N → Q (some (0, plcO (at0 y) a m p)) M → Wp l g d 0 0 n m_X3_placeAt 7 [] [(2, 52), (0, i), (0, a), (0, (p : Int))] M Q := by
  intro m
  induction m with
  | zero =>
    intro p hp k
    refine wp_iload_n dX3_placeAt_7 rfl rfl ?_
    refine wp_aload_n dX3_placeAt_8 rfl rfl ?_
    refine wp_get 52 rfl fl_RX3_57 rfl ⟨by omega, by omega⟩ dX3_placeAt_9 rfl (v := (M 52 11)) (rfl) ?_
    refine wp_icmp_ge (tgt := 33) dX3_placeAt_12 (by decide) (fun _ => ?_) (fun h => absurd h (by omega))
    refine wp_iconst dX3_placeAt_33 (by decide) ?_
    refine wp_iret rfl dX3_placeAt_34 ?_
    exact k
  | succ m ih =>
    intro p hp k
    refine wp_iload_n dX3_placeAt_7 rfl rfl ?_
    refine wp_aload_n dX3_placeAt_8 rfl rfl ?_
    refine wp_get 52 rfl fl_RX3_57 rfl ⟨by omega, by omega⟩ dX3_placeAt_9 rfl (v := (M 52 11)) (rfl) ?_
    refine wp_icmp_ge (tgt := 33) dX3_placeAt_12 (by decide) (fun h => absurd h (by omega)) (fun _ => ?_)
    refine wp_aload_n dX3_placeAt_15 rfl rfl ?_
    refine wp_get 52 rfl fl_RX3_21 rfl ⟨by omega, by omega⟩ dX3_placeAt_16 rfl (v := 56) (sr_52_6 (M := M) hR) ?_
    refine wp_iload_n dX3_placeAt_19 rfl rfl ?_
    refine wp_iald 56 rfl rfl ⟨by omega, by omega⟩ ⟨by omega, by omega⟩ dX3_placeAt_20 (v := (M 56 p)) (rfl) ?_
    refine wp_iload_n dX3_placeAt_21 rfl rfl ?_
    refine wp_icmp_ne (tgt := 27) dX3_placeAt_22 (by decide) (fun h22 => ?_) (fun h22 => ?_)
    · refine wp_iinc (loc' := [(2, 52), (0, i), (0, a), (0, ((p : Int) + 1))]) dX3_placeAt_27 rfl (by omega) rfl ?_
      refine wp_goto (tgt := 7) dX3_placeAt_30 (by decide) ?_
      have e : plcO (at0 y) a (m + 1) p = plcO (at0 y) a m (p + 1) := if_neg (by rw [← hy p (by omega)]; omega)
      rw [e] at k
      exact ih (p + 1) (by omega) k
    · refine wp_iload_n dX3_placeAt_25 rfl rfl ?_
      refine wp_iret rfl dX3_placeAt_26 ?_
      have e : plcO (at0 y) a (m + 1) p = (p : Int) := if_pos (by rw [← hy p (by omega)]; omega)
      rw [e] at k
      exact k
set_option maxRecDepth 20000 in
set_option maxHeartbeats 4000000 in
theorem sp_digitsAt_2 {l : Launch} {g : Gw} {d n : Nat} {M : Mm} {Q : Option Wd → Mm → Prop} (hn : 60 ≤ n) (hd : 3 ≤ d) {A : Ls} {E : Ev} (hJ : FJ 2 M A E) {i : Nat} (hi : i < (flA E A).length) (k : ∀ M', FJ 2 M' A E → Fr (fun i _ => i = 56) M M' → Q (some (0, encN 10 1 (at0 (odA E A i)) (lnA A).length)) M') : Wp l g d 0 0 n m_X3_digitsAt 0 [] [(2, 52), (0, (i : Int)), (9, 0), (9, 0)] M Q := by
  obtain ⟨hQ, hS, hAB, hLq⟩ := id hJ
  obtain ⟨hR, hA, hW, hLd, hL, hN, hxm, hT⟩ := id hQ
  obtain ⟨hF, hI, hP, hPB⟩ := id hS
  have h120 := hPB.le hN
  have h3 := hF.1
  obtain ⟨hxp, hOi⟩ := hJ.ix hi
  refine wp_aload_n dX3_digitsAt_0 rfl rfl ?_
  refine wp_iload_n dX3_digitsAt_1 rfl rfl ?_
  refine wp_callV0 (d' := d - 1) cv_RX3_98 52 rfl [(0, (i : Int))] [] rfl rfl (Or.inl ⟨_, _, rfl, by decide, rfl, by omega, by omega⟩) (by omega) (Nat.le_of_ble_eq_true rfl) dX3_digitsAt_2 rfl (Nat.le_of_ble_eq_true rfl) (by omega) (loc1 := [(2, 52), (0, (i : Int)), (9, 0), (9, 0)]) rfl ?_
  refine sp_layO hn hR hF h120 hL hN hi hOi (fun M1 e1 e2 hR1 => ?_)
  have hJ1 := hJ.fr6 (by omega) e1
  have hL1 : M1 52 11 = ((lnA A).length : Int) := (e1 52 11 (by decide)).trans hL
  refine wp_iconst dX3_digitsAt_5 (by decide) ?_
  refine wp_istore_n (loc' := [(2, 52), (0, (i : Int)), (0, 0), (9, 0)]) dX3_digitsAt_6 rfl (Nat.le_of_ble_eq_true rfl) rfl ?_
  refine wp_iconst dX3_digitsAt_7 (by decide) ?_
  refine wp_istore_n (loc' := [(2, 52), (0, (i : Int)), (0, 0), (0, 0)]) dX3_digitsAt_8 rfl (Nat.le_of_ble_eq_true rfl) rfl ?_
  exact lp_dig hn hR1 (i : Int) hN hOi hL1 e2 (k M1 hJ1 e1) (lnA A).length 0 (by omega)
set_option maxRecDepth 20000 in
set_option maxHeartbeats 4000000 in
theorem sp_placeAt_2 {l : Launch} {g : Gw} {d n : Nat} {M : Mm} {Q : Option Wd → Mm → Prop} (hn : 60 ≤ n) (hd : 3 ≤ d) {A : Ls} {E : Ev} (hJ : FJ 2 M A E) {i : Nat} (hi : i < (flA E A).length) (a : Int) (k : ∀ M', FJ 2 M' A E → Fr (fun i _ => i = 56) M M' → Q (some (0, plcO (at0 (odA E A i)) a (lnA A).length 0)) M') : Wp l g d 0 0 n m_X3_placeAt 0 [] [(2, 52), (0, (i : Int)), (0, a), (9, 0)] M Q := by
  obtain ⟨hQ, hS, hAB, hLq⟩ := id hJ
  obtain ⟨hR, hA, hW, hLd, hL, hN, hxm, hT⟩ := id hQ
  obtain ⟨hF, hI, hP, hPB⟩ := id hS
  have h120 := hPB.le hN
  have h3 := hF.1
  obtain ⟨hxp, hOi⟩ := hJ.ix hi
  refine wp_aload_n dX3_placeAt_0 rfl rfl ?_
  refine wp_iload_n dX3_placeAt_1 rfl rfl ?_
  refine wp_callV0 (d' := d - 1) cv_RX3_98 52 rfl [(0, (i : Int))] [] rfl rfl (Or.inl ⟨_, _, rfl, by decide, rfl, by omega, by omega⟩) (by omega) (Nat.le_of_ble_eq_true rfl) dX3_placeAt_2 rfl (Nat.le_of_ble_eq_true rfl) (by omega) (loc1 := [(2, 52), (0, (i : Int)), (9, 0), (9, 0)]) rfl ?_
  refine sp_layO hn hR hF h120 hL hN hi hOi (fun M1 e1 e2 hR1 => ?_)
  have hJ1 := hJ.fr6 (by omega) e1
  have hL1 : M1 52 11 = ((lnA A).length : Int) := (e1 52 11 (by decide)).trans hL
  refine wp_iconst dX3_placeAt_5 (by decide) ?_
  refine wp_istore_n (loc' := [(2, 52), (0, (i : Int)), (0, a), (0, 0)]) dX3_placeAt_6 rfl (Nat.le_of_ble_eq_true rfl) rfl ?_
  exact lp_plc hn hR1 (i : Int) a hN hL1 e2 (lnA A).length 0 (by omega) (k M1 hJ1 e1)
set_option maxRecDepth 20000 in
set_option maxHeartbeats 4000000 in
theorem sp_digitsAt_16 {l : Launch} {g : Gw} {d n : Nat} {M : Mm} {Q : Option Wd → Mm → Prop} (hn : 60 ≤ n) (hd : 3 ≤ d) {A : Ls} {E : Ev} (hJ : FJ 16 M A E) {i : Nat} (hi : i < (flA E A).length) (k : ∀ M', FJ 16 M' A E → Fr (fun i _ => i = 56) M M' → Q (some (0, encN 10 1 (at0 (odA E A i)) (lnA A).length)) M') : Wp l g d 0 0 n m_X3_digitsAt 0 [] [(2, 52), (0, (i : Int)), (9, 0), (9, 0)] M Q := by
  obtain ⟨hQ, hS, hAB, hLq⟩ := id hJ
  obtain ⟨hR, hA, hW, hLd, hL, hN, hxm, hT⟩ := id hQ
  obtain ⟨hF, hI, hP, hPB⟩ := id hS
  have h120 := hPB.le hN
  have h3 := hF.1
  obtain ⟨hxp, hOi⟩ := hJ.ix hi
  refine wp_aload_n dX3_digitsAt_0 rfl rfl ?_
  refine wp_iload_n dX3_digitsAt_1 rfl rfl ?_
  refine wp_callV0 (d' := d - 1) cv_RX3_98 52 rfl [(0, (i : Int))] [] rfl rfl (Or.inl ⟨_, _, rfl, by decide, rfl, by omega, by omega⟩) (by omega) (Nat.le_of_ble_eq_true rfl) dX3_digitsAt_2 rfl (Nat.le_of_ble_eq_true rfl) (by omega) (loc1 := [(2, 52), (0, (i : Int)), (9, 0), (9, 0)]) rfl ?_
  refine sp_layO hn hR hF h120 hL hN hi hOi (fun M1 e1 e2 hR1 => ?_)
  have hJ1 := hJ.fr6 (by omega) e1
  have hL1 : M1 52 11 = ((lnA A).length : Int) := (e1 52 11 (by decide)).trans hL
  refine wp_iconst dX3_digitsAt_5 (by decide) ?_
  refine wp_istore_n (loc' := [(2, 52), (0, (i : Int)), (0, 0), (9, 0)]) dX3_digitsAt_6 rfl (Nat.le_of_ble_eq_true rfl) rfl ?_
  refine wp_iconst dX3_digitsAt_7 (by decide) ?_
  refine wp_istore_n (loc' := [(2, 52), (0, (i : Int)), (0, 0), (0, 0)]) dX3_digitsAt_8 rfl (Nat.le_of_ble_eq_true rfl) rfl ?_
  exact lp_dig hn hR1 (i : Int) hN hOi hL1 e2 (k M1 hJ1 e1) (lnA A).length 0 (by omega)
set_option maxRecDepth 20000 in
set_option maxHeartbeats 4000000 in
theorem sp_placeAt_16 {l : Launch} {g : Gw} {d n : Nat} {M : Mm} {Q : Option Wd → Mm → Prop} (hn : 60 ≤ n) (hd : 3 ≤ d) {A : Ls} {E : Ev} (hJ : FJ 16 M A E) {i : Nat} (hi : i < (flA E A).length) (a : Int) (k : ∀ M', FJ 16 M' A E → Fr (fun i _ => i = 56) M M' → Q (some (0, plcO (at0 (odA E A i)) a (lnA A).length 0)) M') : Wp l g d 0 0 n m_X3_placeAt 0 [] [(2, 52), (0, (i : Int)), (0, a), (9, 0)] M Q := by
  obtain ⟨hQ, hS, hAB, hLq⟩ := id hJ
  obtain ⟨hR, hA, hW, hLd, hL, hN, hxm, hT⟩ := id hQ
  obtain ⟨hF, hI, hP, hPB⟩ := id hS
  have h120 := hPB.le hN
  have h3 := hF.1
  obtain ⟨hxp, hOi⟩ := hJ.ix hi
  refine wp_aload_n dX3_placeAt_0 rfl rfl ?_
  refine wp_iload_n dX3_placeAt_1 rfl rfl ?_
  refine wp_callV0 (d' := d - 1) cv_RX3_98 52 rfl [(0, (i : Int))] [] rfl rfl (Or.inl ⟨_, _, rfl, by decide, rfl, by omega, by omega⟩) (by omega) (Nat.le_of_ble_eq_true rfl) dX3_placeAt_2 rfl (Nat.le_of_ble_eq_true rfl) (by omega) (loc1 := [(2, 52), (0, (i : Int)), (9, 0), (9, 0)]) rfl ?_
  refine sp_layO hn hR hF h120 hL hN hi hOi (fun M1 e1 e2 hR1 => ?_)
  have hJ1 := hJ.fr6 (by omega) e1
  have hL1 : M1 52 11 = ((lnA A).length : Int) := (e1 52 11 (by decide)).trans hL
  refine wp_iconst dX3_placeAt_5 (by decide) ?_
  refine wp_istore_n (loc' := [(2, 52), (0, (i : Int)), (0, a), (0, 0)]) dX3_placeAt_6 rfl (Nat.le_of_ble_eq_true rfl) rfl ?_
  exact lp_plc hn hR1 (i : Int) a hN hL1 e2 (lnA A).length 0 (by omega) (k M1 hJ1 e1)
set_option maxRecDepth 20000 in
set_option maxHeartbeats 4000000 in
theorem lp_wait_2  {l : Launch} {g : Gw} {d n : Nat} {M : Mm} {Q : Option Wd → Mm → Prop} (hn : 60 ≤ n) (hd : 2 ≤ d) {A : Ls} {E : Ev} {i : Nat} (hJ : FJ 2 M A E) (hi : i < (flA E A).length) (hy : ∀ q, q < (lnA A).length → M 56 q = at0 (odA E A i) q) (k : Q (some (0, (wtF E A (odA E A i) (lnA A).length).2)) M) : ∀ (m p : Nat) (u : Wd), p + m = (lnA A).length → Wp l g d 0 0 n m_X3_waitAt 12 [] [(2, 52), (0, (i : Int)), (0, (wtF E A (odA E A i) p).1), (0, (wtF E A (odA E A i) p).2), (0, (p : Int)), u] M Q := by
  obtain ⟨hQ, hS, hAB, hLq⟩ := id hJ
  obtain ⟨hR, hA, hW, hLd, hL, hN, hxm, hT⟩ := id hQ
  obtain ⟨hF, hI, hP, hPB⟩ := id hS
  have h120 := hPB.le hN
  have h3 := hF.1
  obtain ⟨hxp, hOi⟩ := hJ.ix hi
  obtain ⟨a0, a1, a2, a3, ar, al⟩ := id hA
  have w1 := hW.2.1
  intro m
  induction m with
  | zero =>
    intro p u hp
    refine wp_iload dX3_waitAt_12 rfl ?_
    refine wp_aload_n dX3_waitAt_14 rfl rfl ?_
    refine wp_get 52 rfl fl_RX3_57 rfl ⟨by omega, by omega⟩ dX3_waitAt_15 rfl (v := (M 52 11)) (rfl) ?_
    refine wp_icmp_ge (tgt := 109) dX3_waitAt_18 (by decide) (fun _ => ?_) (fun h => absurd h (by omega))
    refine wp_iload_n dX3_waitAt_109 rfl rfl ?_
    refine wp_iret rfl dX3_waitAt_110 ?_
    have hpN : p = (lnA A).length := by omega
    rw [hpN]
    exact k
  | succ m ih =>
    intro p u hp
    have hmem : (at0 (odA E A i) p) ∈ lnA A := hxp.subset (at_mem (by have := hOi.1; omega))
    have hla := hLq.at hmem
    have r1 := hxm _ hmem
    refine wp_iload dX3_waitAt_12 rfl ?_
    refine wp_aload_n dX3_waitAt_14 rfl rfl ?_
    refine wp_get 52 rfl fl_RX3_57 rfl ⟨by omega, by omega⟩ dX3_waitAt_15 rfl (v := (M 52 11)) (rfl) ?_
    refine wp_icmp_ge (tgt := 109) dX3_waitAt_18 (by decide) (fun h => absurd h (by omega)) (fun _ => ?_)
    refine wp_aload_n dX3_waitAt_21 rfl rfl ?_
    refine wp_get 52 rfl fl_RX3_21 rfl ⟨by omega, by omega⟩ dX3_waitAt_22 rfl (v := 56) (sr_52_6 (M := M) hR) ?_
    refine wp_iload dX3_waitAt_25 rfl ?_
    refine wp_iald 56 rfl rfl ⟨by omega, by omega⟩ ⟨by omega, by omega⟩ dX3_waitAt_27 (v := (at0 (odA E A i) p)) (hy p (by omega)) ?_
    refine wp_istore (loc' := [(2, 52), (0, (i : Int)), (0, ((wtF E A (odA E A i) p).1)), (0, ((wtF E A (odA E A i) p).2)), (0, (p : Int)), (0, (at0 (odA E A i) p))]) dX3_waitAt_28 (Nat.le_of_ble_eq_true rfl) rfl ?_
    refine wp_aload_n dX3_waitAt_30 rfl rfl ?_
    refine wp_get 52 rfl fl_RX3_38 rfl ⟨by omega, by omega⟩ dX3_waitAt_31 rfl (v := 2) (hLd) ?_
    refine wp_iload dX3_waitAt_34 rfl ?_
    refine wp_callV0 (d' := d - 1) cv_RX3_81 2 rfl [(0, (at0 (odA E A i) p))] [] rfl rfl (Or.inl ⟨_, _, rfl, by decide, rfl, by omega, by omega⟩) (by omega) (Nat.le_of_ble_eq_true rfl) dX3_waitAt_36 rfl (Nat.le_of_ble_eq_true rfl) (by omega) (loc1 := [(2, 2), (0, (at0 (odA E A i) p))]) rfl ?_
    refine sp_has_2 hn (at0 (odA E A i) p) (fun _ => ?_) (fun h => absurd (by omega) h)
    refine wp_if_ne (tgt := 45) dX3_waitAt_39 (by decide) (fun _ => ?_) (fun h => absurd h (by decide))
    refine wp_iload_n dX3_waitAt_45 rfl rfl ?_
    refine wp_iload_n dX3_waitAt_46 rfl rfl ?_
    refine wp_aload_n dX3_waitAt_47 rfl rfl ?_
    refine wp_get 52 rfl fl_RX3_31 rfl ⟨by omega, by omega⟩ dX3_waitAt_48 rfl (v := 59) (sr_52_9 (M := M) hR) ?_
    refine wp_iload dX3_waitAt_51 rfl ?_
    refine wp_iald 59 rfl rfl ⟨by omega, by omega⟩ ⟨by omega, by omega⟩ dX3_waitAt_53 (v := (irksA E A (at0 (odA E A i) p))) (hla.2) ?_
    refine wp_imulw dX3_waitAt_54 ?_
    refine wp_iaddw dX3_waitAt_55 ?_
    refine wp_istore_n (loc' := [(2, 52), (0, (i : Int)), (0, ((wtF E A (odA E A i) p).1)), (0, (wrap (((wtF E A (odA E A i) p).2) + (wrap (((wtF E A (odA E A i) p).1) * (irksA E A (at0 (odA E A i) p))))))), (0, (p : Int)), (0, (at0 (odA E A i) p))]) dX3_waitAt_56 rfl (Nat.le_of_ble_eq_true rfl) rfl ?_
    refine wp_iload_n dX3_waitAt_57 rfl rfl ?_
    refine wp_iload dX3_waitAt_58 rfl ?_
    refine wp_if_ne (tgt := 94) dX3_waitAt_60 (by decide) (fun h60 => ?_) (fun h60 => ?_)
    · refine wp_aload_n dX3_waitAt_94 rfl rfl ?_
      refine wp_get 52 rfl fl_RX3_28 rfl ⟨by omega, by omega⟩ dX3_waitAt_95 rfl (v := 58) (sr_52_8 (M := M) hR) ?_
      refine wp_iload dX3_waitAt_98 rfl ?_
      refine wp_iald 58 rfl rfl ⟨by omega, by omega⟩ ⟨by omega, by omega⟩ dX3_waitAt_100 (v := (lastsA E A (at0 (odA E A i) p))) (hla.1) ?_
      refine wp_iaddw dX3_waitAt_101 ?_
      refine wp_istore_n (loc' := [(2, 52), (0, (i : Int)), (0, (wrap (((wtF E A (odA E A i) p).1) + (lastsA E A (at0 (odA E A i) p))))), (0, (wrap (((wtF E A (odA E A i) p).2) + (wrap (((wtF E A (odA E A i) p).1) * (irksA E A (at0 (odA E A i) p))))))), (0, (p : Int)), (0, (at0 (odA E A i) p))]) dX3_waitAt_102 rfl (Nat.le_of_ble_eq_true rfl) rfl ?_
      refine wp_iinc (loc' := [(2, 52), (0, (i : Int)), (0, (wrap (((wtF E A (odA E A i) p).1) + (lastsA E A (at0 (odA E A i) p))))), (0, (wrap (((wtF E A (odA E A i) p).2) + (wrap (((wtF E A (odA E A i) p).1) * (irksA E A (at0 (odA E A i) p))))))), (0, ((p : Int) + 1)), (0, (at0 (odA E A i) p))]) dX3_waitAt_103 rfl (by omega) rfl ?_
      refine wp_goto (tgt := 12) dX3_waitAt_106 (by decide) ?_
      rw [show (wrap (((wtF E A (odA E A i) p).1) + (lastsA E A (at0 (odA E A i) p)))) = (wtF E A (odA E A i) (p + 1)).1 by show _ = wrap (_ + (if p = 0 then _ else _)); rw [if_neg (show ¬ p = 0 by omega)]]
      exact ih (p + 1) _ (by omega)
    · refine wp_iconst dX3_waitAt_63 (by decide) ?_
      refine wp_aload_n dX3_waitAt_64 rfl rfl ?_
      refine wp_get 52 rfl fl_RX3_28 rfl ⟨by omega, by omega⟩ dX3_waitAt_65 rfl (v := 58) (sr_52_8 (M := M) hR) ?_
      refine wp_iload dX3_waitAt_68 rfl ?_
      refine wp_iald 58 rfl rfl ⟨by omega, by omega⟩ ⟨by omega, by omega⟩ dX3_waitAt_70 (v := (lastsA E A (at0 (odA E A i) p))) (hla.1) ?_
      refine wp_aload_n dX3_waitAt_71 rfl rfl ?_
      refine wp_get 52 rfl fl_RX3_38 rfl ⟨by omega, by omega⟩ dX3_waitAt_72 rfl (v := 2) (hLd) ?_
      refine wp_aload_n dX3_waitAt_75 rfl rfl ?_
      refine wp_get 52 rfl fl_RX3_38 rfl ⟨by omega, by omega⟩ dX3_waitAt_76 rfl (v := 2) (hLd) ?_
      refine wp_get 2 rfl fl_RX3_110 rfl ⟨by omega, by omega⟩ dX3_waitAt_79 rfl (v := 7) (sr_2_8 (M := M) hR) ?_
      refine wp_iload dX3_waitAt_82 rfl ?_
      refine wp_callV0 (d' := d - 1) cv_RX3_113 2 rfl [(2, 7), (0, (at0 (odA E A i) p))] [(0, (lastsA E A (at0 (odA E A i) p))), (0, 1), (0, ((wtF E A (odA E A i) p).1))] rfl rfl (Or.inl ⟨_, _, rfl, by decide, rfl, by omega, by omega⟩) (by omega) (Nat.le_of_ble_eq_true rfl) dX3_waitAt_84 rfl (Nat.le_of_ble_eq_true rfl) (by omega) (loc1 := [(2, 2), (2, 7), (0, (at0 (odA E A i) p))]) rfl ?_
      refine sp_of_served_2 hn hR (at0 (odA E A i) p) (by omega) ?_
      rw [show M 7 (at0 (odA E A i) p).toNat = A.2 4 (at0 (odA E A i) p).toNat from ar 4 _ (by omega) (by omega)]
      refine wp_isubw dX3_waitAt_87 ?_
      refine wp_mmax mm_RX3_54 mms_max ini_RJ9 mmc_max (Nat.le_of_ble_eq_true rfl) (by omega) rfl dX3_waitAt_88 ?_
      refine wp_goto (tgt := 101) dX3_waitAt_91 (by decide) ?_
      refine wp_iaddw dX3_waitAt_101 ?_
      refine wp_istore_n (loc' := [(2, 52), (0, (i : Int)), (0, (wrap (((wtF E A (odA E A i) p).1) + (if 1 < (wrap ((lastsA E A (at0 (odA E A i) p)) - (A.2 4 (at0 (odA E A i) p).toNat))) then (wrap ((lastsA E A (at0 (odA E A i) p)) - (A.2 4 (at0 (odA E A i) p).toNat))) else 1)))), (0, (wrap (((wtF E A (odA E A i) p).2) + (wrap (((wtF E A (odA E A i) p).1) * (irksA E A (at0 (odA E A i) p))))))), (0, (p : Int)), (0, (at0 (odA E A i) p))]) dX3_waitAt_102 rfl (Nat.le_of_ble_eq_true rfl) rfl ?_
      refine wp_iinc (loc' := [(2, 52), (0, (i : Int)), (0, (wrap (((wtF E A (odA E A i) p).1) + (if 1 < (wrap ((lastsA E A (at0 (odA E A i) p)) - (A.2 4 (at0 (odA E A i) p).toNat))) then (wrap ((lastsA E A (at0 (odA E A i) p)) - (A.2 4 (at0 (odA E A i) p).toNat))) else 1)))), (0, (wrap (((wtF E A (odA E A i) p).2) + (wrap (((wtF E A (odA E A i) p).1) * (irksA E A (at0 (odA E A i) p))))))), (0, ((p : Int) + 1)), (0, (at0 (odA E A i) p))]) dX3_waitAt_103 rfl (by omega) rfl ?_
      refine wp_goto (tgt := 12) dX3_waitAt_106 (by decide) ?_
      rw [show (wrap (((wtF E A (odA E A i) p).1) + (if 1 < (wrap ((lastsA E A (at0 (odA E A i) p)) - (A.2 4 (at0 (odA E A i) p).toNat))) then (wrap ((lastsA E A (at0 (odA E A i) p)) - (A.2 4 (at0 (odA E A i) p).toNat))) else 1))) = (wtF E A (odA E A i) (p + 1)).1 by show _ = wrap (_ + (if p = 0 then _ else _)); rw [if_pos (show p = 0 by omega)]]
      exact ih (p + 1) _ (by omega)
set_option maxRecDepth 20000 in
set_option maxHeartbeats 4000000 in
theorem sp_waitAt_2 {l : Launch} {g : Gw} {d n : Nat} {M : Mm} {Q : Option Wd → Mm → Prop} (hn : 60 ≤ n) (hd : 3 ≤ d) {A : Ls} {E : Ev} (hJ : FJ 2 M A E) {i : Nat} (hi : i < (flA E A).length) (k : ∀ M', FJ 2 M' A E → Fr (fun i _ => i = 56) M M' → Q (some (0, (wtF E A (odA E A i) (lnA A).length).2)) M') : Wp l g d 0 0 n m_X3_waitAt 0 [] [(2, 52), (0, (i : Int)), (9, 0), (9, 0), (9, 0), (9, 0)] M Q := by
  obtain ⟨hQ, hS, hAB, hLq⟩ := id hJ
  obtain ⟨hR, hA, hW, hLd, hL, hN, hxm, hT⟩ := id hQ
  obtain ⟨hF, hI, hP, hPB⟩ := id hS
  have h120 := hPB.le hN
  have h3 := hF.1
  obtain ⟨hxp, hOi⟩ := hJ.ix hi
  refine wp_aload_n dX3_waitAt_0 rfl rfl ?_
  refine wp_iload_n dX3_waitAt_1 rfl rfl ?_
  refine wp_callV0 (d' := d - 1) cv_RX3_98 52 rfl [(0, (i : Int))] [] rfl rfl (Or.inl ⟨_, _, rfl, by decide, rfl, by omega, by omega⟩) (by omega) (Nat.le_of_ble_eq_true rfl) dX3_waitAt_2 rfl (Nat.le_of_ble_eq_true rfl) (by omega) (loc1 := [(2, 52), (0, (i : Int)), (9, 0), (9, 0)]) rfl ?_
  refine sp_layO hn hR hF h120 hL hN hi hOi (fun M1 e1 e2 hR1 => ?_)
  have hJ1 := hJ.fr6 (by omega) e1
  have hL1 : M1 52 11 = ((lnA A).length : Int) := (e1 52 11 (by decide)).trans hL
  refine wp_iconst dX3_waitAt_5 (by decide) ?_
  refine wp_istore_n (loc' := [(2, 52), (0, (i : Int)), (0, 0), (9, 0), (9, 0), (9, 0)]) dX3_waitAt_6 rfl (Nat.le_of_ble_eq_true rfl) rfl ?_
  refine wp_iconst dX3_waitAt_7 (by decide) ?_
  refine wp_istore_n (loc' := [(2, 52), (0, (i : Int)), (0, 0), (0, 0), (9, 0), (9, 0)]) dX3_waitAt_8 rfl (Nat.le_of_ble_eq_true rfl) rfl ?_
  refine wp_iconst dX3_waitAt_9 (by decide) ?_
  refine wp_istore (loc' := [(2, 52), (0, (i : Int)), (0, 0), (0, 0), (0, 0), (9, 0)]) dX3_waitAt_10 (Nat.le_of_ble_eq_true rfl) rfl ?_
  exact lp_wait_2 hn (by omega) hJ1 hi e2 (k M1 hJ1 e1) (lnA A).length 0 _ (by omega)
set_option maxRecDepth 20000 in
set_option maxHeartbeats 4000000 in
theorem lp_wait_16  {l : Launch} {g : Gw} {d n : Nat} {M : Mm} {Q : Option Wd → Mm → Prop} (hn : 60 ≤ n) (hd : 2 ≤ d) {A : Ls} {E : Ev} {i : Nat} (hJ : FJ 16 M A E) (hi : i < (flA E A).length) (hy : ∀ q, q < (lnA A).length → M 56 q = at0 (odA E A i) q) (k : Q (some (0, (wtF E A (odA E A i) (lnA A).length).2)) M) : ∀ (m p : Nat) (u : Wd), p + m = (lnA A).length → Wp l g d 0 0 n m_X3_waitAt 12 [] [(2, 52), (0, (i : Int)), (0, (wtF E A (odA E A i) p).1), (0, (wtF E A (odA E A i) p).2), (0, (p : Int)), u] M Q := by
  obtain ⟨hQ, hS, hAB, hLq⟩ := id hJ
  obtain ⟨hR, hA, hW, hLd, hL, hN, hxm, hT⟩ := id hQ
  obtain ⟨hF, hI, hP, hPB⟩ := id hS
  have h120 := hPB.le hN
  have h3 := hF.1
  obtain ⟨hxp, hOi⟩ := hJ.ix hi
  obtain ⟨a0, a1, a2, a3, ar, al⟩ := id hA
  have w1 := hW.2.1
  intro m
  induction m with
  | zero =>
    intro p u hp
    refine wp_iload dX3_waitAt_12 rfl ?_
    refine wp_aload_n dX3_waitAt_14 rfl rfl ?_
    refine wp_get 52 rfl fl_RX3_57 rfl ⟨by omega, by omega⟩ dX3_waitAt_15 rfl (v := (M 52 11)) (rfl) ?_
    refine wp_icmp_ge (tgt := 109) dX3_waitAt_18 (by decide) (fun _ => ?_) (fun h => absurd h (by omega))
    refine wp_iload_n dX3_waitAt_109 rfl rfl ?_
    refine wp_iret rfl dX3_waitAt_110 ?_
    have hpN : p = (lnA A).length := by omega
    rw [hpN]
    exact k
  | succ m ih =>
    intro p u hp
    have hmem : (at0 (odA E A i) p) ∈ lnA A := hxp.subset (at_mem (by have := hOi.1; omega))
    have hla := hLq.at hmem
    have r1 := hxm _ hmem
    refine wp_iload dX3_waitAt_12 rfl ?_
    refine wp_aload_n dX3_waitAt_14 rfl rfl ?_
    refine wp_get 52 rfl fl_RX3_57 rfl ⟨by omega, by omega⟩ dX3_waitAt_15 rfl (v := (M 52 11)) (rfl) ?_
    refine wp_icmp_ge (tgt := 109) dX3_waitAt_18 (by decide) (fun h => absurd h (by omega)) (fun _ => ?_)
    refine wp_aload_n dX3_waitAt_21 rfl rfl ?_
    refine wp_get 52 rfl fl_RX3_21 rfl ⟨by omega, by omega⟩ dX3_waitAt_22 rfl (v := 56) (sr_52_6 (M := M) hR) ?_
    refine wp_iload dX3_waitAt_25 rfl ?_
    refine wp_iald 56 rfl rfl ⟨by omega, by omega⟩ ⟨by omega, by omega⟩ dX3_waitAt_27 (v := (at0 (odA E A i) p)) (hy p (by omega)) ?_
    refine wp_istore (loc' := [(2, 52), (0, (i : Int)), (0, ((wtF E A (odA E A i) p).1)), (0, ((wtF E A (odA E A i) p).2)), (0, (p : Int)), (0, (at0 (odA E A i) p))]) dX3_waitAt_28 (Nat.le_of_ble_eq_true rfl) rfl ?_
    refine wp_aload_n dX3_waitAt_30 rfl rfl ?_
    refine wp_get 52 rfl fl_RX3_38 rfl ⟨by omega, by omega⟩ dX3_waitAt_31 rfl (v := 16) (hLd) ?_
    refine wp_iload dX3_waitAt_34 rfl ?_
    refine wp_callV0 (d' := d - 1) cv_RX3_81 16 rfl [(0, (at0 (odA E A i) p))] [] rfl rfl (Or.inl ⟨_, _, rfl, by decide, rfl, by omega, by omega⟩) (by omega) (Nat.le_of_ble_eq_true rfl) dX3_waitAt_36 rfl (Nat.le_of_ble_eq_true rfl) (by omega) (loc1 := [(2, 16), (0, (at0 (odA E A i) p))]) rfl ?_
    refine sp_has_16 hn (at0 (odA E A i) p) (fun _ => ?_) (fun h => absurd (by omega) h)
    refine wp_if_ne (tgt := 45) dX3_waitAt_39 (by decide) (fun _ => ?_) (fun h => absurd h (by decide))
    refine wp_iload_n dX3_waitAt_45 rfl rfl ?_
    refine wp_iload_n dX3_waitAt_46 rfl rfl ?_
    refine wp_aload_n dX3_waitAt_47 rfl rfl ?_
    refine wp_get 52 rfl fl_RX3_31 rfl ⟨by omega, by omega⟩ dX3_waitAt_48 rfl (v := 59) (sr_52_9 (M := M) hR) ?_
    refine wp_iload dX3_waitAt_51 rfl ?_
    refine wp_iald 59 rfl rfl ⟨by omega, by omega⟩ ⟨by omega, by omega⟩ dX3_waitAt_53 (v := (irksA E A (at0 (odA E A i) p))) (hla.2) ?_
    refine wp_imulw dX3_waitAt_54 ?_
    refine wp_iaddw dX3_waitAt_55 ?_
    refine wp_istore_n (loc' := [(2, 52), (0, (i : Int)), (0, ((wtF E A (odA E A i) p).1)), (0, (wrap (((wtF E A (odA E A i) p).2) + (wrap (((wtF E A (odA E A i) p).1) * (irksA E A (at0 (odA E A i) p))))))), (0, (p : Int)), (0, (at0 (odA E A i) p))]) dX3_waitAt_56 rfl (Nat.le_of_ble_eq_true rfl) rfl ?_
    refine wp_iload_n dX3_waitAt_57 rfl rfl ?_
    refine wp_iload dX3_waitAt_58 rfl ?_
    refine wp_if_ne (tgt := 94) dX3_waitAt_60 (by decide) (fun h60 => ?_) (fun h60 => ?_)
    · refine wp_aload_n dX3_waitAt_94 rfl rfl ?_
      refine wp_get 52 rfl fl_RX3_28 rfl ⟨by omega, by omega⟩ dX3_waitAt_95 rfl (v := 58) (sr_52_8 (M := M) hR) ?_
      refine wp_iload dX3_waitAt_98 rfl ?_
      refine wp_iald 58 rfl rfl ⟨by omega, by omega⟩ ⟨by omega, by omega⟩ dX3_waitAt_100 (v := (lastsA E A (at0 (odA E A i) p))) (hla.1) ?_
      refine wp_iaddw dX3_waitAt_101 ?_
      refine wp_istore_n (loc' := [(2, 52), (0, (i : Int)), (0, (wrap (((wtF E A (odA E A i) p).1) + (lastsA E A (at0 (odA E A i) p))))), (0, (wrap (((wtF E A (odA E A i) p).2) + (wrap (((wtF E A (odA E A i) p).1) * (irksA E A (at0 (odA E A i) p))))))), (0, (p : Int)), (0, (at0 (odA E A i) p))]) dX3_waitAt_102 rfl (Nat.le_of_ble_eq_true rfl) rfl ?_
      refine wp_iinc (loc' := [(2, 52), (0, (i : Int)), (0, (wrap (((wtF E A (odA E A i) p).1) + (lastsA E A (at0 (odA E A i) p))))), (0, (wrap (((wtF E A (odA E A i) p).2) + (wrap (((wtF E A (odA E A i) p).1) * (irksA E A (at0 (odA E A i) p))))))), (0, ((p : Int) + 1)), (0, (at0 (odA E A i) p))]) dX3_waitAt_103 rfl (by omega) rfl ?_
      refine wp_goto (tgt := 12) dX3_waitAt_106 (by decide) ?_
      rw [show (wrap (((wtF E A (odA E A i) p).1) + (lastsA E A (at0 (odA E A i) p)))) = (wtF E A (odA E A i) (p + 1)).1 by show _ = wrap (_ + (if p = 0 then _ else _)); rw [if_neg (show ¬ p = 0 by omega)]]
      exact ih (p + 1) _ (by omega)
    · refine wp_iconst dX3_waitAt_63 (by decide) ?_
      refine wp_aload_n dX3_waitAt_64 rfl rfl ?_
      refine wp_get 52 rfl fl_RX3_28 rfl ⟨by omega, by omega⟩ dX3_waitAt_65 rfl (v := 58) (sr_52_8 (M := M) hR) ?_
      refine wp_iload dX3_waitAt_68 rfl ?_
      refine wp_iald 58 rfl rfl ⟨by omega, by omega⟩ ⟨by omega, by omega⟩ dX3_waitAt_70 (v := (lastsA E A (at0 (odA E A i) p))) (hla.1) ?_
      refine wp_aload_n dX3_waitAt_71 rfl rfl ?_
      refine wp_get 52 rfl fl_RX3_38 rfl ⟨by omega, by omega⟩ dX3_waitAt_72 rfl (v := 16) (hLd) ?_
      refine wp_aload_n dX3_waitAt_75 rfl rfl ?_
      refine wp_get 52 rfl fl_RX3_38 rfl ⟨by omega, by omega⟩ dX3_waitAt_76 rfl (v := 16) (hLd) ?_
      refine wp_get 16 rfl fl_RX3_110 rfl ⟨by omega, by omega⟩ dX3_waitAt_79 rfl (v := 21) (sr_16_8 (M := M) hR) ?_
      refine wp_iload dX3_waitAt_82 rfl ?_
      refine wp_callV0 (d' := d - 1) cv_RX3_113 16 rfl [(2, 21), (0, (at0 (odA E A i) p))] [(0, (lastsA E A (at0 (odA E A i) p))), (0, 1), (0, ((wtF E A (odA E A i) p).1))] rfl rfl (Or.inl ⟨_, _, rfl, by decide, rfl, by omega, by omega⟩) (by omega) (Nat.le_of_ble_eq_true rfl) dX3_waitAt_84 rfl (Nat.le_of_ble_eq_true rfl) (by omega) (loc1 := [(2, 16), (2, 21), (0, (at0 (odA E A i) p))]) rfl ?_
      refine sp_of_served_16 hn hR (at0 (odA E A i) p) (by omega) ?_
      rw [show M 21 (at0 (odA E A i) p).toNat = A.2 4 (at0 (odA E A i) p).toNat from ar 4 _ (by omega) (by omega)]
      refine wp_isubw dX3_waitAt_87 ?_
      refine wp_mmax mm_RX3_54 mms_max ini_RJ9 mmc_max (Nat.le_of_ble_eq_true rfl) (by omega) rfl dX3_waitAt_88 ?_
      refine wp_goto (tgt := 101) dX3_waitAt_91 (by decide) ?_
      refine wp_iaddw dX3_waitAt_101 ?_
      refine wp_istore_n (loc' := [(2, 52), (0, (i : Int)), (0, (wrap (((wtF E A (odA E A i) p).1) + (if 1 < (wrap ((lastsA E A (at0 (odA E A i) p)) - (A.2 4 (at0 (odA E A i) p).toNat))) then (wrap ((lastsA E A (at0 (odA E A i) p)) - (A.2 4 (at0 (odA E A i) p).toNat))) else 1)))), (0, (wrap (((wtF E A (odA E A i) p).2) + (wrap (((wtF E A (odA E A i) p).1) * (irksA E A (at0 (odA E A i) p))))))), (0, (p : Int)), (0, (at0 (odA E A i) p))]) dX3_waitAt_102 rfl (Nat.le_of_ble_eq_true rfl) rfl ?_
      refine wp_iinc (loc' := [(2, 52), (0, (i : Int)), (0, (wrap (((wtF E A (odA E A i) p).1) + (if 1 < (wrap ((lastsA E A (at0 (odA E A i) p)) - (A.2 4 (at0 (odA E A i) p).toNat))) then (wrap ((lastsA E A (at0 (odA E A i) p)) - (A.2 4 (at0 (odA E A i) p).toNat))) else 1)))), (0, (wrap (((wtF E A (odA E A i) p).2) + (wrap (((wtF E A (odA E A i) p).1) * (irksA E A (at0 (odA E A i) p))))))), (0, ((p : Int) + 1)), (0, (at0 (odA E A i) p))]) dX3_waitAt_103 rfl (by omega) rfl ?_
      refine wp_goto (tgt := 12) dX3_waitAt_106 (by decide) ?_
      rw [show (wrap (((wtF E A (odA E A i) p).1) + (if 1 < (wrap ((lastsA E A (at0 (odA E A i) p)) - (A.2 4 (at0 (odA E A i) p).toNat))) then (wrap ((lastsA E A (at0 (odA E A i) p)) - (A.2 4 (at0 (odA E A i) p).toNat))) else 1))) = (wtF E A (odA E A i) (p + 1)).1 by show _ = wrap (_ + (if p = 0 then _ else _)); rw [if_pos (show p = 0 by omega)]]
      exact ih (p + 1) _ (by omega)
set_option maxRecDepth 20000 in
set_option maxHeartbeats 4000000 in
theorem sp_waitAt_16 {l : Launch} {g : Gw} {d n : Nat} {M : Mm} {Q : Option Wd → Mm → Prop} (hn : 60 ≤ n) (hd : 3 ≤ d) {A : Ls} {E : Ev} (hJ : FJ 16 M A E) {i : Nat} (hi : i < (flA E A).length) (k : ∀ M', FJ 16 M' A E → Fr (fun i _ => i = 56) M M' → Q (some (0, (wtF E A (odA E A i) (lnA A).length).2)) M') : Wp l g d 0 0 n m_X3_waitAt 0 [] [(2, 52), (0, (i : Int)), (9, 0), (9, 0), (9, 0), (9, 0)] M Q := by
  obtain ⟨hQ, hS, hAB, hLq⟩ := id hJ
  obtain ⟨hR, hA, hW, hLd, hL, hN, hxm, hT⟩ := id hQ
  obtain ⟨hF, hI, hP, hPB⟩ := id hS
  have h120 := hPB.le hN
  have h3 := hF.1
  obtain ⟨hxp, hOi⟩ := hJ.ix hi
  refine wp_aload_n dX3_waitAt_0 rfl rfl ?_
  refine wp_iload_n dX3_waitAt_1 rfl rfl ?_
  refine wp_callV0 (d' := d - 1) cv_RX3_98 52 rfl [(0, (i : Int))] [] rfl rfl (Or.inl ⟨_, _, rfl, by decide, rfl, by omega, by omega⟩) (by omega) (Nat.le_of_ble_eq_true rfl) dX3_waitAt_2 rfl (Nat.le_of_ble_eq_true rfl) (by omega) (loc1 := [(2, 52), (0, (i : Int)), (9, 0), (9, 0)]) rfl ?_
  refine sp_layO hn hR hF h120 hL hN hi hOi (fun M1 e1 e2 hR1 => ?_)
  have hJ1 := hJ.fr6 (by omega) e1
  have hL1 : M1 52 11 = ((lnA A).length : Int) := (e1 52 11 (by decide)).trans hL
  refine wp_iconst dX3_waitAt_5 (by decide) ?_
  refine wp_istore_n (loc' := [(2, 52), (0, (i : Int)), (0, 0), (9, 0), (9, 0), (9, 0)]) dX3_waitAt_6 rfl (Nat.le_of_ble_eq_true rfl) rfl ?_
  refine wp_iconst dX3_waitAt_7 (by decide) ?_
  refine wp_istore_n (loc' := [(2, 52), (0, (i : Int)), (0, 0), (0, 0), (9, 0), (9, 0)]) dX3_waitAt_8 rfl (Nat.le_of_ble_eq_true rfl) rfl ?_
  refine wp_iconst dX3_waitAt_9 (by decide) ?_
  refine wp_istore (loc' := [(2, 52), (0, (i : Int)), (0, 0), (0, 0), (0, 0), (9, 0)]) dX3_waitAt_10 (Nat.le_of_ble_eq_true rfl) rfl ?_
  exact lp_wait_16 hn (by omega) hJ1 hi e2 (k M1 hJ1 e1) (lnA A).length 0 _ (by omega)
