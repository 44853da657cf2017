/-! ===== the class's search: spread ===== -/
def Tb (M : Mm) (E : Ev) (A : Ls) (x : Od) : Prop := ∀ a ∈ x, ∀ b ∈ x, M 57 (a * 5 + b).toNat = if mindsA E A a b = true then 1 else 0
def QJ (L : Nat) (M : Mm) (A : Ls) (E : Ev) (x : Od) : Prop := SR M ∧ Rc M L A ∧ Wf A ∧ M 52 10 = (L : Int) ∧ M 52 11 = (x.length : Int) ∧ x.length ≤ 5 ∧ (∀ a ∈ x, 0 ≤ a ∧ a < A.1 2) ∧ Tb M E A x
def VO (i j : Nat) : Prop := (i = 52 ∧ (j = 3 ∨ j = 12)) ∨ (53 ≤ i ∧ i ≤ 56)
theorem VO.y : ∀ i j, VO i j → VY i j := by
  intro i j h
  unfold VO at h
  unfold VY
  omega
theorem VK.o : ∀ i j, VK i j → VO i j := by
  intro i j h
  unfold VK at h
  unfold VO
  omega
theorem QJ.fr {L : Nat} {M M' : Mm} {A : Ls} {E : Ev} {x : Od} (h : QJ L M A E x) (hL : L ≤ 16) (f : Fr VO M M') : QJ L M' A E x := by
  obtain ⟨h1, h2, h3, h4, h5, h6, h7, h8⟩ := h
  refine ⟨VY.sr (f.mono VO.y) h1, h2.frV f (fun i j v => by unfold VO at v; omega), h3, by rw [f 52 10 (by unfold VO; omega)]; exact h4, by rw [f 52 11 (by unfold VO; omega)]; exact h5, h6, h7, fun a ha b hb => ?_⟩
  rw [f 57 _ (by unfold VO; omega)]
  exact h8 a ha b hb
def cnA (E : Ev) (A : Ls) (x : Od) (p : Nat) : Bool := decide (¬ (p = 1 ∧ 0 < A.2 4 (at0 x 0).toNat)) && !(mindsA E A (at0 x (p - 1)) (at0 x p))
def SJ (M : Mm) (x : Od) (S : St) : Prop := Fnd M x.length S.1 ∧ FI M x.length S.1 ∧ M 52 12 = S.2 ∧ PB x S.1
theorem at_mem {x : Od} {p : Nat} (h : p < x.length) : at0 x p ∈ x := by
  have e : at0 x p = x[p] := by simp [at0, List.getD_eq_getElem?_getD, List.getElem?_eq_getElem h]
  rw [e]
  exact List.getElem_mem _
theorem keep_get {l : List (Od × Int)} {i : Nat} (hi : i < l.length) (y : Od) (w : Int) : (keepA l y w).getD i pr0 = l.getD i pr0 ∧ i < (keepA l y w).length := by
  unfold keepA
  split
  · exact ⟨rfl, hi⟩
  · refine ⟨?_, by rw [List.length_append]; omega⟩
    simp [List.getD_eq_getElem?_getD, List.getElem?_append_left hi]
theorem Fnd.fr {M M' : Mm} {N : Nat} {l : List (Od × Int)} (h : Fnd M N l) (h3 : M' 52 3 = M 52 3) (h4 : ∀ j, M' 53 j = M 53 j) (h5 : ∀ j, M' 54 j = M 54 j) : Fnd M' N l := by
  unfold Fnd
  rw [h3]
  refine ⟨h.1, fun i hi => ?_⟩
  rw [h4, h5]
  exact h.2 i hi
theorem FI.fr {M M' : Mm} {N : Nat} {l : List (Od × Int)} (h : FI M N l) (h3 : M' 52 5 = M 52 5) (h4 : ∀ j, M' 55 j = M 55 j) : FI M' N l := by
  intro c hc
  rw [h3, h4]
  exact h c hc
theorem PB.ok {x : Od} {l : List (Od × Int)} (h : PB x l) (hx : okO x.length x) : ∀ z ∈ l.map Prod.fst, okO x.length z := fun z hz => perm_ok hx (h.2 z hz)
theorem sw_now {M : Mm} {x : Od} {p : Nat} {N : Nat} (hN : x.length = N) (h1 : 1 ≤ p) (hp : p < N) (hy : ∀ q, q < N → M 56 q = at0 x q) : ∀ q, q < N → mu (mu M 56 (p - 1) (at0 x p)) 56 p (at0 x (p - 1)) 56 q = at0 (swp x p) q := by
  intro q hq
  rw [swp_at h1 (by omega)]
  by_cases c : q = p
  · subst c; rw [mu_self, if_pos rfl]
  · rw [mu_nj _ _ _ c, if_neg c]
    by_cases c2 : q = p - 1
    · subst c2; rw [mu_self, if_pos rfl]
    · rw [mu_nj _ _ _ c2, if_neg c2]; exact hy q hq
set_option maxRecDepth 20000 in
set_option maxHeartbeats 4000000 in
theorem sp_mindsT_2 {l : Launch} {g : Gw} {d n : Nat} {M : Mm} {Q : Option Wd → Mm → Prop} (hn : 60 ≤ n) (hd : 1 ≤ d) {A : Ls} {E : Ev} {x : Od} (hQ : QJ 2 M A E x) {a b : Int} (ha : a ∈ x) (hb : b ∈ x) (kt : mindsA E A a b = true → Q (some (0, 1)) M) (kf : mindsA E A a b = false → Q (some (0, 0)) M) : Wp l g d 0 0 n m_X3_minds 0 [] [(2, 52), (0, a), (0, b)] M Q := by
  obtain ⟨hR, hA, hW, hLd, hL, hN, hx, hT⟩ := hQ
  have xa := hx a ha
  have xb := hx b hb
  have a2 := hA.2.2.1
  have w1 := hW.2.1
  have et := hT a ha b hb
  refine wp_aload_n dX3_minds_0 rfl rfl ?_
  refine wp_get 52 rfl fl_RX3_38 rfl ⟨by omega, by omega⟩ dX3_minds_1 rfl (v := 2) (hLd) ?_
  refine wp_iload_n dX3_minds_4 rfl rfl ?_
  refine wp_callV0 (d' := d - 1) cv_RX3_81 2 rfl [(0, a)] [] rfl rfl (Or.inl ⟨_, _, rfl, by decide, rfl, by omega, by omega⟩) (by omega) (Nat.le_of_ble_eq_true rfl) dX3_minds_5 rfl (Nat.le_of_ble_eq_true rfl) (by omega) (loc1 := [(2, 2), (0, a)]) rfl ?_
  refine sp_has_2 hn a (fun _ => ?_) (fun h => absurd (by omega) h)
  refine wp_if_eq (tgt := 35) dX3_minds_8 (by decide) (fun h => absurd h (by decide)) (fun _ => ?_)
  refine wp_aload_n dX3_minds_11 rfl rfl ?_
  refine wp_get 52 rfl fl_RX3_38 rfl ⟨by omega, by omega⟩ dX3_minds_12 rfl (v := 2) (hLd) ?_
  refine wp_iload_n dX3_minds_15 rfl rfl ?_
  refine wp_callV0 (d' := d - 1) cv_RX3_81 2 rfl [(0, b)] [] rfl rfl (Or.inl ⟨_, _, rfl, by decide, rfl, by omega, by omega⟩) (by omega) (Nat.le_of_ble_eq_true rfl) dX3_minds_16 rfl (Nat.le_of_ble_eq_true rfl) (by omega) (loc1 := [(2, 2), (0, b)]) rfl ?_
  refine sp_has_2 hn b (fun _ => ?_) (fun h => absurd (by omega) h)
  refine wp_if_eq (tgt := 35) dX3_minds_19 (by decide) (fun h => absurd h (by decide)) (fun _ => ?_)
  refine wp_aload_n dX3_minds_22 rfl rfl ?_
  refine wp_get 52 rfl fl_RX3_24 rfl ⟨by omega, by omega⟩ dX3_minds_23 rfl (v := 57) (sr_52_7 (M := M) hR) ?_
  refine wp_iload_n dX3_minds_26 rfl rfl ?_
  refine wp_iconst dX3_minds_27 (by decide) ?_
  refine wp_imul dX3_minds_28 (by omega) ?_
  refine wp_iload_n dX3_minds_29 rfl rfl ?_
  refine wp_iadd dX3_minds_30 (by omega) ?_
  refine wp_zald 57 rfl rfl ⟨by omega, by omega⟩ ⟨by omega, by omega⟩ dX3_minds_31 (v := (M 57 (((a * 5) + b)).toNat)) (rfl) ?_
  refine wp_if_eq (tgt := 39) dX3_minds_32 (by decide) (fun h32 => ?_) (fun h32 => ?_)
  · refine wp_iconst dX3_minds_39 (by decide) ?_
    refine wp_zret rfl (by omega) dX3_minds_40 ?_
    refine kf ?_; cases hz : mindsA E A a b with | false => rfl | true => (rw [hz] at et; exact absurd (h32.symm.trans (et.trans (if_pos rfl))) (by decide))
  · refine wp_iconst dX3_minds_35 (by decide) ?_
    refine wp_goto (tgt := 40) dX3_minds_36 (by decide) ?_
    refine wp_zret rfl (by omega) dX3_minds_40 ?_
    refine kt ?_; cases hz : mindsA E A a b with | true => rfl | false => (rw [hz] at et; exact absurd (et.trans (if_neg (by decide))) h32)
set_option maxRecDepth 20000 in
set_option maxHeartbeats 4000000 in
theorem sp_mindsT_16 {l : Launch} {g : Gw} {d n : Nat} {M : Mm} {Q : Option Wd → Mm → Prop} (hn : 60 ≤ n) (hd : 1 ≤ d) {A : Ls} {E : Ev} {x : Od} (hQ : QJ 16 M A E x) {a b : Int} (ha : a ∈ x) (hb : b ∈ x) (kt : mindsA E A a b = true → Q (some (0, 1)) M) (kf : mindsA E A a b = false → Q (some (0, 0)) M) : Wp l g d 0 0 n m_X3_minds 0 [] [(2, 52), (0, a), (0, b)] M Q := by
  obtain ⟨hR, hA, hW, hLd, hL, hN, hx, hT⟩ := hQ
  have xa := hx a ha
  have xb := hx b hb
  have a2 := hA.2.2.1
  have w1 := hW.2.1
  have et := hT a ha b hb
  refine wp_aload_n dX3_minds_0 rfl rfl ?_
  refine wp_get 52 rfl fl_RX3_38 rfl ⟨by omega, by omega⟩ dX3_minds_1 rfl (v := 16) (hLd) ?_
  refine wp_iload_n dX3_minds_4 rfl rfl ?_
  refine wp_callV0 (d' := d - 1) cv_RX3_81 16 rfl [(0, a)] [] rfl rfl (Or.inl ⟨_, _, rfl, by decide, rfl, by omega, by omega⟩) (by omega) (Nat.le_of_ble_eq_true rfl) dX3_minds_5 rfl (Nat.le_of_ble_eq_true rfl) (by omega) (loc1 := [(2, 16), (0, a)]) rfl ?_
  refine sp_has_16 hn a (fun _ => ?_) (fun h => absurd (by omega) h)
  refine wp_if_eq (tgt := 35) dX3_minds_8 (by decide) (fun h => absurd h (by decide)) (fun _ => ?_)
  refine wp_aload_n dX3_minds_11 rfl rfl ?_
  refine wp_get 52 rfl fl_RX3_38 rfl ⟨by omega, by omega⟩ dX3_minds_12 rfl (v := 16) (hLd) ?_
  refine wp_iload_n dX3_minds_15 rfl rfl ?_
  refine wp_callV0 (d' := d - 1) cv_RX3_81 16 rfl [(0, b)] [] rfl rfl (Or.inl ⟨_, _, rfl, by decide, rfl, by omega, by omega⟩) (by omega) (Nat.le_of_ble_eq_true rfl) dX3_minds_16 rfl (Nat.le_of_ble_eq_true rfl) (by omega) (loc1 := [(2, 16), (0, b)]) rfl ?_
  refine sp_has_16 hn b (fun _ => ?_) (fun h => absurd (by omega) h)
  refine wp_if_eq (tgt := 35) dX3_minds_19 (by decide) (fun h => absurd h (by decide)) (fun _ => ?_)
  refine wp_aload_n dX3_minds_22 rfl rfl ?_
  refine wp_get 52 rfl fl_RX3_24 rfl ⟨by omega, by omega⟩ dX3_minds_23 rfl (v := 57) (sr_52_7 (M := M) hR) ?_
  refine wp_iload_n dX3_minds_26 rfl rfl ?_
  refine wp_iconst dX3_minds_27 (by decide) ?_
  refine wp_imul dX3_minds_28 (by omega) ?_
  refine wp_iload_n dX3_minds_29 rfl rfl ?_
  refine wp_iadd dX3_minds_30 (by omega) ?_
  refine wp_zald 57 rfl rfl ⟨by omega, by omega⟩ ⟨by omega, by omega⟩ dX3_minds_31 (v := (M 57 (((a * 5) + b)).toNat)) (rfl) ?_
  refine wp_if_eq (tgt := 39) dX3_minds_32 (by decide) (fun h32 => ?_) (fun h32 => ?_)
  · refine wp_iconst dX3_minds_39 (by decide) ?_
    refine wp_zret rfl (by omega) dX3_minds_40 ?_
    refine kf ?_; cases hz : mindsA E A a b with | false => rfl | true => (rw [hz] at et; exact absurd (h32.symm.trans (et.trans (if_pos rfl))) (by decide))
  · refine wp_iconst dX3_minds_35 (by decide) ?_
    refine wp_goto (tgt := 40) dX3_minds_36 (by decide) ?_
    refine wp_zret rfl (by omega) dX3_minds_40 ?_
    refine kt ?_; cases hz : mindsA E A a b with | true => rfl | false => (rw [hz] at et; exact absurd (et.trans (if_neg (by decide))) h32)
set_option maxRecDepth 20000 in
set_option maxHeartbeats 4000000 in
theorem lp_spread_2  {l : Launch} {g : Gw} {d n : Nat} (hn : 60 ≤ n) (hd : 4 ≤ d) {A : Ls} {E : Ev} {x0 x : Od} (hx0 : okO x0.length x0) (hxp : x.Perm x0) {i : Nat} {w : Int} (hw : 0 ≤ w ∧ w ≤ 1000) : ∀ (m p : Nat) (S : St) (M : Mm) (u1 u2 : Wd) (Q : Option Wd → Mm → Prop), p + m = x0.length → 1 ≤ p → QJ 2 M A E x0 → SJ M x0 S → i < S.1.length → S.1.getD i pr0 = (x, w) → (∀ q, q < x0.length → M 56 q = at0 x q) → (∀ M', SJ M' x0 (spA (cnA E A) x w m p S) → Fr VO M M' → Q none M') → Wp l g d 0 0 n m_X3_spread 7 [] [(2, 52), (0, (i : Int)), (0, (p : Int)), u1, u2] M Q := by
  intro m
  induction m with
  | zero =>
    intro p S M u1 u2 Q hp hp1 hQ hS hi hg hy k
    obtain ⟨hR, hA, hW, hLd, hL, hN, hxm, hT⟩ := id hQ
    obtain ⟨hF, hI, hP, hPB⟩ := id hS
    have h120 := hPB.le hN
    refine wp_iload_n dX3_spread_7 rfl rfl ?_
    refine wp_aload_n dX3_spread_8 rfl rfl ?_
    refine wp_get 52 rfl fl_RX3_57 rfl ⟨by omega, by omega⟩ dX3_spread_9 rfl (v := (M 52 11)) (rfl) ?_
    refine wp_icmp_ge (tgt := 122) dX3_spread_12 (by decide) (fun _ => ?_) (fun h => absurd h (by omega))
    refine wp_vret rfl dX3_spread_122 ?_
    exact k M hS Fr.rf
  | succ m ih =>
    intro p S M u1 u2 Q hp hp1 hQ hS hi hg hy k
    obtain ⟨hR, hA, hW, hLd, hL, hN, hxm, hT⟩ := id hQ
    obtain ⟨hF, hI, hP, hPB⟩ := id hS
    have h120 := hPB.le hN
    obtain ⟨a0, a1, a2, a3, ar, al⟩ := id hA
    have w1 := hW.2.1
    have hAll := hPB.ok hx0
    have hxo := perm_ok hx0 hxp
    have hxl := hxo.1
    have m1 : at0 x (p - 1) ∈ x0 := hxp.subset (at_mem (by omega))
    have m2 : at0 x p ∈ x0 := hxp.subset (at_mem (by omega))
    have r1 := hxm _ m1
    have r2 := hxm _ m2
    refine wp_iload_n dX3_spread_7 rfl rfl ?_
    refine wp_aload_n dX3_spread_8 rfl rfl ?_
    refine wp_get 52 rfl fl_RX3_57 rfl ⟨by omega, by omega⟩ dX3_spread_9 rfl (v := (M 52 11)) (rfl) ?_
    refine wp_icmp_ge (tgt := 122) dX3_spread_12 (by decide) (fun h => absurd h (by omega)) (fun _ => ?_)
    refine wp_aload_n dX3_spread_15 rfl rfl ?_
    refine wp_get 52 rfl fl_RX3_21 rfl ⟨by omega, by omega⟩ dX3_spread_16 rfl (v := 56) (sr_52_6 (M := M) hR) ?_
    refine wp_iload_n dX3_spread_19 rfl rfl ?_
    refine wp_iconst dX3_spread_20 (by decide) ?_
    refine wp_isub dX3_spread_21 (by omega) ?_
    refine wp_iald 56 rfl rfl ⟨by omega, by omega⟩ ⟨by omega, by omega⟩ dX3_spread_22 (v := (at0 x (p - 1))) (by rw [show (((p : Int) - 1)).toNat = (p - 1) by omega]; exact hy (p - 1) (by omega)) ?_
    refine wp_istore_n (loc' := [(2, 52), (0, (i : Int)), (0, (p : Int)), (0, (at0 x (p - 1))), u2]) dX3_spread_23 rfl (Nat.le_of_ble_eq_true rfl) rfl ?_
    refine wp_aload_n dX3_spread_24 rfl rfl ?_
    refine wp_get 52 rfl fl_RX3_21 rfl ⟨by omega, by omega⟩ dX3_spread_25 rfl (v := 56) (sr_52_6 (M := M) hR) ?_
    refine wp_iload_n dX3_spread_28 rfl rfl ?_
    refine wp_iald 56 rfl rfl ⟨by omega, by omega⟩ ⟨by omega, by omega⟩ dX3_spread_29 (v := (at0 x p)) (hy p (by omega)) ?_
    refine wp_istore (loc' := [(2, 52), (0, (i : Int)), (0, (p : Int)), (0, (at0 x (p - 1))), (0, (at0 x p))]) dX3_spread_30 (Nat.le_of_ble_eq_true rfl) rfl ?_
    refine wp_aload_n dX3_spread_32 rfl rfl ?_
    refine wp_get 52 rfl fl_RX3_38 rfl ⟨by omega, by omega⟩ dX3_spread_33 rfl (v := 2) (hLd) ?_
    refine wp_iload_n dX3_spread_36 rfl rfl ?_
    refine wp_iconst dX3_spread_37 (by decide) ?_
    refine wp_isub dX3_spread_38 (by omega) ?_
    refine wp_iload_n dX3_spread_39 rfl rfl ?_
    refine wp_callV0 (d' := d - 1) cv_RX3_101 2 rfl [(0, ((p : Int) - 1)), (0, (at0 x (p - 1)))] [] rfl rfl (Or.inl ⟨_, _, rfl, by decide, rfl, by omega, by omega⟩) (by omega) (Nat.le_of_ble_eq_true rfl) dX3_spread_40 rfl (Nat.le_of_ble_eq_true rfl) (by omega) (loc1 := [(2, 2), (0, ((p : Int) - 1)), (0, (at0 x (p - 1)))]) rfl ?_
    refine sp_isHeld_2 hn (by omega) hR ((p : Int) - 1) (at0 x (p - 1)) (by omega) (fun h40 => ?_) (fun h40 => ?_)
    · have hheld : p = 1 ∧ 0 < A.2 4 (at0 x 0).toNat := by
        have hp1 : p = 1 := by omega
        subst hp1
        have r0 : 0 ≤ at0 x 0 ∧ at0 x 0 < A.1 2 := r1
        rw [← ar 4 (at0 x 0).toNat (by omega) (by omega)]
        exact ⟨rfl, h40.2⟩
      refine wp_if_ne (tgt := 116) dX3_spread_43 (by decide) (fun _ => ?_) (fun h => absurd h (by decide))
      refine wp_iinc (loc' := [(2, 52), (0, (i : Int)), (0, ((p : Int) + 1)), (0, (at0 x (p - 1))), (0, (at0 x p))]) dX3_spread_116 rfl (by omega) rfl ?_
      refine wp_goto (tgt := 7) dX3_spread_119 (by decide) ?_
      have cneg : ¬ cnA E A x p = true := by
        intro hc
        unfold cnA at hc
        rw [Bool.and_eq_true] at hc
        first | exact of_decide_eq_true hc.1 hheld | (have c2 := hc.2; rw [hm] at c2; cases c2)
      refine ih (p + 1) S M _ _ Q (by omega) (by omega) hQ hS hi hg hy (fun M3 b1 b2 => k M3 ?_ b2)
      rw [show spA (cnA E A) x w (m + 1) p S = spA (cnA E A) x w m (p + 1) (if cnA E A x p = true then (keepA S.1 (swp x p) (w + 1), bor S.2 (shl 1 (at0 x (p - 1)))) else S) from rfl, if_neg cneg]
      exact b1
    · have hnh : ¬ (p = 1 ∧ 0 < A.2 4 (at0 x 0).toNat) := by
        intro hc
        obtain ⟨rfl, hc⟩ := hc
        have r0 : 0 ≤ at0 x 0 ∧ at0 x 0 < A.1 2 := r1
        rw [← ar 4 (at0 x 0).toNat (by omega) (by omega)] at hc
        exact h40 ⟨by omega, hc⟩
      refine wp_if_ne (tgt := 116) dX3_spread_43 (by decide) (fun h => absurd h (by decide)) (fun _ => ?_)
      refine wp_aload_n dX3_spread_46 rfl rfl ?_
      refine wp_iload_n dX3_spread_47 rfl rfl ?_
      refine wp_iload dX3_spread_48 rfl ?_
      refine wp_callV0 (d' := d - 1) cv_RX3_105 52 rfl [(0, (at0 x (p - 1))), (0, (at0 x p))] [] rfl rfl (Or.inl ⟨_, _, rfl, by decide, rfl, by omega, by omega⟩) (by omega) (Nat.le_of_ble_eq_true rfl) dX3_spread_50 rfl (Nat.le_of_ble_eq_true rfl) (by omega) (loc1 := [(2, 52), (0, (at0 x (p - 1))), (0, (at0 x p))]) rfl ?_
      refine sp_mindsT_2 hn (by omega) hQ m1 m2 (fun hm => ?_) (fun hm => ?_)
      · refine wp_if_eq (tgt := 59) dX3_spread_53 (by decide) (fun h => absurd h (by decide)) (fun _ => ?_)
        refine wp_goto (tgt := 116) dX3_spread_56 (by decide) ?_
        refine wp_iinc (loc' := [(2, 52), (0, (i : Int)), (0, ((p : Int) + 1)), (0, (at0 x (p - 1))), (0, (at0 x p))]) dX3_spread_116 rfl (by omega) rfl ?_
        refine wp_goto (tgt := 7) dX3_spread_119 (by decide) ?_
        have cneg : ¬ cnA E A x p = true := by
          intro hc
          unfold cnA at hc
          rw [Bool.and_eq_true] at hc
          first | exact of_decide_eq_true hc.1 hheld | (have c2 := hc.2; rw [hm] at c2; cases c2)
        refine ih (p + 1) S M _ _ Q (by omega) (by omega) hQ hS hi hg hy (fun M3 b1 b2 => k M3 ?_ b2)
        rw [show spA (cnA E A) x w (m + 1) p S = spA (cnA E A) x w m (p + 1) (if cnA E A x p = true then (keepA S.1 (swp x p) (w + 1), bor S.2 (shl 1 (at0 x (p - 1)))) else S) from rfl, if_neg cneg]
        exact b1
      · refine wp_if_eq (tgt := 59) dX3_spread_53 (by decide) (fun _ => ?_) (fun h => absurd h (by decide))
        refine wp_aload_n dX3_spread_59 rfl rfl ?_
        refine wp_dup dX3_spread_60 (Or.inr rfl) ?_
        refine wp_get 52 rfl fl_RX3_61 rfl ⟨by omega, by omega⟩ dX3_spread_61 rfl (v := S.2) (hP) ?_
        refine wp_iconst dX3_spread_64 (by decide) ?_
        refine wp_iload_n dX3_spread_65 rfl rfl ?_
        refine wp_ishl dX3_spread_66 ?_
        refine wp_ior dX3_spread_67 ?_
        refine wp_puti 52 rfl fl_RX3_61 rfl ⟨by omega, by omega⟩ dX3_spread_68 rfl rfl ?_
        refine wp_aload_n dX3_spread_71 rfl rfl ?_
        refine wp_get 52 rfl fl_RX3_21 rfl ⟨by omega, by omega⟩ dX3_spread_72 rfl (v := 56) (sr_52_6 (M := M) hR) ?_
        refine wp_iload_n dX3_spread_75 rfl rfl ?_
        refine wp_iconst dX3_spread_76 (by decide) ?_
        refine wp_isub dX3_spread_77 (by omega) ?_
        refine wp_iload dX3_spread_78 rfl ?_
        refine wp_iast 56 rfl rfl ⟨by omega, by omega⟩ ⟨by omega, by omega⟩ dX3_spread_80 (jn := (p - 1)) (by omega) ?_
        refine wp_aload_n dX3_spread_81 rfl rfl ?_
        refine wp_get 52 rfl fl_RX3_21 rfl ⟨by omega, by omega⟩ dX3_spread_82 rfl (v := 56) (sr_52_6 (M := M) hR) ?_
        refine wp_iload_n dX3_spread_85 rfl rfl ?_
        refine wp_iload_n dX3_spread_86 rfl rfl ?_
        refine wp_iast 56 rfl rfl ⟨by omega, by omega⟩ ⟨by omega, by omega⟩ dX3_spread_87 (jn := p) rfl ?_
        refine wp_aload_n dX3_spread_88 rfl rfl ?_
        refine wp_aload_n dX3_spread_89 rfl rfl ?_
        refine wp_iload_n dX3_spread_90 rfl rfl ?_
        refine wp_callV0 (d' := d - 1) cv_RX3_107 52 rfl [(0, (i : Int))] [(2, 52)] rfl rfl (Or.inl ⟨_, _, rfl, by decide, rfl, by omega, by omega⟩) (by omega) (Nat.le_of_ble_eq_true rfl) dX3_spread_91 rfl (Nat.le_of_ble_eq_true rfl) (by omega) (loc1 := [(2, 52), (0, (i : Int))]) rfl ?_
        have f1 : Fr VO M (mu (mu (mu M 52 12 (bor S.2 (shl 1 (at0 x (p - 1))))) 56 (p - 1) (at0 x p)) 56 p (at0 x (p - 1))) := ((Fr.rf.put (Or.inl ⟨rfl, Or.inr rfl⟩)).put (Or.inr ⟨by omega, by omega⟩)).put (Or.inr ⟨by omega, by omega⟩)
        have hR1 := VY.sr (f1.mono VO.y) hR
        have hF1 : Fnd (mu (mu (mu M 52 12 (bor S.2 (shl 1 (at0 x (p - 1))))) 56 (p - 1) (at0 x p)) 56 p (at0 x (p - 1))) x0.length S.1 := hF.fr rfl (fun j => rfl) (fun j => rfl)
        have hI1 : FI (mu (mu (mu M 52 12 (bor S.2 (shl 1 (at0 x (p - 1))))) 56 (p - 1) (at0 x p)) 56 p (at0 x (p - 1))) x0.length S.1 := hI.fr rfl (fun j => rfl)
        refine sp_passingsAt hn hR1 hF1 h120 hi ?_
        rw [hg]
        refine wp_iconst dX3_spread_94 (by decide) ?_
        refine wp_iadd dX3_spread_95 (by omega) ?_
        refine wp_callV0 (d' := d - 1) cv_RX3_74 52 rfl [(0, (w + 1))] [] rfl rfl (Or.inl ⟨_, _, rfl, by decide, rfl, by omega, by omega⟩) (by omega) (Nat.le_of_ble_eq_true rfl) dX3_spread_96 rfl (Nat.le_of_ble_eq_true rfl) (by omega) (loc1 := [(2, 52), (0, (w + 1)), (9, 0), (9, 0)]) rfl ?_
        have hy1 : ∀ q, q < x0.length → (mu (mu (mu M 52 12 (bor S.2 (shl 1 (at0 x (p - 1))))) 56 (p - 1) (at0 x p)) 56 p (at0 x (p - 1))) 56 q = at0 (swp x p) q := sw_now (M := mu M 52 12 (bor S.2 (shl 1 (at0 x (p - 1))))) hxo.1 hp1 (by omega) hy
        have hsp := (swp_perm hp1 (by rw [hxo.1]; omega)).trans hxp
        refine sp_keep hn hR1 hF1 hI1 h120 hAll hL (by omega) (w + 1) (perm_ok hx0 hsp) hy1 (fun hno => hPB.lt hsp (by omega) hno) (fun M2 e1 e2 e3 hR2 => ?_)
        refine wp_aload_n dX3_spread_99 rfl rfl ?_
        refine wp_get 52 rfl fl_RX3_21 rfl ⟨by omega, by omega⟩ dX3_spread_100 rfl (v := 56) (sr_52_6 (M := M2) hR2) ?_
        refine wp_iload_n dX3_spread_103 rfl rfl ?_
        refine wp_iconst dX3_spread_104 (by decide) ?_
        refine wp_isub dX3_spread_105 (by omega) ?_
        refine wp_iload_n dX3_spread_106 rfl rfl ?_
        refine wp_iast 56 rfl rfl ⟨by omega, by omega⟩ ⟨by omega, by omega⟩ dX3_spread_107 (jn := (p - 1)) (by omega) ?_
        refine wp_aload_n dX3_spread_108 rfl rfl ?_
        refine wp_get 52 rfl fl_RX3_21 rfl ⟨by omega, by omega⟩ dX3_spread_109 rfl (v := 56) (sr_52_6 (M := M2) hR2) ?_
        refine wp_iload_n dX3_spread_112 rfl rfl ?_
        refine wp_iload dX3_spread_113 rfl ?_
        refine wp_iast 56 rfl rfl ⟨by omega, by omega⟩ ⟨by omega, by omega⟩ dX3_spread_115 (jn := p) rfl ?_
        refine wp_iinc (loc' := [(2, 52), (0, (i : Int)), (0, ((p : Int) + 1)), (0, (at0 x (p - 1))), (0, (at0 x p))]) dX3_spread_116 rfl (by omega) rfl ?_
        refine wp_goto (tgt := 7) dX3_spread_119 (by decide) ?_
        have cpos : cnA E A x p = true := by unfold cnA; rw [hm, Bool.and_eq_true]; exact ⟨decide_eq_true hnh, rfl⟩
        have f3 : Fr VO M2 (mu (mu M2 56 (p - 1) (at0 x (p - 1))) 56 p (at0 x p)) := (Fr.rf.put (Or.inr ⟨by omega, by omega⟩)).put (Or.inr ⟨by omega, by omega⟩)
        have f4 : Fr VO M (mu (mu M2 56 (p - 1) (at0 x (p - 1))) 56 p (at0 x p)) := f1.tr ((e3.mono VK.o).tr f3)
        have kg := keep_get hi (swp x p) (w + 1)
        refine ih (p + 1) (keepA S.1 (swp x p) (w + 1), bor S.2 (shl 1 (at0 x (p - 1)))) _ _ _ Q (by omega) (by omega) (hQ.fr (by omega) f4) ⟨e1.fr rfl (fun j => rfl) (fun j => rfl), e2.fr rfl (fun j => rfl), ?_, hPB.keep hsp _⟩ kg.2 (kg.1.trans hg) (fun q hq => ?_) (fun M3 b1 b2 => k M3 ?_ (f4.tr b2))
        · show M2 52 12 = _
          rw [e3 52 12 (by unfold VK; omega)]
          rfl
        · have q1 := e3 56 q (by unfold VK; omega)
          by_cases c : q = p
          · subst c; rw [mu_self]
          · rw [mu_nj _ _ _ c]
            by_cases c2 : q = p - 1
            · subst c2; rw [mu_self]
            · rw [mu_nj _ _ _ c2, q1, mu_nj _ _ _ c, mu_nj _ _ _ c2, mu_ne _ _ _ (by omega)]; exact hy q hq
        · rw [show spA (cnA E A) x w (m + 1) p S = spA (cnA E A) x w m (p + 1) (if cnA E A x p = true then (keepA S.1 (swp x p) (w + 1), bor S.2 (shl 1 (at0 x (p - 1)))) else S) from rfl, if_pos cpos]
          exact b1
set_option maxRecDepth 20000 in
set_option maxHeartbeats 4000000 in
theorem lp_spread_16  {l : Launch} {g : Gw} {d n : Nat} (hn : 60 ≤ n) (hd : 4 ≤ d) {A : Ls} {E : Ev} {x0 x : Od} (hx0 : okO x0.length x0) (hxp : x.Perm x0) {i : Nat} {w : Int} (hw : 0 ≤ w ∧ w ≤ 1000) : ∀ (m p : Nat) (S : St) (M : Mm) (u1 u2 : Wd) (Q : Option Wd → Mm → Prop), p + m = x0.length → 1 ≤ p → QJ 16 M A E x0 → SJ M x0 S → i < S.1.length → S.1.getD i pr0 = (x, w) → (∀ q, q < x0.length → M 56 q = at0 x q) → (∀ M', SJ M' x0 (spA (cnA E A) x w m p S) → Fr VO M M' → Q none M') → Wp l g d 0 0 n m_X3_spread 7 [] [(2, 52), (0, (i : Int)), (0, (p : Int)), u1, u2] M Q := by
  intro m
  induction m with
  | zero =>
    intro p S M u1 u2 Q hp hp1 hQ hS hi hg hy k
    obtain ⟨hR, hA, hW, hLd, hL, hN, hxm, hT⟩ := id hQ
    obtain ⟨hF, hI, hP, hPB⟩ := id hS
    have h120 := hPB.le hN
    refine wp_iload_n dX3_spread_7 rfl rfl ?_
    refine wp_aload_n dX3_spread_8 rfl rfl ?_
    refine wp_get 52 rfl fl_RX3_57 rfl ⟨by omega, by omega⟩ dX3_spread_9 rfl (v := (M 52 11)) (rfl) ?_
    refine wp_icmp_ge (tgt := 122) dX3_spread_12 (by decide) (fun _ => ?_) (fun h => absurd h (by omega))
    refine wp_vret rfl dX3_spread_122 ?_
    exact k M hS Fr.rf
  | succ m ih =>
    intro p S M u1 u2 Q hp hp1 hQ hS hi hg hy k
    obtain ⟨hR, hA, hW, hLd, hL, hN, hxm, hT⟩ := id hQ
    obtain ⟨hF, hI, hP, hPB⟩ := id hS
    have h120 := hPB.le hN
    obtain ⟨a0, a1, a2, a3, ar, al⟩ := id hA
    have w1 := hW.2.1
    have hAll := hPB.ok hx0
    have hxo := perm_ok hx0 hxp
    have hxl := hxo.1
    have m1 : at0 x (p - 1) ∈ x0 := hxp.subset (at_mem (by omega))
    have m2 : at0 x p ∈ x0 := hxp.subset (at_mem (by omega))
    have r1 := hxm _ m1
    have r2 := hxm _ m2
    refine wp_iload_n dX3_spread_7 rfl rfl ?_
    refine wp_aload_n dX3_spread_8 rfl rfl ?_
    refine wp_get 52 rfl fl_RX3_57 rfl ⟨by omega, by omega⟩ dX3_spread_9 rfl (v := (M 52 11)) (rfl) ?_
    refine wp_icmp_ge (tgt := 122) dX3_spread_12 (by decide) (fun h => absurd h (by omega)) (fun _ => ?_)
    refine wp_aload_n dX3_spread_15 rfl rfl ?_
    refine wp_get 52 rfl fl_RX3_21 rfl ⟨by omega, by omega⟩ dX3_spread_16 rfl (v := 56) (sr_52_6 (M := M) hR) ?_
    refine wp_iload_n dX3_spread_19 rfl rfl ?_
    refine wp_iconst dX3_spread_20 (by decide) ?_
    refine wp_isub dX3_spread_21 (by omega) ?_
    refine wp_iald 56 rfl rfl ⟨by omega, by omega⟩ ⟨by omega, by omega⟩ dX3_spread_22 (v := (at0 x (p - 1))) (by rw [show (((p : Int) - 1)).toNat = (p - 1) by omega]; exact hy (p - 1) (by omega)) ?_
    refine wp_istore_n (loc' := [(2, 52), (0, (i : Int)), (0, (p : Int)), (0, (at0 x (p - 1))), u2]) dX3_spread_23 rfl (Nat.le_of_ble_eq_true rfl) rfl ?_
    refine wp_aload_n dX3_spread_24 rfl rfl ?_
    refine wp_get 52 rfl fl_RX3_21 rfl ⟨by omega, by omega⟩ dX3_spread_25 rfl (v := 56) (sr_52_6 (M := M) hR) ?_
    refine wp_iload_n dX3_spread_28 rfl rfl ?_
    refine wp_iald 56 rfl rfl ⟨by omega, by omega⟩ ⟨by omega, by omega⟩ dX3_spread_29 (v := (at0 x p)) (hy p (by omega)) ?_
    refine wp_istore (loc' := [(2, 52), (0, (i : Int)), (0, (p : Int)), (0, (at0 x (p - 1))), (0, (at0 x p))]) dX3_spread_30 (Nat.le_of_ble_eq_true rfl) rfl ?_
    refine wp_aload_n dX3_spread_32 rfl rfl ?_
    refine wp_get 52 rfl fl_RX3_38 rfl ⟨by omega, by omega⟩ dX3_spread_33 rfl (v := 16) (hLd) ?_
    refine wp_iload_n dX3_spread_36 rfl rfl ?_
    refine wp_iconst dX3_spread_37 (by decide) ?_
    refine wp_isub dX3_spread_38 (by omega) ?_
    refine wp_iload_n dX3_spread_39 rfl rfl ?_
    refine wp_callV0 (d' := d - 1) cv_RX3_101 16 rfl [(0, ((p : Int) - 1)), (0, (at0 x (p - 1)))] [] rfl rfl (Or.inl ⟨_, _, rfl, by decide, rfl, by omega, by omega⟩) (by omega) (Nat.le_of_ble_eq_true rfl) dX3_spread_40 rfl (Nat.le_of_ble_eq_true rfl) (by omega) (loc1 := [(2, 16), (0, ((p : Int) - 1)), (0, (at0 x (p - 1)))]) rfl ?_
    refine sp_isHeld_16 hn (by omega) hR ((p : Int) - 1) (at0 x (p - 1)) (by omega) (fun h40 => ?_) (fun h40 => ?_)
    · have hheld : p = 1 ∧ 0 < A.2 4 (at0 x 0).toNat := by
        have hp1 : p = 1 := by omega
        subst hp1
        have r0 : 0 ≤ at0 x 0 ∧ at0 x 0 < A.1 2 := r1
        rw [← ar 4 (at0 x 0).toNat (by omega) (by omega)]
        exact ⟨rfl, h40.2⟩
      refine wp_if_ne (tgt := 116) dX3_spread_43 (by decide) (fun _ => ?_) (fun h => absurd h (by decide))
      refine wp_iinc (loc' := [(2, 52), (0, (i : Int)), (0, ((p : Int) + 1)), (0, (at0 x (p - 1))), (0, (at0 x p))]) dX3_spread_116 rfl (by omega) rfl ?_
      refine wp_goto (tgt := 7) dX3_spread_119 (by decide) ?_
      have cneg : ¬ cnA E A x p = true := by
        intro hc
        unfold cnA at hc
        rw [Bool.and_eq_true] at hc
        first | exact of_decide_eq_true hc.1 hheld | (have c2 := hc.2; rw [hm] at c2; cases c2)
      refine ih (p + 1) S M _ _ Q (by omega) (by omega) hQ hS hi hg hy (fun M3 b1 b2 => k M3 ?_ b2)
      rw [show spA (cnA E A) x w (m + 1) p S = spA (cnA E A) x w m (p + 1) (if cnA E A x p = true then (keepA S.1 (swp x p) (w + 1), bor S.2 (shl 1 (at0 x (p - 1)))) else S) from rfl, if_neg cneg]
      exact b1
    · have hnh : ¬ (p = 1 ∧ 0 < A.2 4 (at0 x 0).toNat) := by
        intro hc
        obtain ⟨rfl, hc⟩ := hc
        have r0 : 0 ≤ at0 x 0 ∧ at0 x 0 < A.1 2 := r1
        rw [← ar 4 (at0 x 0).toNat (by omega) (by omega)] at hc
        exact h40 ⟨by omega, hc⟩
      refine wp_if_ne (tgt := 116) dX3_spread_43 (by decide) (fun h => absurd h (by decide)) (fun _ => ?_)
      refine wp_aload_n dX3_spread_46 rfl rfl ?_
      refine wp_iload_n dX3_spread_47 rfl rfl ?_
      refine wp_iload dX3_spread_48 rfl ?_
      refine wp_callV0 (d' := d - 1) cv_RX3_105 52 rfl [(0, (at0 x (p - 1))), (0, (at0 x p))] [] rfl rfl (Or.inl ⟨_, _, rfl, by decide, rfl, by omega, by omega⟩) (by omega) (Nat.le_of_ble_eq_true rfl) dX3_spread_50 rfl (Nat.le_of_ble_eq_true rfl) (by omega) (loc1 := [(2, 52), (0, (at0 x (p - 1))), (0, (at0 x p))]) rfl ?_
      refine sp_mindsT_16 hn (by omega) hQ m1 m2 (fun hm => ?_) (fun hm => ?_)
      · refine wp_if_eq (tgt := 59) dX3_spread_53 (by decide) (fun h => absurd h (by decide)) (fun _ => ?_)
        refine wp_goto (tgt := 116) dX3_spread_56 (by decide) ?_
        refine wp_iinc (loc' := [(2, 52), (0, (i : Int)), (0, ((p : Int) + 1)), (0, (at0 x (p - 1))), (0, (at0 x p))]) dX3_spread_116 rfl (by omega) rfl ?_
        refine wp_goto (tgt := 7) dX3_spread_119 (by decide) ?_
        have cneg : ¬ cnA E A x p = true := by
          intro hc
          unfold cnA at hc
          rw [Bool.and_eq_true] at hc
          first | exact of_decide_eq_true hc.1 hheld | (have c2 := hc.2; rw [hm] at c2; cases c2)
        refine ih (p + 1) S M _ _ Q (by omega) (by omega) hQ hS hi hg hy (fun M3 b1 b2 => k M3 ?_ b2)
        rw [show spA (cnA E A) x w (m + 1) p S = spA (cnA E A) x w m (p + 1) (if cnA E A x p = true then (keepA S.1 (swp x p) (w + 1), bor S.2 (shl 1 (at0 x (p - 1)))) else S) from rfl, if_neg cneg]
        exact b1
      · refine wp_if_eq (tgt := 59) dX3_spread_53 (by decide) (fun _ => ?_) (fun h => absurd h (by decide))
        refine wp_aload_n dX3_spread_59 rfl rfl ?_
        refine wp_dup dX3_spread_60 (Or.inr rfl) ?_
        refine wp_get 52 rfl fl_RX3_61 rfl ⟨by omega, by omega⟩ dX3_spread_61 rfl (v := S.2) (hP) ?_
        refine wp_iconst dX3_spread_64 (by decide) ?_
        refine wp_iload_n dX3_spread_65 rfl rfl ?_
        refine wp_ishl dX3_spread_66 ?_
        refine wp_ior dX3_spread_67 ?_
        refine wp_puti 52 rfl fl_RX3_61 rfl ⟨by omega, by omega⟩ dX3_spread_68 rfl rfl ?_
        refine wp_aload_n dX3_spread_71 rfl rfl ?_
        refine wp_get 52 rfl fl_RX3_21 rfl ⟨by omega, by omega⟩ dX3_spread_72 rfl (v := 56) (sr_52_6 (M := M) hR) ?_
        refine wp_iload_n dX3_spread_75 rfl rfl ?_
        refine wp_iconst dX3_spread_76 (by decide) ?_
        refine wp_isub dX3_spread_77 (by omega) ?_
        refine wp_iload dX3_spread_78 rfl ?_
        refine wp_iast 56 rfl rfl ⟨by omega, by omega⟩ ⟨by omega, by omega⟩ dX3_spread_80 (jn := (p - 1)) (by omega) ?_
        refine wp_aload_n dX3_spread_81 rfl rfl ?_
        refine wp_get 52 rfl fl_RX3_21 rfl ⟨by omega, by omega⟩ dX3_spread_82 rfl (v := 56) (sr_52_6 (M := M) hR) ?_
        refine wp_iload_n dX3_spread_85 rfl rfl ?_
        refine wp_iload_n dX3_spread_86 rfl rfl ?_
        refine wp_iast 56 rfl rfl ⟨by omega, by omega⟩ ⟨by omega, by omega⟩ dX3_spread_87 (jn := p) rfl ?_
        refine wp_aload_n dX3_spread_88 rfl rfl ?_
        refine wp_aload_n dX3_spread_89 rfl rfl ?_
        refine wp_iload_n dX3_spread_90 rfl rfl ?_
        refine wp_callV0 (d' := d - 1) cv_RX3_107 52 rfl [(0, (i : Int))] [(2, 52)] rfl rfl (Or.inl ⟨_, _, rfl, by decide, rfl, by omega, by omega⟩) (by omega) (Nat.le_of_ble_eq_true rfl) dX3_spread_91 rfl (Nat.le_of_ble_eq_true rfl) (by omega) (loc1 := [(2, 52), (0, (i : Int))]) rfl ?_
        have f1 : Fr VO M (mu (mu (mu M 52 12 (bor S.2 (shl 1 (at0 x (p - 1))))) 56 (p - 1) (at0 x p)) 56 p (at0 x (p - 1))) := ((Fr.rf.put (Or.inl ⟨rfl, Or.inr rfl⟩)).put (Or.inr ⟨by omega, by omega⟩)).put (Or.inr ⟨by omega, by omega⟩)
        have hR1 := VY.sr (f1.mono VO.y) hR
        have hF1 : Fnd (mu (mu (mu M 52 12 (bor S.2 (shl 1 (at0 x (p - 1))))) 56 (p - 1) (at0 x p)) 56 p (at0 x (p - 1))) x0.length S.1 := hF.fr rfl (fun j => rfl) (fun j => rfl)
        have hI1 : FI (mu (mu (mu M 52 12 (bor S.2 (shl 1 (at0 x (p - 1))))) 56 (p - 1) (at0 x p)) 56 p (at0 x (p - 1))) x0.length S.1 := hI.fr rfl (fun j => rfl)
        refine sp_passingsAt hn hR1 hF1 h120 hi ?_
        rw [hg]
        refine wp_iconst dX3_spread_94 (by decide) ?_
        refine wp_iadd dX3_spread_95 (by omega) ?_
        refine wp_callV0 (d' := d - 1) cv_RX3_74 52 rfl [(0, (w + 1))] [] rfl rfl (Or.inl ⟨_, _, rfl, by decide, rfl, by omega, by omega⟩) (by omega) (Nat.le_of_ble_eq_true rfl) dX3_spread_96 rfl (Nat.le_of_ble_eq_true rfl) (by omega) (loc1 := [(2, 52), (0, (w + 1)), (9, 0), (9, 0)]) rfl ?_
        have hy1 : ∀ q, q < x0.length → (mu (mu (mu M 52 12 (bor S.2 (shl 1 (at0 x (p - 1))))) 56 (p - 1) (at0 x p)) 56 p (at0 x (p - 1))) 56 q = at0 (swp x p) q := sw_now (M := mu M 52 12 (bor S.2 (shl 1 (at0 x (p - 1))))) hxo.1 hp1 (by omega) hy
        have hsp := (swp_perm hp1 (by rw [hxo.1]; omega)).trans hxp
        refine sp_keep hn hR1 hF1 hI1 h120 hAll hL (by omega) (w + 1) (perm_ok hx0 hsp) hy1 (fun hno => hPB.lt hsp (by omega) hno) (fun M2 e1 e2 e3 hR2 => ?_)
        refine wp_aload_n dX3_spread_99 rfl rfl ?_
        refine wp_get 52 rfl fl_RX3_21 rfl ⟨by omega, by omega⟩ dX3_spread_100 rfl (v := 56) (sr_52_6 (M := M2) hR2) ?_
        refine wp_iload_n dX3_spread_103 rfl rfl ?_
        refine wp_iconst dX3_spread_104 (by decide) ?_
        refine wp_isub dX3_spread_105 (by omega) ?_
        refine wp_iload_n dX3_spread_106 rfl rfl ?_
        refine wp_iast 56 rfl rfl ⟨by omega, by omega⟩ ⟨by omega, by omega⟩ dX3_spread_107 (jn := (p - 1)) (by omega) ?_
        refine wp_aload_n dX3_spread_108 rfl rfl ?_
        refine wp_get 52 rfl fl_RX3_21 rfl ⟨by omega, by omega⟩ dX3_spread_109 rfl (v := 56) (sr_52_6 (M := M2) hR2) ?_
        refine wp_iload_n dX3_spread_112 rfl rfl ?_
        refine wp_iload dX3_spread_113 rfl ?_
        refine wp_iast 56 rfl rfl ⟨by omega, by omega⟩ ⟨by omega, by omega⟩ dX3_spread_115 (jn := p) rfl ?_
        refine wp_iinc (loc' := [(2, 52), (0, (i : Int)), (0, ((p : Int) + 1)), (0, (at0 x (p - 1))), (0, (at0 x p))]) dX3_spread_116 rfl (by omega) rfl ?_
        refine wp_goto (tgt := 7) dX3_spread_119 (by decide) ?_
        have cpos : cnA E A x p = true := by unfold cnA; rw [hm, Bool.and_eq_true]; exact ⟨decide_eq_true hnh, rfl⟩
        have f3 : Fr VO M2 (mu (mu M2 56 (p - 1) (at0 x (p - 1))) 56 p (at0 x p)) := (Fr.rf.put (Or.inr ⟨by omega, by omega⟩)).put (Or.inr ⟨by omega, by omega⟩)
        have f4 : Fr VO M (mu (mu M2 56 (p - 1) (at0 x (p - 1))) 56 p (at0 x p)) := f1.tr ((e3.mono VK.o).tr f3)
        have kg := keep_get hi (swp x p) (w + 1)
        refine ih (p + 1) (keepA S.1 (swp x p) (w + 1), bor S.2 (shl 1 (at0 x (p - 1)))) _ _ _ Q (by omega) (by omega) (hQ.fr (by omega) f4) ⟨e1.fr rfl (fun j => rfl) (fun j => rfl), e2.fr rfl (fun j => rfl), ?_, hPB.keep hsp _⟩ kg.2 (kg.1.trans hg) (fun q hq => ?_) (fun M3 b1 b2 => k M3 ?_ (f4.tr b2))
        · show M2 52 12 = _
          rw [e3 52 12 (by unfold VK; omega)]
          rfl
        · have q1 := e3 56 q (by unfold VK; omega)
          by_cases c : q = p
          · subst c; rw [mu_self]
          · rw [mu_nj _ _ _ c]
            by_cases c2 : q = p - 1
            · subst c2; rw [mu_self]
            · rw [mu_nj _ _ _ c2, q1, mu_nj _ _ _ c, mu_nj _ _ _ c2, mu_ne _ _ _ (by omega)]; exact hy q hq
        · rw [show spA (cnA E A) x w (m + 1) p S = spA (cnA E A) x w m (p + 1) (if cnA E A x p = true then (keepA S.1 (swp x p) (w + 1), bor S.2 (shl 1 (at0 x (p - 1)))) else S) from rfl, if_pos cpos]
          exact b1
