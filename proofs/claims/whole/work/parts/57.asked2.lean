/-! ===== what is asked of a search: over all orders ===== -/
abbrev wA (E : Ev) (A : Ls) (i : Nat) : Int := (wtF E A (odA E A i) (lnA A).length).2
abbrev cdA (E : Ev) (A : Ls) (i : Nat) : Int := encN 5 0 (at0 (odA E A i)) (lnA A).length
abbrev dgA (E : Ev) (A : Ls) (i : Nat) : Int := encN 10 1 (at0 (odA E A i)) (lnA A).length
abbrev plA2 (E : Ev) (A : Ls) (a : Int) (i : Nat) : Int := plcO (at0 (odA E A i)) a (lnA A).length 0
def bstA (E : Ev) (A : Ls) : Nat → Nat → Nat → Nat
  | 0, _, b => b
  | m + 1, i, b => bstA E A m (i + 1) (if wA E A i < wA E A b ∨ (wA E A i = wA E A b ∧ awA E A i = awA E A b ∧ cdA E A i < cdA E A b) then i else b)
def fwA (E : Ev) (A : Ls) (D : Int) : Nat → Nat → Int
  | 0, _ => -1
  | m + 1, i => if dgA E A i = D then awA E A i else fwA E A D m (i + 1)
def lstP (E : Ev) (A : Ls) (a : Int) : Nat → Nat → Int → Int
  | 0, _, c => c
  | m + 1, i, c => lstP E A a m (i + 1) (if plA2 E A a i < c then plA2 E A a i else c)
def nerA (E : Ev) (A : Ls) (a pl : Int) : Nat → Nat → Int
  | 0, _ => -1
  | m + 1, i => if plA2 E A a i = pl then awA E A i else nerA E A a pl m (i + 1)
def wlA (A : Ls) : Nat → Int
  | 0 => 0
  | p + 1 => bor (wlA A p) (shl 1 (A.2 5 p))
def rgI (E : Ev) (A : Ls) (p : Nat) : Nat → Nat → Int → Int
  | 0, _, c => c
  | m + 1, q, c => rgI E A p m (q + 1) (if mindsA E A (A.2 5 p) (A.2 5 q) = false ∧ mindsA E A (A.2 5 q) (A.2 5 p) = false then c + 1 else c)
theorem rgI_r (E : Ev) (A : Ls) (p : Nat) : ∀ (m q : Nat) (c : Int), c ≤ rgI E A p m q c ∧ rgI E A p m q c ≤ c + m
  | 0, _, c => by unfold rgI; omega
  | m + 1, q, c => by
    unfold rgI
    split
    · have := rgI_r E A p m (q + 1) (c + 1); omega
    · have := rgI_r E A p m (q + 1) c; omega
def rgO (E : Ev) (A : Ls) (N : Nat) : Nat → Nat → Int → Int
  | 0, _, c => c
  | m + 1, p, c => rgO E A N m (p + 1) (rgI E A p (N - (p + 1)) (p + 1) c)
theorem best_lt {E : Ev} {A : Ls} {n : Nat} : ∀ m i b : Nat, i + m = n → b < n → bstA E A m i b < n
  | 0, _, _, _, h => h
  | m + 1, i, b, h1, h2 => by
    unfold bstA
    split
    · exact best_lt m (i + 1) i (by omega) (by omega)
    · exact best_lt m (i + 1) b (by omega) h2
set_option maxRecDepth 20000 in
set_option maxHeartbeats 4000000 in
theorem lp_best_2  {l : Launch} {g : Gw} {d n : Nat} (hn : 60 ≤ n) (hd : 4 ≤ d) {A : Ls} {E : Ev} : ∀ (m i b : Nat) (M : Mm) (u4 u5 : Wd) (Q : Option Wd → Mm → Prop), i + m = (flA E A).length → b < (flA E A).length → 1 ≤ i → FJ 2 M A E → (∀ M', FJ 2 M' A E → Fr (fun i _ => i = 56) M M' → Q (some (0, (bstA E A m i b : Int))) M') → Wp l g d 0 0 n m_X3_best 10 [] [(2, 52), (0, (b : Int)), (0, wA E A b), (0, (i : Int)), u4, u5] M Q := by
  intro m
  induction m with
  | zero =>
    intro i b M u4 u5 Q hm hb hi1 hJ k
    obtain ⟨hQ, hS, hAB, hLq⟩ := id hJ
    obtain ⟨hR, hA, hW, hLd, hL, hN, hxm, hT⟩ := id hQ
    obtain ⟨hF, hI, hP, hPB⟩ := id hS
    have h120 := hPB.le hN
    have h3 := hF.1
    have h3f : M 52 3 = ((flA E A).length : Int) := hF.1
    have h120f : (flA E A).length ≤ 120 := h120
    refine wp_iload_n dX3_best_10 rfl rfl ?_
    refine wp_aload_n dX3_best_11 rfl rfl ?_
    refine wp_get 52 rfl fl_RX3_58 rfl ⟨by omega, by omega⟩ dX3_best_12 rfl (v := (M 52 3)) (rfl) ?_
    refine wp_icmp_ge (tgt := 96) dX3_best_15 (by decide) (fun _ => ?_) (fun h => absurd h (by omega))
    refine wp_iload_n dX3_best_96 rfl rfl ?_
    refine wp_iret rfl dX3_best_97 ?_
    exact k M hJ Fr.rf
  | succ m ih =>
    intro i b M u4 u5 Q hm hb hi1 hJ k
    obtain ⟨hQ, hS, hAB, hLq⟩ := id hJ
    obtain ⟨hR, hA, hW, hLd, hL, hN, hxm, hT⟩ := id hQ
    obtain ⟨hF, hI, hP, hPB⟩ := id hS
    have h120 := hPB.le hN
    have h3 := hF.1
    have h3f : M 52 3 = ((flA E A).length : Int) := hF.1
    have h120f : (flA E A).length ≤ 120 := h120
    refine wp_iload_n dX3_best_10 rfl rfl ?_
    refine wp_aload_n dX3_best_11 rfl rfl ?_
    refine wp_get 52 rfl fl_RX3_58 rfl ⟨by omega, by omega⟩ dX3_best_12 rfl (v := (M 52 3)) (rfl) ?_
    refine wp_icmp_ge (tgt := 96) dX3_best_15 (by decide) (fun h => absurd h (by omega)) (fun _ => ?_)
    refine wp_iload_n dX3_best_18 rfl rfl ?_
    refine wp_bipush dX3_best_19 (by decide) (by decide) ?_
    refine wp_icmp_ge (tgt := 96) dX3_best_21 (by decide) (fun h => absurd h (by omega)) (fun _ => ?_)
    refine wp_aload_n dX3_best_24 rfl rfl ?_
    refine wp_iload_n dX3_best_25 rfl rfl ?_
    refine wp_callV0 (d' := d - 1) cv_RX3_117 52 rfl [(0, (i : Int))] [] rfl rfl (Or.inl ⟨_, _, rfl, by decide, rfl, by omega, by omega⟩) (by omega) (Nat.le_of_ble_eq_true rfl) dX3_best_26 rfl (Nat.le_of_ble_eq_true rfl) (by omega) (loc1 := [(2, 52), (0, (i : Int)), (9, 0), (9, 0), (9, 0), (9, 0)]) rfl ?_
    refine sp_waitAt_2 hn (by omega) hJ (i := i) (by omega) (fun M1 hJ1 f1 => ?_)
    have hR1 := hJ1.1.1
    have hF1 := hJ1.2.1.1
    refine wp_istore (loc' := [(2, 52), (0, (b : Int)), (0, (wA E A b)), (0, (i : Int)), (0, (wA E A i)), u5]) dX3_best_29 (Nat.le_of_ble_eq_true rfl) rfl ?_
    refine wp_aload_n dX3_best_31 rfl rfl ?_
    refine wp_get 52 rfl fl_RX3_15 rfl ⟨by omega, by omega⟩ dX3_best_32 rfl (v := 54) (sr_52_2 (M := M1) hR1) ?_
    refine wp_iload_n dX3_best_35 rfl rfl ?_
    refine wp_iald 54 rfl rfl ⟨by omega, by omega⟩ ⟨by omega, by omega⟩ dX3_best_36 (v := (awA E A i)) ((hF1.2 i (by show i < (flA E A).length; omega)).2) ?_
    refine wp_aload_n dX3_best_37 rfl rfl ?_
    refine wp_get 52 rfl fl_RX3_15 rfl ⟨by omega, by omega⟩ dX3_best_38 rfl (v := 54) (sr_52_2 (M := M1) hR1) ?_
    refine wp_iload_n dX3_best_41 rfl rfl ?_
    refine wp_iald 54 rfl rfl ⟨by omega, by omega⟩ ⟨by omega, by omega⟩ dX3_best_42 (v := (awA E A b)) ((hF1.2 b hb).2) ?_
    refine wp_icmp_ne (tgt := 65) dX3_best_43 (by decide) (fun h43 => ?_) (fun h43 => ?_)
    · refine wp_iconst dX3_best_65 (by decide) ?_
      refine wp_istore (loc' := [(2, 52), (0, (b : Int)), (0, (wA E A b)), (0, (i : Int)), (0, (wA E A i)), (0, 0)]) dX3_best_66 (Nat.le_of_ble_eq_true rfl) rfl ?_
      refine wp_iload dX3_best_68 rfl ?_
      refine wp_iload_n dX3_best_70 rfl rfl ?_
      refine wp_icmp_lt (tgt := 85) dX3_best_71 (by decide) (fun h71 => ?_) (fun h71 => ?_)
      · refine wp_iload_n dX3_best_85 rfl rfl ?_
        refine wp_istore_n (loc' := [(2, 52), (0, (i : Int)), (0, (wA E A b)), (0, (i : Int)), (0, (wA E A i)), (0, 0)]) dX3_best_86 rfl (Nat.le_of_ble_eq_true rfl) rfl ?_
        refine wp_iload dX3_best_87 rfl ?_
        refine wp_istore_n (loc' := [(2, 52), (0, (i : Int)), (0, (wA E A i)), (0, (i : Int)), (0, (wA E A i)), (0, 0)]) dX3_best_89 rfl (Nat.le_of_ble_eq_true rfl) rfl ?_
        refine wp_iinc (loc' := [(2, 52), (0, (i : Int)), (0, (wA E A i)), (0, ((i : Int) + 1)), (0, (wA E A i)), (0, 0)]) dX3_best_90 rfl (by omega) rfl ?_
        refine wp_goto (tgt := 10) dX3_best_93 (by decide) ?_
        have e : bstA E A (m + 1) i b = bstA E A m (i + 1) i := by
          show bstA E A m (i + 1) (if _ then _ else _) = _
          rw [if_pos (by omega)]
        rw [e] at k
        exact ih (i + 1) i M1 _ _ Q (by omega) (by omega) (by omega) hJ1 (fun M2 b1 b2 => k M2 b1 (f1.tr b2))
      · refine wp_iload dX3_best_74 rfl ?_
        refine wp_iload_n dX3_best_76 rfl rfl ?_
        refine wp_icmp_ne (tgt := 90) dX3_best_77 (by decide) (fun h77 => ?_) (fun h77 => ?_)
        · refine wp_iinc (loc' := [(2, 52), (0, (b : Int)), (0, (wA E A b)), (0, ((i : Int) + 1)), (0, (wA E A i)), (0, 0)]) dX3_best_90 rfl (by omega) rfl ?_
          refine wp_goto (tgt := 10) dX3_best_93 (by decide) ?_
          have e : bstA E A (m + 1) i b = bstA E A m (i + 1) b := by
            show bstA E A m (i + 1) (if _ then _ else _) = _
            rw [if_neg (by omega)]
          rw [e] at k
          exact ih (i + 1) b M1 _ _ Q (by omega) (by omega) (by omega) hJ1 (fun M2 b1 b2 => k M2 b1 (f1.tr b2))
        · refine wp_iload dX3_best_80 rfl ?_
          refine wp_if_eq (tgt := 90) dX3_best_82 (by decide) (fun _ => ?_) (fun h => absurd h (by decide))
          refine wp_iinc (loc' := [(2, 52), (0, (b : Int)), (0, (wA E A b)), (0, ((i : Int) + 1)), (0, (wA E A i)), (0, 0)]) dX3_best_90 rfl (by omega) rfl ?_
          refine wp_goto (tgt := 10) dX3_best_93 (by decide) ?_
          have e : bstA E A (m + 1) i b = bstA E A m (i + 1) b := by
            show bstA E A m (i + 1) (if _ then _ else _) = _
            rw [if_neg (by omega)]
          rw [e] at k
          exact ih (i + 1) b M1 _ _ Q (by omega) (by omega) (by omega) hJ1 (fun M2 b1 b2 => k M2 b1 (f1.tr b2))
    · refine wp_aload_n dX3_best_46 rfl rfl ?_
      refine wp_get 52 rfl fl_RX3_11 rfl ⟨by omega, by omega⟩ dX3_best_47 rfl (v := 53) (sr_52_1 (M := M1) hR1) ?_
      refine wp_iload_n dX3_best_50 rfl rfl ?_
      refine wp_iald 53 rfl rfl ⟨by omega, by omega⟩ ⟨by omega, by omega⟩ dX3_best_51 (v := (cdA E A i)) ((hF1.2 i (by show i < (flA E A).length; omega)).1) ?_
      refine wp_aload_n dX3_best_52 rfl rfl ?_
      refine wp_get 52 rfl fl_RX3_11 rfl ⟨by omega, by omega⟩ dX3_best_53 rfl (v := 53) (sr_52_1 (M := M1) hR1) ?_
      refine wp_iload_n dX3_best_56 rfl rfl ?_
      refine wp_iald 53 rfl rfl ⟨by omega, by omega⟩ ⟨by omega, by omega⟩ dX3_best_57 (v := (cdA E A b)) ((hF1.2 b hb).1) ?_
      refine wp_icmp_ge (tgt := 65) dX3_best_58 (by decide) (fun h58 => ?_) (fun h58 => ?_)
      · refine wp_iconst dX3_best_65 (by decide) ?_
        refine wp_istore (loc' := [(2, 52), (0, (b : Int)), (0, (wA E A b)), (0, (i : Int)), (0, (wA E A i)), (0, 0)]) dX3_best_66 (Nat.le_of_ble_eq_true rfl) rfl ?_
        refine wp_iload dX3_best_68 rfl ?_
        refine wp_iload_n dX3_best_70 rfl rfl ?_
        refine wp_icmp_lt (tgt := 85) dX3_best_71 (by decide) (fun h71 => ?_) (fun h71 => ?_)
        · refine wp_iload_n dX3_best_85 rfl rfl ?_
          refine wp_istore_n (loc' := [(2, 52), (0, (i : Int)), (0, (wA E A b)), (0, (i : Int)), (0, (wA E A i)), (0, 0)]) dX3_best_86 rfl (Nat.le_of_ble_eq_true rfl) rfl ?_
          refine wp_iload dX3_best_87 rfl ?_
          refine wp_istore_n (loc' := [(2, 52), (0, (i : Int)), (0, (wA E A i)), (0, (i : Int)), (0, (wA E A i)), (0, 0)]) dX3_best_89 rfl (Nat.le_of_ble_eq_true rfl) rfl ?_
          refine wp_iinc (loc' := [(2, 52), (0, (i : Int)), (0, (wA E A i)), (0, ((i : Int) + 1)), (0, (wA E A i)), (0, 0)]) dX3_best_90 rfl (by omega) rfl ?_
          refine wp_goto (tgt := 10) dX3_best_93 (by decide) ?_
          have e : bstA E A (m + 1) i b = bstA E A m (i + 1) i := by
            show bstA E A m (i + 1) (if _ then _ else _) = _
            rw [if_pos (by omega)]
          rw [e] at k
          exact ih (i + 1) i M1 _ _ Q (by omega) (by omega) (by omega) hJ1 (fun M2 b1 b2 => k M2 b1 (f1.tr b2))
        · refine wp_iload dX3_best_74 rfl ?_
          refine wp_iload_n dX3_best_76 rfl rfl ?_
          refine wp_icmp_ne (tgt := 90) dX3_best_77 (by decide) (fun h77 => ?_) (fun h77 => ?_)
          · refine wp_iinc (loc' := [(2, 52), (0, (b : Int)), (0, (wA E A b)), (0, ((i : Int) + 1)), (0, (wA E A i)), (0, 0)]) dX3_best_90 rfl (by omega) rfl ?_
            refine wp_goto (tgt := 10) dX3_best_93 (by decide) ?_
            have e : bstA E A (m + 1) i b = bstA E A m (i + 1) b := by
              show bstA E A m (i + 1) (if _ then _ else _) = _
              rw [if_neg (by omega)]
            rw [e] at k
            exact ih (i + 1) b M1 _ _ Q (by omega) (by omega) (by omega) hJ1 (fun M2 b1 b2 => k M2 b1 (f1.tr b2))
          · refine wp_iload dX3_best_80 rfl ?_
            refine wp_if_eq (tgt := 90) dX3_best_82 (by decide) (fun _ => ?_) (fun h => absurd h (by decide))
            refine wp_iinc (loc' := [(2, 52), (0, (b : Int)), (0, (wA E A b)), (0, ((i : Int) + 1)), (0, (wA E A i)), (0, 0)]) dX3_best_90 rfl (by omega) rfl ?_
            refine wp_goto (tgt := 10) dX3_best_93 (by decide) ?_
            have e : bstA E A (m + 1) i b = bstA E A m (i + 1) b := by
              show bstA E A m (i + 1) (if _ then _ else _) = _
              rw [if_neg (by omega)]
            rw [e] at k
            exact ih (i + 1) b M1 _ _ Q (by omega) (by omega) (by omega) hJ1 (fun M2 b1 b2 => k M2 b1 (f1.tr b2))
      · refine wp_iconst dX3_best_61 (by decide) ?_
        refine wp_goto (tgt := 66) dX3_best_62 (by decide) ?_
        refine wp_istore (loc' := [(2, 52), (0, (b : Int)), (0, (wA E A b)), (0, (i : Int)), (0, (wA E A i)), (0, 1)]) dX3_best_66 (Nat.le_of_ble_eq_true rfl) rfl ?_
        refine wp_iload dX3_best_68 rfl ?_
        refine wp_iload_n dX3_best_70 rfl rfl ?_
        refine wp_icmp_lt (tgt := 85) dX3_best_71 (by decide) (fun h71 => ?_) (fun h71 => ?_)
        · refine wp_iload_n dX3_best_85 rfl rfl ?_
          refine wp_istore_n (loc' := [(2, 52), (0, (i : Int)), (0, (wA E A b)), (0, (i : Int)), (0, (wA E A i)), (0, 1)]) dX3_best_86 rfl (Nat.le_of_ble_eq_true rfl) rfl ?_
          refine wp_iload dX3_best_87 rfl ?_
          refine wp_istore_n (loc' := [(2, 52), (0, (i : Int)), (0, (wA E A i)), (0, (i : Int)), (0, (wA E A i)), (0, 1)]) dX3_best_89 rfl (Nat.le_of_ble_eq_true rfl) rfl ?_
          refine wp_iinc (loc' := [(2, 52), (0, (i : Int)), (0, (wA E A i)), (0, ((i : Int) + 1)), (0, (wA E A i)), (0, 1)]) dX3_best_90 rfl (by omega) rfl ?_
          refine wp_goto (tgt := 10) dX3_best_93 (by decide) ?_
          have e : bstA E A (m + 1) i b = bstA E A m (i + 1) i := by
            show bstA E A m (i + 1) (if _ then _ else _) = _
            rw [if_pos (by omega)]
          rw [e] at k
          exact ih (i + 1) i M1 _ _ Q (by omega) (by omega) (by omega) hJ1 (fun M2 b1 b2 => k M2 b1 (f1.tr b2))
        · refine wp_iload dX3_best_74 rfl ?_
          refine wp_iload_n dX3_best_76 rfl rfl ?_
          refine wp_icmp_ne (tgt := 90) dX3_best_77 (by decide) (fun h77 => ?_) (fun h77 => ?_)
          · refine wp_iinc (loc' := [(2, 52), (0, (b : Int)), (0, (wA E A b)), (0, ((i : Int) + 1)), (0, (wA E A i)), (0, 1)]) dX3_best_90 rfl (by omega) rfl ?_
            refine wp_goto (tgt := 10) dX3_best_93 (by decide) ?_
            have e : bstA E A (m + 1) i b = bstA E A m (i + 1) b := by
              show bstA E A m (i + 1) (if _ then _ else _) = _
              rw [if_neg (by omega)]
            rw [e] at k
            exact ih (i + 1) b M1 _ _ Q (by omega) (by omega) (by omega) hJ1 (fun M2 b1 b2 => k M2 b1 (f1.tr b2))
          · refine wp_iload dX3_best_80 rfl ?_
            refine wp_if_eq (tgt := 90) dX3_best_82 (by decide) (fun h => absurd h (by decide)) (fun _ => ?_)
            refine wp_iload_n dX3_best_85 rfl rfl ?_
            refine wp_istore_n (loc' := [(2, 52), (0, (i : Int)), (0, (wA E A b)), (0, (i : Int)), (0, (wA E A i)), (0, 1)]) dX3_best_86 rfl (Nat.le_of_ble_eq_true rfl) rfl ?_
            refine wp_iload dX3_best_87 rfl ?_
            refine wp_istore_n (loc' := [(2, 52), (0, (i : Int)), (0, (wA E A i)), (0, (i : Int)), (0, (wA E A i)), (0, 1)]) dX3_best_89 rfl (Nat.le_of_ble_eq_true rfl) rfl ?_
            refine wp_iinc (loc' := [(2, 52), (0, (i : Int)), (0, (wA E A i)), (0, ((i : Int) + 1)), (0, (wA E A i)), (0, 1)]) dX3_best_90 rfl (by omega) rfl ?_
            refine wp_goto (tgt := 10) dX3_best_93 (by decide) ?_
            have e : bstA E A (m + 1) i b = bstA E A m (i + 1) i := by
              show bstA E A m (i + 1) (if _ then _ else _) = _
              rw [if_pos (by omega)]
            rw [e] at k
            exact ih (i + 1) i M1 _ _ Q (by omega) (by omega) (by omega) hJ1 (fun M2 b1 b2 => k M2 b1 (f1.tr b2))
set_option maxRecDepth 20000 in
set_option maxHeartbeats 4000000 in
theorem sp_best_2 {l : Launch} {g : Gw} {d n : Nat} {M : Mm} {Q : Option Wd → Mm → Prop} (hn : 60 ≤ n) (hd : 4 ≤ d) {A : Ls} {E : Ev} (hJ : FJ 2 M A E) (hlen : 0 < (flA E A).length) (k : ∀ M', FJ 2 M' A E → Fr (fun i _ => i = 56) M M' → Q (some (0, (bstA E A ((flA E A).length - 1) 1 0 : Int))) M') : Wp l g d 0 0 n m_X3_best 0 [] [(2, 52), (9, 0), (9, 0), (9, 0), (9, 0), (9, 0)] M Q := by
  obtain ⟨hQ, hS, hAB, hLq⟩ := id hJ
  obtain ⟨hR, hA, hW, hLd, hL, hN, hxm, hT⟩ := id hQ
  obtain ⟨hF, hI, hP, hPB⟩ := id hS
  have h120 := hPB.le hN
  have h3 := hF.1
  have h3f : M 52 3 = ((flA E A).length : Int) := hF.1
  have h120f : (flA E A).length ≤ 120 := h120
  refine wp_iconst dX3_best_0 (by decide) ?_
  refine wp_istore_n (loc' := [(2, 52), (0, 0), (9, 0), (9, 0), (9, 0), (9, 0)]) dX3_best_1 rfl (Nat.le_of_ble_eq_true rfl) rfl ?_
  refine wp_aload_n dX3_best_2 rfl rfl ?_
  refine wp_iconst dX3_best_3 (by decide) ?_
  refine wp_callV0 (d' := d - 1) cv_RX3_117 52 rfl [(0, 0)] [] rfl rfl (Or.inl ⟨_, _, rfl, by decide, rfl, by omega, by omega⟩) (by omega) (Nat.le_of_ble_eq_true rfl) dX3_best_4 rfl (Nat.le_of_ble_eq_true rfl) (by omega) (loc1 := [(2, 52), (0, 0), (9, 0), (9, 0), (9, 0), (9, 0)]) rfl ?_
  refine sp_waitAt_2 hn (by omega) hJ (i := 0) hlen (fun M1 hJ1 f1 => ?_)
  have hR1 := hJ1.1.1
  refine wp_istore_n (loc' := [(2, 52), (0, 0), (0, (wA E A 0)), (9, 0), (9, 0), (9, 0)]) dX3_best_7 rfl (Nat.le_of_ble_eq_true rfl) rfl ?_
  refine wp_iconst dX3_best_8 (by decide) ?_
  refine wp_istore_n (loc' := [(2, 52), (0, 0), (0, (wA E A 0)), (0, 1), (9, 0), (9, 0)]) dX3_best_9 rfl (Nat.le_of_ble_eq_true rfl) rfl ?_
  exact lp_best_2 hn hd ((flA E A).length - 1) 1 0 M1 _ _ Q (by omega) hlen (by omega) hJ1 (fun M2 b1 b2 => k M2 b1 (f1.tr b2))
set_option maxRecDepth 20000 in
set_option maxHeartbeats 4000000 in
theorem lp_passingsTo_2  {l : Launch} {g : Gw} {d n : Nat} (hn : 60 ≤ n) (hd : 4 ≤ d) {A : Ls} {E : Ev} (D : Int) : ∀ (m i : Nat) (M : Mm) (Q : Option Wd → Mm → Prop), i + m = (flA E A).length → FJ 2 M A E → (∀ M', FJ 2 M' A E → Fr (fun i _ => i = 56) M M' → Q (some (0, fwA E A D m i)) M') → Wp l g d 0 0 n m_X3_passingsTo 2 [] [(2, 52), (0, D), (0, (i : Int))] M Q := by
  intro m
  induction m with
  | zero =>
    intro i M Q hm hJ k
    obtain ⟨hQ, hS, hAB, hLq⟩ := id hJ
    obtain ⟨hR, hA, hW, hLd, hL, hN, hxm, hT⟩ := id hQ
    obtain ⟨hF, hI, hP, hPB⟩ := id hS
    have h120 := hPB.le hN
    have h3 := hF.1
    have h3f : M 52 3 = ((flA E A).length : Int) := hF.1
    have h120f : (flA E A).length ≤ 120 := h120
    refine wp_iload_n dX3_passingsTo_2 rfl rfl ?_
    refine wp_aload_n dX3_passingsTo_3 rfl rfl ?_
    refine wp_get 52 rfl fl_RX3_58 rfl ⟨by omega, by omega⟩ dX3_passingsTo_4 rfl (v := (M 52 3)) (rfl) ?_
    refine wp_icmp_ge (tgt := 31) dX3_passingsTo_7 (by decide) (fun _ => ?_) (fun h => absurd h (by omega))
    refine wp_iconst dX3_passingsTo_31 (by decide) ?_
    refine wp_iret rfl dX3_passingsTo_32 ?_
    exact k M hJ Fr.rf
  | succ m ih =>
    intro i M Q hm hJ k
    obtain ⟨hQ, hS, hAB, hLq⟩ := id hJ
    obtain ⟨hR, hA, hW, hLd, hL, hN, hxm, hT⟩ := id hQ
    obtain ⟨hF, hI, hP, hPB⟩ := id hS
    have h120 := hPB.le hN
    have h3 := hF.1
    have h3f : M 52 3 = ((flA E A).length : Int) := hF.1
    have h120f : (flA E A).length ≤ 120 := h120
    refine wp_iload_n dX3_passingsTo_2 rfl rfl ?_
    refine wp_aload_n dX3_passingsTo_3 rfl rfl ?_
    refine wp_get 52 rfl fl_RX3_58 rfl ⟨by omega, by omega⟩ dX3_passingsTo_4 rfl (v := (M 52 3)) (rfl) ?_
    refine wp_icmp_ge (tgt := 31) dX3_passingsTo_7 (by decide) (fun h => absurd h (by omega)) (fun _ => ?_)
    refine wp_aload_n dX3_passingsTo_10 rfl rfl ?_
    refine wp_iload_n dX3_passingsTo_11 rfl rfl ?_
    refine wp_callV0 (d' := d - 1) cv_RX3_120 52 rfl [(0, (i : Int))] [] rfl rfl (Or.inl ⟨_, _, rfl, by decide, rfl, by omega, by omega⟩) (by omega) (Nat.le_of_ble_eq_true rfl) dX3_passingsTo_12 rfl (Nat.le_of_ble_eq_true rfl) (by omega) (loc1 := [(2, 52), (0, (i : Int)), (9, 0), (9, 0)]) rfl ?_
    refine sp_digitsAt_2 hn (by omega) hJ (i := i) (by omega) (fun M1 hJ1 f1 => ?_)
    have hR1 := hJ1.1.1
    refine wp_iload_n dX3_passingsTo_15 rfl rfl ?_
    refine wp_icmp_ne (tgt := 25) dX3_passingsTo_16 (by decide) (fun h16 => ?_) (fun h16 => ?_)
    · refine wp_iinc (loc' := [(2, 52), (0, D), (0, ((i : Int) + 1))]) dX3_passingsTo_25 rfl (by omega) rfl ?_
      refine wp_goto (tgt := 2) dX3_passingsTo_28 (by decide) ?_
      have e : fwA E A D (m + 1) i = fwA E A D m (i + 1) := if_neg h16
      rw [e] at k
      exact ih (i + 1) M1 Q (by omega) hJ1 (fun M2 b1 b2 => k M2 b1 (f1.tr b2))
    · refine wp_aload_n dX3_passingsTo_19 rfl rfl ?_
      refine wp_iload_n dX3_passingsTo_20 rfl rfl ?_
      refine wp_callV0 (d' := d - 1) cv_RX3_107 52 rfl [(0, (i : Int))] [] rfl rfl (Or.inl ⟨_, _, rfl, by decide, rfl, by omega, by omega⟩) (by omega) (Nat.le_of_ble_eq_true rfl) dX3_passingsTo_21 rfl (Nat.le_of_ble_eq_true rfl) (by omega) (loc1 := [(2, 52), (0, (i : Int))]) rfl ?_
      refine sp_passingsAt hn hR1 hJ1.2.1.1 h120 (i := i) (by show i < (flA E A).length; omega) ?_
      refine wp_iret rfl dX3_passingsTo_24 ?_
      have e : fwA E A D (m + 1) i = awA E A i := if_pos h16
      rw [e] at k
      exact k M1 hJ1 f1
set_option maxRecDepth 20000 in
set_option maxHeartbeats 4000000 in
theorem sp_passingsTo_2 {l : Launch} {g : Gw} {d n : Nat} {M : Mm} {Q : Option Wd → Mm → Prop} (hn : 60 ≤ n) (hd : 4 ≤ d) {A : Ls} {E : Ev} (hJ : FJ 2 M A E) (D : Int) (k : ∀ M', FJ 2 M' A E → Fr (fun i _ => i = 56) M M' → Q (some (0, fwA E A D (flA E A).length 0)) M') : Wp l g d 0 0 n m_X3_passingsTo 0 [] [(2, 52), (0, D), (9, 0)] M Q := by
  obtain ⟨hQ, hS, hAB, hLq⟩ := id hJ
  obtain ⟨hR, hA, hW, hLd, hL, hN, hxm, hT⟩ := id hQ
  obtain ⟨hF, hI, hP, hPB⟩ := id hS
  have h120 := hPB.le hN
  have h3 := hF.1
  have h3f : M 52 3 = ((flA E A).length : Int) := hF.1
  have h120f : (flA E A).length ≤ 120 := h120
  refine wp_iconst dX3_passingsTo_0 (by decide) ?_
  refine wp_istore_n (loc' := [(2, 52), (0, D), (0, 0)]) dX3_passingsTo_1 rfl (Nat.le_of_ble_eq_true rfl) rfl ?_
  exact lp_passingsTo_2 hn hd D (flA E A).length 0 M Q (by omega) hJ k
set_option maxRecDepth 20000 in
set_option maxHeartbeats 4000000 in
theorem lp_nearest_2  {l : Launch} {g : Gw} {d n : Nat} (hn : 60 ≤ n) (hd : 4 ≤ d) {A : Ls} {E : Ev} (a pl : Int) : ∀ (m i : Nat) (M : Mm) (Q : Option Wd → Mm → Prop), i + m = (flA E A).length → FJ 2 M A E → (∀ M', FJ 2 M' A E → Fr (fun i _ => i = 56) M M' → Q (some (0, nerA E A a pl m i)) M') → Wp l g d 0 0 n m_X3_nearest 2 [] [(2, 52), (0, a), (0, pl), (0, (i : Int))] M Q := by
  intro m
  induction m with
  | zero =>
    intro i M Q hm hJ k
    obtain ⟨hQ, hS, hAB, hLq⟩ := id hJ
    obtain ⟨hR, hA, hW, hLd, hL, hN, hxm, hT⟩ := id hQ
    obtain ⟨hF, hI, hP, hPB⟩ := id hS
    have h120 := hPB.le hN
    have h3 := hF.1
    have h3f : M 52 3 = ((flA E A).length : Int) := hF.1
    have h120f : (flA E A).length ≤ 120 := h120
    refine wp_iload_n dX3_nearest_2 rfl rfl ?_
    refine wp_aload_n dX3_nearest_3 rfl rfl ?_
    refine wp_get 52 rfl fl_RX3_58 rfl ⟨by omega, by omega⟩ dX3_nearest_4 rfl (v := (M 52 3)) (rfl) ?_
    refine wp_icmp_ge (tgt := 32) dX3_nearest_7 (by decide) (fun _ => ?_) (fun h => absurd h (by omega))
    refine wp_iconst dX3_nearest_32 (by decide) ?_
    refine wp_iret rfl dX3_nearest_33 ?_
    exact k M hJ Fr.rf
  | succ m ih =>
    intro i M Q hm hJ k
    obtain ⟨hQ, hS, hAB, hLq⟩ := id hJ
    obtain ⟨hR, hA, hW, hLd, hL, hN, hxm, hT⟩ := id hQ
    obtain ⟨hF, hI, hP, hPB⟩ := id hS
    have h120 := hPB.le hN
    have h3 := hF.1
    have h3f : M 52 3 = ((flA E A).length : Int) := hF.1
    have h120f : (flA E A).length ≤ 120 := h120
    refine wp_iload_n dX3_nearest_2 rfl rfl ?_
    refine wp_aload_n dX3_nearest_3 rfl rfl ?_
    refine wp_get 52 rfl fl_RX3_58 rfl ⟨by omega, by omega⟩ dX3_nearest_4 rfl (v := (M 52 3)) (rfl) ?_
    refine wp_icmp_ge (tgt := 32) dX3_nearest_7 (by decide) (fun h => absurd h (by omega)) (fun _ => ?_)
    refine wp_aload_n dX3_nearest_10 rfl rfl ?_
    refine wp_iload_n dX3_nearest_11 rfl rfl ?_
    refine wp_iload_n dX3_nearest_12 rfl rfl ?_
    refine wp_callV0 (d' := d - 1) cv_RX3_123 52 rfl [(0, (i : Int)), (0, a)] [] rfl rfl (Or.inl ⟨_, _, rfl, by decide, rfl, by omega, by omega⟩) (by omega) (Nat.le_of_ble_eq_true rfl) dX3_nearest_13 rfl (Nat.le_of_ble_eq_true rfl) (by omega) (loc1 := [(2, 52), (0, (i : Int)), (0, a), (9, 0)]) rfl ?_
    refine sp_placeAt_2 hn (by omega) hJ (i := i) (by omega) a (fun M1 hJ1 f1 => ?_)
    have hR1 := hJ1.1.1
    refine wp_iload_n dX3_nearest_16 rfl rfl ?_
    refine wp_icmp_ne (tgt := 26) dX3_nearest_17 (by decide) (fun h17 => ?_) (fun h17 => ?_)
    · refine wp_iinc (loc' := [(2, 52), (0, a), (0, pl), (0, ((i : Int) + 1))]) dX3_nearest_26 rfl (by omega) rfl ?_
      refine wp_goto (tgt := 2) dX3_nearest_29 (by decide) ?_
      have e : nerA E A a pl (m + 1) i = nerA E A a pl m (i + 1) := if_neg h17
      rw [e] at k
      exact ih (i + 1) M1 Q (by omega) hJ1 (fun M2 b1 b2 => k M2 b1 (f1.tr b2))
    · refine wp_aload_n dX3_nearest_20 rfl rfl ?_
      refine wp_iload_n dX3_nearest_21 rfl rfl ?_
      refine wp_callV0 (d' := d - 1) cv_RX3_107 52 rfl [(0, (i : Int))] [] rfl rfl (Or.inl ⟨_, _, rfl, by decide, rfl, by omega, by omega⟩) (by omega) (Nat.le_of_ble_eq_true rfl) dX3_nearest_22 rfl (Nat.le_of_ble_eq_true rfl) (by omega) (loc1 := [(2, 52), (0, (i : Int))]) rfl ?_
      refine sp_passingsAt hn hR1 hJ1.2.1.1 h120 (i := i) (by show i < (flA E A).length; omega) ?_
      refine wp_iret rfl dX3_nearest_25 ?_
      have e : nerA E A a pl (m + 1) i = awA E A i := if_pos h17
      rw [e] at k
      exact k M1 hJ1 f1
set_option maxRecDepth 20000 in
set_option maxHeartbeats 4000000 in
theorem sp_nearest_2 {l : Launch} {g : Gw} {d n : Nat} {M : Mm} {Q : Option Wd → Mm → Prop} (hn : 60 ≤ n) (hd : 4 ≤ d) {A : Ls} {E : Ev} (hJ : FJ 2 M A E) (a pl : Int) (k : ∀ M', FJ 2 M' A E → Fr (fun i _ => i = 56) M M' → Q (some (0, nerA E A a pl (flA E A).length 0)) M') : Wp l g d 0 0 n m_X3_nearest 0 [] [(2, 52), (0, a), (0, pl), (9, 0)] M Q := by
  obtain ⟨hQ, hS, hAB, hLq⟩ := id hJ
  obtain ⟨hR, hA, hW, hLd, hL, hN, hxm, hT⟩ := id hQ
  obtain ⟨hF, hI, hP, hPB⟩ := id hS
  have h120 := hPB.le hN
  have h3 := hF.1
  have h3f : M 52 3 = ((flA E A).length : Int) := hF.1
  have h120f : (flA E A).length ≤ 120 := h120
  refine wp_iconst dX3_nearest_0 (by decide) ?_
  refine wp_istore_n (loc' := [(2, 52), (0, a), (0, pl), (0, 0)]) dX3_nearest_1 rfl (Nat.le_of_ble_eq_true rfl) rfl ?_
  exact lp_nearest_2 hn hd a pl (flA E A).length 0 M Q (by omega) hJ k
set_option maxRecDepth 20000 in
set_option maxHeartbeats 4000000 in
theorem lp_leastPlace_2  {l : Launch} {g : Gw} {d n : Nat} (hn : 60 ≤ n) (hd : 4 ≤ d) {A : Ls} {E : Ev} (a : Int) : ∀ (m i : Nat) (M : Mm) (c : Int) (Q : Option Wd → Mm → Prop), i + m = (flA E A).length → FJ 2 M A E → (∀ M', FJ 2 M' A E → Fr (fun i _ => i = 56) M M' → Q (some (0, lstP E A a m i c)) M') → Wp l g d 0 0 n m_X3_leastPlace 4 [] [(2, 52), (0, a), (0, c), (0, (i : Int))] M Q := by
  intro m
  induction m with
  | zero =>
    intro i M c Q hm hJ k
    obtain ⟨hQ, hS, hAB, hLq⟩ := id hJ
    obtain ⟨hR, hA, hW, hLd, hL, hN, hxm, hT⟩ := id hQ
    obtain ⟨hF, hI, hP, hPB⟩ := id hS
    have h120 := hPB.le hN
    have h3 := hF.1
    have h3f : M 52 3 = ((flA E A).length : Int) := hF.1
    have h120f : (flA E A).length ≤ 120 := h120
    refine wp_iload_n dX3_leastPlace_4 rfl rfl ?_
    refine wp_aload_n dX3_leastPlace_5 rfl rfl ?_
    refine wp_get 52 rfl fl_RX3_58 rfl ⟨by omega, by omega⟩ dX3_leastPlace_6 rfl (v := (M 52 3)) (rfl) ?_
    refine wp_icmp_ge (tgt := 29) dX3_leastPlace_9 (by decide) (fun _ => ?_) (fun h => absurd h (by omega))
    refine wp_iload_n dX3_leastPlace_29 rfl rfl ?_
    refine wp_iret rfl dX3_leastPlace_30 ?_
    exact k M hJ Fr.rf
  | succ m ih =>
    intro i M c Q hm hJ k
    obtain ⟨hQ, hS, hAB, hLq⟩ := id hJ
    obtain ⟨hR, hA, hW, hLd, hL, hN, hxm, hT⟩ := id hQ
    obtain ⟨hF, hI, hP, hPB⟩ := id hS
    have h120 := hPB.le hN
    have h3 := hF.1
    have h3f : M 52 3 = ((flA E A).length : Int) := hF.1
    have h120f : (flA E A).length ≤ 120 := h120
    refine wp_iload_n dX3_leastPlace_4 rfl rfl ?_
    refine wp_aload_n dX3_leastPlace_5 rfl rfl ?_
    refine wp_get 52 rfl fl_RX3_58 rfl ⟨by omega, by omega⟩ dX3_leastPlace_6 rfl (v := (M 52 3)) (rfl) ?_
    refine wp_icmp_ge (tgt := 29) dX3_leastPlace_9 (by decide) (fun h => absurd h (by omega)) (fun _ => ?_)
    refine wp_iload_n dX3_leastPlace_12 rfl rfl ?_
    refine wp_aload_n dX3_leastPlace_13 rfl rfl ?_
    refine wp_iload_n dX3_leastPlace_14 rfl rfl ?_
    refine wp_iload_n dX3_leastPlace_15 rfl rfl ?_
    refine wp_callV0 (d' := d - 1) cv_RX3_123 52 rfl [(0, (i : Int)), (0, a)] [(0, c)] rfl rfl (Or.inl ⟨_, _, rfl, by decide, rfl, by omega, by omega⟩) (by omega) (Nat.le_of_ble_eq_true rfl) dX3_leastPlace_16 rfl (Nat.le_of_ble_eq_true rfl) (by omega) (loc1 := [(2, 52), (0, (i : Int)), (0, a), (9, 0)]) rfl ?_
    refine sp_placeAt_2 hn (by omega) hJ (i := i) (by omega) a (fun M1 hJ1 f1 => ?_)
    have hR1 := hJ1.1.1
    refine wp_mmin mm_RX3_48 mms_min ini_RJ9 mmc_min (Nat.le_of_ble_eq_true rfl) (by omega) rfl dX3_leastPlace_19 ?_
    refine wp_istore_n (loc' := [(2, 52), (0, a), (0, (if (plA2 E A a i) < c then (plA2 E A a i) else c)), (0, (i : Int))]) dX3_leastPlace_22 rfl (Nat.le_of_ble_eq_true rfl) rfl ?_
    refine wp_iinc (loc' := [(2, 52), (0, a), (0, (if (plA2 E A a i) < c then (plA2 E A a i) else c)), (0, ((i : Int) + 1))]) dX3_leastPlace_23 rfl (by omega) rfl ?_
    refine wp_goto (tgt := 4) dX3_leastPlace_26 (by decide) ?_
    exact ih (i + 1) M1 _ Q (by omega) hJ1 (fun M2 b1 b2 => k M2 b1 (f1.tr b2))
set_option maxRecDepth 20000 in
set_option maxHeartbeats 4000000 in
theorem sp_leastPlace_2 {l : Launch} {g : Gw} {d n : Nat} {M : Mm} {Q : Option Wd → Mm → Prop} (hn : 60 ≤ n) (hd : 4 ≤ d) {A : Ls} {E : Ev} (hJ : FJ 2 M A E) (a : Int) (k : ∀ M', FJ 2 M' A E → Fr (fun i _ => i = 56) M M' → Q (some (0, lstP E A a (flA E A).length 0 5)) M') : Wp l g d 0 0 n m_X3_leastPlace 0 [] [(2, 52), (0, a), (9, 0), (9, 0)] M Q := by
  obtain ⟨hQ, hS, hAB, hLq⟩ := id hJ
  obtain ⟨hR, hA, hW, hLd, hL, hN, hxm, hT⟩ := id hQ
  obtain ⟨hF, hI, hP, hPB⟩ := id hS
  have h120 := hPB.le hN
  have h3 := hF.1
  have h3f : M 52 3 = ((flA E A).length : Int) := hF.1
  have h120f : (flA E A).length ≤ 120 := h120
  refine wp_iconst dX3_leastPlace_0 (by decide) ?_
  refine wp_istore_n (loc' := [(2, 52), (0, a), (0, 5), (9, 0)]) dX3_leastPlace_1 rfl (Nat.le_of_ble_eq_true rfl) rfl ?_
  refine wp_iconst dX3_leastPlace_2 (by decide) ?_
  refine wp_istore_n (loc' := [(2, 52), (0, a), (0, 5), (0, 0)]) dX3_leastPlace_3 rfl (Nat.le_of_ble_eq_true rfl) rfl ?_
  exact lp_leastPlace_2 hn hd a (flA E A).length 0 M 5 Q (by omega) hJ k
set_option maxRecDepth 20000 in
set_option maxHeartbeats 4000000 in
theorem lp_best_16  {l : Launch} {g : Gw} {d n : Nat} (hn : 60 ≤ n) (hd : 4 ≤ d) {A : Ls} {E : Ev} : ∀ (m i b : Nat) (M : Mm) (u4 u5 : Wd) (Q : Option Wd → Mm → Prop), i + m = (flA E A).length → b < (flA E A).length → 1 ≤ i → FJ 16 M A E → (∀ M', FJ 16 M' A E → Fr (fun i _ => i = 56) M M' → Q (some (0, (bstA E A m i b : Int))) M') → Wp l g d 0 0 n m_X3_best 10 [] [(2, 52), (0, (b : Int)), (0, wA E A b), (0, (i : Int)), u4, u5] M Q := by
  intro m
  induction m with
  | zero =>
    intro i b M u4 u5 Q hm hb hi1 hJ k
    obtain ⟨hQ, hS, hAB, hLq⟩ := id hJ
    obtain ⟨hR, hA, hW, hLd, hL, hN, hxm, hT⟩ := id hQ
    obtain ⟨hF, hI, hP, hPB⟩ := id hS
    have h120 := hPB.le hN
    have h3 := hF.1
    have h3f : M 52 3 = ((flA E A).length : Int) := hF.1
    have h120f : (flA E A).length ≤ 120 := h120
    refine wp_iload_n dX3_best_10 rfl rfl ?_
    refine wp_aload_n dX3_best_11 rfl rfl ?_
    refine wp_get 52 rfl fl_RX3_58 rfl ⟨by omega, by omega⟩ dX3_best_12 rfl (v := (M 52 3)) (rfl) ?_
    refine wp_icmp_ge (tgt := 96) dX3_best_15 (by decide) (fun _ => ?_) (fun h => absurd h (by omega))
    refine wp_iload_n dX3_best_96 rfl rfl ?_
    refine wp_iret rfl dX3_best_97 ?_
    exact k M hJ Fr.rf
  | succ m ih =>
    intro i b M u4 u5 Q hm hb hi1 hJ k
    obtain ⟨hQ, hS, hAB, hLq⟩ := id hJ
    obtain ⟨hR, hA, hW, hLd, hL, hN, hxm, hT⟩ := id hQ
    obtain ⟨hF, hI, hP, hPB⟩ := id hS
    have h120 := hPB.le hN
    have h3 := hF.1
    have h3f : M 52 3 = ((flA E A).length : Int) := hF.1
    have h120f : (flA E A).length ≤ 120 := h120
    refine wp_iload_n dX3_best_10 rfl rfl ?_
    refine wp_aload_n dX3_best_11 rfl rfl ?_
    refine wp_get 52 rfl fl_RX3_58 rfl ⟨by omega, by omega⟩ dX3_best_12 rfl (v := (M 52 3)) (rfl) ?_
    refine wp_icmp_ge (tgt := 96) dX3_best_15 (by decide) (fun h => absurd h (by omega)) (fun _ => ?_)
    refine wp_iload_n dX3_best_18 rfl rfl ?_
    refine wp_bipush dX3_best_19 (by decide) (by decide) ?_
    refine wp_icmp_ge (tgt := 96) dX3_best_21 (by decide) (fun h => absurd h (by omega)) (fun _ => ?_)
    refine wp_aload_n dX3_best_24 rfl rfl ?_
    refine wp_iload_n dX3_best_25 rfl rfl ?_
    refine wp_callV0 (d' := d - 1) cv_RX3_117 52 rfl [(0, (i : Int))] [] rfl rfl (Or.inl ⟨_, _, rfl, by decide, rfl, by omega, by omega⟩) (by omega) (Nat.le_of_ble_eq_true rfl) dX3_best_26 rfl (Nat.le_of_ble_eq_true rfl) (by omega) (loc1 := [(2, 52), (0, (i : Int)), (9, 0), (9, 0), (9, 0), (9, 0)]) rfl ?_
    refine sp_waitAt_16 hn (by omega) hJ (i := i) (by omega) (fun M1 hJ1 f1 => ?_)
    have hR1 := hJ1.1.1
    have hF1 := hJ1.2.1.1
    refine wp_istore (loc' := [(2, 52), (0, (b : Int)), (0, (wA E A b)), (0, (i : Int)), (0, (wA E A i)), u5]) dX3_best_29 (Nat.le_of_ble_eq_true rfl) rfl ?_
    refine wp_aload_n dX3_best_31 rfl rfl ?_
    refine wp_get 52 rfl fl_RX3_15 rfl ⟨by omega, by omega⟩ dX3_best_32 rfl (v := 54) (sr_52_2 (M := M1) hR1) ?_
    refine wp_iload_n dX3_best_35 rfl rfl ?_
    refine wp_iald 54 rfl rfl ⟨by omega, by omega⟩ ⟨by omega, by omega⟩ dX3_best_36 (v := (awA E A i)) ((hF1.2 i (by show i < (flA E A).length; omega)).2) ?_
    refine wp_aload_n dX3_best_37 rfl rfl ?_
    refine wp_get 52 rfl fl_RX3_15 rfl ⟨by omega, by omega⟩ dX3_best_38 rfl (v := 54) (sr_52_2 (M := M1) hR1) ?_
    refine wp_iload_n dX3_best_41 rfl rfl ?_
    refine wp_iald 54 rfl rfl ⟨by omega, by omega⟩ ⟨by omega, by omega⟩ dX3_best_42 (v := (awA E A b)) ((hF1.2 b hb).2) ?_
    refine wp_icmp_ne (tgt := 65) dX3_best_43 (by decide) (fun h43 => ?_) (fun h43 => ?_)
    · refine wp_iconst dX3_best_65 (by decide) ?_
      refine wp_istore (loc' := [(2, 52), (0, (b : Int)), (0, (wA E A b)), (0, (i : Int)), (0, (wA E A i)), (0, 0)]) dX3_best_66 (Nat.le_of_ble_eq_true rfl) rfl ?_
      refine wp_iload dX3_best_68 rfl ?_
      refine wp_iload_n dX3_best_70 rfl rfl ?_
      refine wp_icmp_lt (tgt := 85) dX3_best_71 (by decide) (fun h71 => ?_) (fun h71 => ?_)
      · refine wp_iload_n dX3_best_85 rfl rfl ?_
        refine wp_istore_n (loc' := [(2, 52), (0, (i : Int)), (0, (wA E A b)), (0, (i : Int)), (0, (wA E A i)), (0, 0)]) dX3_best_86 rfl (Nat.le_of_ble_eq_true rfl) rfl ?_
        refine wp_iload dX3_best_87 rfl ?_
        refine wp_istore_n (loc' := [(2, 52), (0, (i : Int)), (0, (wA E A i)), (0, (i : Int)), (0, (wA E A i)), (0, 0)]) dX3_best_89 rfl (Nat.le_of_ble_eq_true rfl) rfl ?_
        refine wp_iinc (loc' := [(2, 52), (0, (i : Int)), (0, (wA E A i)), (0, ((i : Int) + 1)), (0, (wA E A i)), (0, 0)]) dX3_best_90 rfl (by omega) rfl ?_
        refine wp_goto (tgt := 10) dX3_best_93 (by decide) ?_
        have e : bstA E A (m + 1) i b = bstA E A m (i + 1) i := by
          show bstA E A m (i + 1) (if _ then _ else _) = _
          rw [if_pos (by omega)]
        rw [e] at k
        exact ih (i + 1) i M1 _ _ Q (by omega) (by omega) (by omega) hJ1 (fun M2 b1 b2 => k M2 b1 (f1.tr b2))
      · refine wp_iload dX3_best_74 rfl ?_
        refine wp_iload_n dX3_best_76 rfl rfl ?_
        refine wp_icmp_ne (tgt := 90) dX3_best_77 (by decide) (fun h77 => ?_) (fun h77 => ?_)
        · refine wp_iinc (loc' := [(2, 52), (0, (b : Int)), (0, (wA E A b)), (0, ((i : Int) + 1)), (0, (wA E A i)), (0, 0)]) dX3_best_90 rfl (by omega) rfl ?_
          refine wp_goto (tgt := 10) dX3_best_93 (by decide) ?_
          have e : bstA E A (m + 1) i b = bstA E A m (i + 1) b := by
            show bstA E A m (i + 1) (if _ then _ else _) = _
            rw [if_neg (by omega)]
          rw [e] at k
          exact ih (i + 1) b M1 _ _ Q (by omega) (by omega) (by omega) hJ1 (fun M2 b1 b2 => k M2 b1 (f1.tr b2))
        · refine wp_iload dX3_best_80 rfl ?_
          refine wp_if_eq (tgt := 90) dX3_best_82 (by decide) (fun _ => ?_) (fun h => absurd h (by decide))
          refine wp_iinc (loc' := [(2, 52), (0, (b : Int)), (0, (wA E A b)), (0, ((i : Int) + 1)), (0, (wA E A i)), (0, 0)]) dX3_best_90 rfl (by omega) rfl ?_
          refine wp_goto (tgt := 10) dX3_best_93 (by decide) ?_
          have e : bstA E A (m + 1) i b = bstA E A m (i + 1) b := by
            show bstA E A m (i + 1) (if _ then _ else _) = _
            rw [if_neg (by omega)]
          rw [e] at k
          exact ih (i + 1) b M1 _ _ Q (by omega) (by omega) (by omega) hJ1 (fun M2 b1 b2 => k M2 b1 (f1.tr b2))
    · refine wp_aload_n dX3_best_46 rfl rfl ?_
      refine wp_get 52 rfl fl_RX3_11 rfl ⟨by omega, by omega⟩ dX3_best_47 rfl (v := 53) (sr_52_1 (M := M1) hR1) ?_
      refine wp_iload_n dX3_best_50 rfl rfl ?_
      refine wp_iald 53 rfl rfl ⟨by omega, by omega⟩ ⟨by omega, by omega⟩ dX3_best_51 (v := (cdA E A i)) ((hF1.2 i (by show i < (flA E A).length; omega)).1) ?_
      refine wp_aload_n dX3_best_52 rfl rfl ?_
      refine wp_get 52 rfl fl_RX3_11 rfl ⟨by omega, by omega⟩ dX3_best_53 rfl (v := 53) (sr_52_1 (M := M1) hR1) ?_
      refine wp_iload_n dX3_best_56 rfl rfl ?_
      refine wp_iald 53 rfl rfl ⟨by omega, by omega⟩ ⟨by omega, by omega⟩ dX3_best_57 (v := (cdA E A b)) ((hF1.2 b hb).1) ?_
      refine wp_icmp_ge (tgt := 65) dX3_best_58 (by decide) (fun h58 => ?_) (fun h58 => ?_)
      · refine wp_iconst dX3_best_65 (by decide) ?_
        refine wp_istore (loc' := [(2, 52), (0, (b : Int)), (0, (wA E A b)), (0, (i : Int)), (0, (wA E A i)), (0, 0)]) dX3_best_66 (Nat.le_of_ble_eq_true rfl) rfl ?_
        refine wp_iload dX3_best_68 rfl ?_
        refine wp_iload_n dX3_best_70 rfl rfl ?_
        refine wp_icmp_lt (tgt := 85) dX3_best_71 (by decide) (fun h71 => ?_) (fun h71 => ?_)
        · refine wp_iload_n dX3_best_85 rfl rfl ?_
          refine wp_istore_n (loc' := [(2, 52), (0, (i : Int)), (0, (wA E A b)), (0, (i : Int)), (0, (wA E A i)), (0, 0)]) dX3_best_86 rfl (Nat.le_of_ble_eq_true rfl) rfl ?_
          refine wp_iload dX3_best_87 rfl ?_
          refine wp_istore_n (loc' := [(2, 52), (0, (i : Int)), (0, (wA E A i)), (0, (i : Int)), (0, (wA E A i)), (0, 0)]) dX3_best_89 rfl (Nat.le_of_ble_eq_true rfl) rfl ?_
          refine wp_iinc (loc' := [(2, 52), (0, (i : Int)), (0, (wA E A i)), (0, ((i : Int) + 1)), (0, (wA E A i)), (0, 0)]) dX3_best_90 rfl (by omega) rfl ?_
          refine wp_goto (tgt := 10) dX3_best_93 (by decide) ?_
          have e : bstA E A (m + 1) i b = bstA E A m (i + 1) i := by
            show bstA E A m (i + 1) (if _ then _ else _) = _
            rw [if_pos (by omega)]
          rw [e] at k
          exact ih (i + 1) i M1 _ _ Q (by omega) (by omega) (by omega) hJ1 (fun M2 b1 b2 => k M2 b1 (f1.tr b2))
        · refine wp_iload dX3_best_74 rfl ?_
          refine wp_iload_n dX3_best_76 rfl rfl ?_
          refine wp_icmp_ne (tgt := 90) dX3_best_77 (by decide) (fun h77 => ?_) (fun h77 => ?_)
          · refine wp_iinc (loc' := [(2, 52), (0, (b : Int)), (0, (wA E A b)), (0, ((i : Int) + 1)), (0, (wA E A i)), (0, 0)]) dX3_best_90 rfl (by omega) rfl ?_
            refine wp_goto (tgt := 10) dX3_best_93 (by decide) ?_
            have e : bstA E A (m + 1) i b = bstA E A m (i + 1) b := by
              show bstA E A m (i + 1) (if _ then _ else _) = _
              rw [if_neg (by omega)]
            rw [e] at k
            exact ih (i + 1) b M1 _ _ Q (by omega) (by omega) (by omega) hJ1 (fun M2 b1 b2 => k M2 b1 (f1.tr b2))
          · refine wp_iload dX3_best_80 rfl ?_
            refine wp_if_eq (tgt := 90) dX3_best_82 (by decide) (fun _ => ?_) (fun h => absurd h (by decide))
            refine wp_iinc (loc' := [(2, 52), (0, (b : Int)), (0, (wA E A b)), (0, ((i : Int) + 1)), (0, (wA E A i)), (0, 0)]) dX3_best_90 rfl (by omega) rfl ?_
            refine wp_goto (tgt := 10) dX3_best_93 (by decide) ?_
            have e : bstA E A (m + 1) i b = bstA E A m (i + 1) b := by
              show bstA E A m (i + 1) (if _ then _ else _) = _
              rw [if_neg (by omega)]
            rw [e] at k
            exact ih (i + 1) b M1 _ _ Q (by omega) (by omega) (by omega) hJ1 (fun M2 b1 b2 => k M2 b1 (f1.tr b2))
      · refine wp_iconst dX3_best_61 (by decide) ?_
        refine wp_goto (tgt := 66) dX3_best_62 (by decide) ?_
        refine wp_istore (loc' := [(2, 52), (0, (b : Int)), (0, (wA E A b)), (0, (i : Int)), (0, (wA E A i)), (0, 1)]) dX3_best_66 (Nat.le_of_ble_eq_true rfl) rfl ?_
        refine wp_iload dX3_best_68 rfl ?_
        refine wp_iload_n dX3_best_70 rfl rfl ?_
        refine wp_icmp_lt (tgt := 85) dX3_best_71 (by decide) (fun h71 => ?_) (fun h71 => ?_)
        · refine wp_iload_n dX3_best_85 rfl rfl ?_
          refine wp_istore_n (loc' := [(2, 52), (0, (i : Int)), (0, (wA E A b)), (0, (i : Int)), (0, (wA E A i)), (0, 1)]) dX3_best_86 rfl (Nat.le_of_ble_eq_true rfl) rfl ?_
          refine wp_iload dX3_best_87 rfl ?_
          refine wp_istore_n (loc' := [(2, 52), (0, (i : Int)), (0, (wA E A i)), (0, (i : Int)), (0, (wA E A i)), (0, 1)]) dX3_best_89 rfl (Nat.le_of_ble_eq_true rfl) rfl ?_
          refine wp_iinc (loc' := [(2, 52), (0, (i : Int)), (0, (wA E A i)), (0, ((i : Int) + 1)), (0, (wA E A i)), (0, 1)]) dX3_best_90 rfl (by omega) rfl ?_
          refine wp_goto (tgt := 10) dX3_best_93 (by decide) ?_
          have e : bstA E A (m + 1) i b = bstA E A m (i + 1) i := by
            show bstA E A m (i + 1) (if _ then _ else _) = _
            rw [if_pos (by omega)]
          rw [e] at k
          exact ih (i + 1) i M1 _ _ Q (by omega) (by omega) (by omega) hJ1 (fun M2 b1 b2 => k M2 b1 (f1.tr b2))
        · refine wp_iload dX3_best_74 rfl ?_
          refine wp_iload_n dX3_best_76 rfl rfl ?_
          refine wp_icmp_ne (tgt := 90) dX3_best_77 (by decide) (fun h77 => ?_) (fun h77 => ?_)
          · refine wp_iinc (loc' := [(2, 52), (0, (b : Int)), (0, (wA E A b)), (0, ((i : Int) + 1)), (0, (wA E A i)), (0, 1)]) dX3_best_90 rfl (by omega) rfl ?_
            refine wp_goto (tgt := 10) dX3_best_93 (by decide) ?_
            have e : bstA E A (m + 1) i b = bstA E A m (i + 1) b := by
              show bstA E A m (i + 1) (if _ then _ else _) = _
              rw [if_neg (by omega)]
            rw [e] at k
            exact ih (i + 1) b M1 _ _ Q (by omega) (by omega) (by omega) hJ1 (fun M2 b1 b2 => k M2 b1 (f1.tr b2))
          · refine wp_iload dX3_best_80 rfl ?_
            refine wp_if_eq (tgt := 90) dX3_best_82 (by decide) (fun h => absurd h (by decide)) (fun _ => ?_)
            refine wp_iload_n dX3_best_85 rfl rfl ?_
            refine wp_istore_n (loc' := [(2, 52), (0, (i : Int)), (0, (wA E A b)), (0, (i : Int)), (0, (wA E A i)), (0, 1)]) dX3_best_86 rfl (Nat.le_of_ble_eq_true rfl) rfl ?_
            refine wp_iload dX3_best_87 rfl ?_
            refine wp_istore_n (loc' := [(2, 52), (0, (i : Int)), (0, (wA E A i)), (0, (i : Int)), (0, (wA E A i)), (0, 1)]) dX3_best_89 rfl (Nat.le_of_ble_eq_true rfl) rfl ?_
            refine wp_iinc (loc' := [(2, 52), (0, (i : Int)), (0, (wA E A i)), (0, ((i : Int) + 1)), (0, (wA E A i)), (0, 1)]) dX3_best_90 rfl (by omega) rfl ?_
            refine wp_goto (tgt := 10) dX3_best_93 (by decide) ?_
            have e : bstA E A (m + 1) i b = bstA E A m (i + 1) i := by
              show bstA E A m (i + 1) (if _ then _ else _) = _
              rw [if_pos (by omega)]
            rw [e] at k
            exact ih (i + 1) i M1 _ _ Q (by omega) (by omega) (by omega) hJ1 (fun M2 b1 b2 => k M2 b1 (f1.tr b2))
set_option maxRecDepth 20000 in
set_option maxHeartbeats 4000000 in
theorem sp_best_16 {l : Launch} {g : Gw} {d n : Nat} {M : Mm} {Q : Option Wd → Mm → Prop} (hn : 60 ≤ n) (hd : 4 ≤ d) {A : Ls} {E : Ev} (hJ : FJ 16 M A E) (hlen : 0 < (flA E A).length) (k : ∀ M', FJ 16 M' A E → Fr (fun i _ => i = 56) M M' → Q (some (0, (bstA E A ((flA E A).length - 1) 1 0 : Int))) M') : Wp l g d 0 0 n m_X3_best 0 [] [(2, 52), (9, 0), (9, 0), (9, 0), (9, 0), (9, 0)] M Q := by
  obtain ⟨hQ, hS, hAB, hLq⟩ := id hJ
  obtain ⟨hR, hA, hW, hLd, hL, hN, hxm, hT⟩ := id hQ
  obtain ⟨hF, hI, hP, hPB⟩ := id hS
  have h120 := hPB.le hN
  have h3 := hF.1
  have h3f : M 52 3 = ((flA E A).length : Int) := hF.1
  have h120f : (flA E A).length ≤ 120 := h120
  refine wp_iconst dX3_best_0 (by decide) ?_
  refine wp_istore_n (loc' := [(2, 52), (0, 0), (9, 0), (9, 0), (9, 0), (9, 0)]) dX3_best_1 rfl (Nat.le_of_ble_eq_true rfl) rfl ?_
  refine wp_aload_n dX3_best_2 rfl rfl ?_
  refine wp_iconst dX3_best_3 (by decide) ?_
  refine wp_callV0 (d' := d - 1) cv_RX3_117 52 rfl [(0, 0)] [] rfl rfl (Or.inl ⟨_, _, rfl, by decide, rfl, by omega, by omega⟩) (by omega) (Nat.le_of_ble_eq_true rfl) dX3_best_4 rfl (Nat.le_of_ble_eq_true rfl) (by omega) (loc1 := [(2, 52), (0, 0), (9, 0), (9, 0), (9, 0), (9, 0)]) rfl ?_
  refine sp_waitAt_16 hn (by omega) hJ (i := 0) hlen (fun M1 hJ1 f1 => ?_)
  have hR1 := hJ1.1.1
  refine wp_istore_n (loc' := [(2, 52), (0, 0), (0, (wA E A 0)), (9, 0), (9, 0), (9, 0)]) dX3_best_7 rfl (Nat.le_of_ble_eq_true rfl) rfl ?_
  refine wp_iconst dX3_best_8 (by decide) ?_
  refine wp_istore_n (loc' := [(2, 52), (0, 0), (0, (wA E A 0)), (0, 1), (9, 0), (9, 0)]) dX3_best_9 rfl (Nat.le_of_ble_eq_true rfl) rfl ?_
  exact lp_best_16 hn hd ((flA E A).length - 1) 1 0 M1 _ _ Q (by omega) hlen (by omega) hJ1 (fun M2 b1 b2 => k M2 b1 (f1.tr b2))
set_option maxRecDepth 20000 in
set_option maxHeartbeats 4000000 in
theorem lp_passingsTo_16  {l : Launch} {g : Gw} {d n : Nat} (hn : 60 ≤ n) (hd : 4 ≤ d) {A : Ls} {E : Ev} (D : Int) : ∀ (m i : Nat) (M : Mm) (Q : Option Wd → Mm → Prop), i + m = (flA E A).length → FJ 16 M A E → (∀ M', FJ 16 M' A E → Fr (fun i _ => i = 56) M M' → Q (some (0, fwA E A D m i)) M') → Wp l g d 0 0 n m_X3_passingsTo 2 [] [(2, 52), (0, D), (0, (i : Int))] M Q := by
  intro m
  induction m with
  | zero =>
    intro i M Q hm hJ k
    obtain ⟨hQ, hS, hAB, hLq⟩ := id hJ
    obtain ⟨hR, hA, hW, hLd, hL, hN, hxm, hT⟩ := id hQ
    obtain ⟨hF, hI, hP, hPB⟩ := id hS
    have h120 := hPB.le hN
    have h3 := hF.1
    have h3f : M 52 3 = ((flA E A).length : Int) := hF.1
    have h120f : (flA E A).length ≤ 120 := h120
    refine wp_iload_n dX3_passingsTo_2 rfl rfl ?_
    refine wp_aload_n dX3_passingsTo_3 rfl rfl ?_
    refine wp_get 52 rfl fl_RX3_58 rfl ⟨by omega, by omega⟩ dX3_passingsTo_4 rfl (v := (M 52 3)) (rfl) ?_
    refine wp_icmp_ge (tgt := 31) dX3_passingsTo_7 (by decide) (fun _ => ?_) (fun h => absurd h (by omega))
    refine wp_iconst dX3_passingsTo_31 (by decide) ?_
    refine wp_iret rfl dX3_passingsTo_32 ?_
    exact k M hJ Fr.rf
  | succ m ih =>
    intro i M Q hm hJ k
    obtain ⟨hQ, hS, hAB, hLq⟩ := id hJ
    obtain ⟨hR, hA, hW, hLd, hL, hN, hxm, hT⟩ := id hQ
    obtain ⟨hF, hI, hP, hPB⟩ := id hS
    have h120 := hPB.le hN
    have h3 := hF.1
    have h3f : M 52 3 = ((flA E A).length : Int) := hF.1
    have h120f : (flA E A).length ≤ 120 := h120
    refine wp_iload_n dX3_passingsTo_2 rfl rfl ?_
    refine wp_aload_n dX3_passingsTo_3 rfl rfl ?_
    refine wp_get 52 rfl fl_RX3_58 rfl ⟨by omega, by omega⟩ dX3_passingsTo_4 rfl (v := (M 52 3)) (rfl) ?_
    refine wp_icmp_ge (tgt := 31) dX3_passingsTo_7 (by decide) (fun h => absurd h (by omega)) (fun _ => ?_)
    refine wp_aload_n dX3_passingsTo_10 rfl rfl ?_
    refine wp_iload_n dX3_passingsTo_11 rfl rfl ?_
    refine wp_callV0 (d' := d - 1) cv_RX3_120 52 rfl [(0, (i : Int))] [] rfl rfl (Or.inl ⟨_, _, rfl, by decide, rfl, by omega, by omega⟩) (by omega) (Nat.le_of_ble_eq_true rfl) dX3_passingsTo_12 rfl (Nat.le_of_ble_eq_true rfl) (by omega) (loc1 := [(2, 52), (0, (i : Int)), (9, 0), (9, 0)]) rfl ?_
    refine sp_digitsAt_16 hn (by omega) hJ (i := i) (by omega) (fun M1 hJ1 f1 => ?_)
    have hR1 := hJ1.1.1
    refine wp_iload_n dX3_passingsTo_15 rfl rfl ?_
    refine wp_icmp_ne (tgt := 25) dX3_passingsTo_16 (by decide) (fun h16 => ?_) (fun h16 => ?_)
    · refine wp_iinc (loc' := [(2, 52), (0, D), (0, ((i : Int) + 1))]) dX3_passingsTo_25 rfl (by omega) rfl ?_
      refine wp_goto (tgt := 2) dX3_passingsTo_28 (by decide) ?_
      have e : fwA E A D (m + 1) i = fwA E A D m (i + 1) := if_neg h16
      rw [e] at k
      exact ih (i + 1) M1 Q (by omega) hJ1 (fun M2 b1 b2 => k M2 b1 (f1.tr b2))
    · refine wp_aload_n dX3_passingsTo_19 rfl rfl ?_
      refine wp_iload_n dX3_passingsTo_20 rfl rfl ?_
      refine wp_callV0 (d' := d - 1) cv_RX3_107 52 rfl [(0, (i : Int))] [] rfl rfl (Or.inl ⟨_, _, rfl, by decide, rfl, by omega, by omega⟩) (by omega) (Nat.le_of_ble_eq_true rfl) dX3_passingsTo_21 rfl (Nat.le_of_ble_eq_true rfl) (by omega) (loc1 := [(2, 52), (0, (i : Int))]) rfl ?_
      refine sp_passingsAt hn hR1 hJ1.2.1.1 h120 (i := i) (by show i < (flA E A).length; omega) ?_
      refine wp_iret rfl dX3_passingsTo_24 ?_
      have e : fwA E A D (m + 1) i = awA E A i := if_pos h16
      rw [e] at k
      exact k M1 hJ1 f1
set_option maxRecDepth 20000 in
set_option maxHeartbeats 4000000 in
theorem sp_passingsTo_16 {l : Launch} {g : Gw} {d n : Nat} {M : Mm} {Q : Option Wd → Mm → Prop} (hn : 60 ≤ n) (hd : 4 ≤ d) {A : Ls} {E : Ev} (hJ : FJ 16 M A E) (D : Int) (k : ∀ M', FJ 16 M' A E → Fr (fun i _ => i = 56) M M' → Q (some (0, fwA E A D (flA E A).length 0)) M') : Wp l g d 0 0 n m_X3_passingsTo 0 [] [(2, 52), (0, D), (9, 0)] M Q := by
  obtain ⟨hQ, hS, hAB, hLq⟩ := id hJ
  obtain ⟨hR, hA, hW, hLd, hL, hN, hxm, hT⟩ := id hQ
  obtain ⟨hF, hI, hP, hPB⟩ := id hS
  have h120 := hPB.le hN
  have h3 := hF.1
  have h3f : M 52 3 = ((flA E A).length : Int) := hF.1
  have h120f : (flA E A).length ≤ 120 := h120
  refine wp_iconst dX3_passingsTo_0 (by decide) ?_
  refine wp_istore_n (loc' := [(2, 52), (0, D), (0, 0)]) dX3_passingsTo_1 rfl (Nat.le_of_ble_eq_true rfl) rfl ?_
  exact lp_passingsTo_16 hn hd D (flA E A).length 0 M Q (by omega) hJ k
set_option maxRecDepth 20000 in
set_option maxHeartbeats 4000000 in
theorem lp_nearest_16  {l : Launch} {g : Gw} {d n : Nat} (hn : 60 ≤ n) (hd : 4 ≤ d) {A : Ls} {E : Ev} (a pl : Int) : ∀ (m i : Nat) (M : Mm) (Q : Option Wd → Mm → Prop), i + m = (flA E A).length → FJ 16 M A E → (∀ M', FJ 16 M' A E → Fr (fun i _ => i = 56) M M' → Q (some (0, nerA E A a pl m i)) M') → Wp l g d 0 0 n m_X3_nearest 2 [] [(2, 52), (0, a), (0, pl), (0, (i : Int))] M Q := by
  intro m
  induction m with
  | zero =>
    intro i M Q hm hJ k
    obtain ⟨hQ, hS, hAB, hLq⟩ := id hJ
    obtain ⟨hR, hA, hW, hLd, hL, hN, hxm, hT⟩ := id hQ
    obtain ⟨hF, hI, hP, hPB⟩ := id hS
    have h120 := hPB.le hN
    have h3 := hF.1
    have h3f : M 52 3 = ((flA E A).length : Int) := hF.1
    have h120f : (flA E A).length ≤ 120 := h120
    refine wp_iload_n dX3_nearest_2 rfl rfl ?_
    refine wp_aload_n dX3_nearest_3 rfl rfl ?_
    refine wp_get 52 rfl fl_RX3_58 rfl ⟨by omega, by omega⟩ dX3_nearest_4 rfl (v := (M 52 3)) (rfl) ?_
    refine wp_icmp_ge (tgt := 32) dX3_nearest_7 (by decide) (fun _ => ?_) (fun h => absurd h (by omega))
    refine wp_iconst dX3_nearest_32 (by decide) ?_
    refine wp_iret rfl dX3_nearest_33 ?_
    exact k M hJ Fr.rf
  | succ m ih =>
    intro i M Q hm hJ k
    obtain ⟨hQ, hS, hAB, hLq⟩ := id hJ
    obtain ⟨hR, hA, hW, hLd, hL, hN, hxm, hT⟩ := id hQ
    obtain ⟨hF, hI, hP, hPB⟩ := id hS
    have h120 := hPB.le hN
    have h3 := hF.1
    have h3f : M 52 3 = ((flA E A).length : Int) := hF.1
    have h120f : (flA E A).length ≤ 120 := h120
    refine wp_iload_n dX3_nearest_2 rfl rfl ?_
    refine wp_aload_n dX3_nearest_3 rfl rfl ?_
    refine wp_get 52 rfl fl_RX3_58 rfl ⟨by omega, by omega⟩ dX3_nearest_4 rfl (v := (M 52 3)) (rfl) ?_
    refine wp_icmp_ge (tgt := 32) dX3_nearest_7 (by decide) (fun h => absurd h (by omega)) (fun _ => ?_)
    refine wp_aload_n dX3_nearest_10 rfl rfl ?_
    refine wp_iload_n dX3_nearest_11 rfl rfl ?_
    refine wp_iload_n dX3_nearest_12 rfl rfl ?_
    refine wp_callV0 (d' := d - 1) cv_RX3_123 52 rfl [(0, (i : Int)), (0, a)] [] rfl rfl (Or.inl ⟨_, _, rfl, by decide, rfl, by omega, by omega⟩) (by omega) (Nat.le_of_ble_eq_true rfl) dX3_nearest_13 rfl (Nat.le_of_ble_eq_true rfl) (by omega) (loc1 := [(2, 52), (0, (i : Int)), (0, a), (9, 0)]) rfl ?_
    refine sp_placeAt_16 hn (by omega) hJ (i := i) (by omega) a (fun M1 hJ1 f1 => ?_)
    have hR1 := hJ1.1.1
    refine wp_iload_n dX3_nearest_16 rfl rfl ?_
    refine wp_icmp_ne (tgt := 26) dX3_nearest_17 (by decide) (fun h17 => ?_) (fun h17 => ?_)
    · refine wp_iinc (loc' := [(2, 52), (0, a), (0, pl), (0, ((i : Int) + 1))]) dX3_nearest_26 rfl (by omega) rfl ?_
      refine wp_goto (tgt := 2) dX3_nearest_29 (by decide) ?_
      have e : nerA E A a pl (m + 1) i = nerA E A a pl m (i + 1) := if_neg h17
      rw [e] at k
      exact ih (i + 1) M1 Q (by omega) hJ1 (fun M2 b1 b2 => k M2 b1 (f1.tr b2))
    · refine wp_aload_n dX3_nearest_20 rfl rfl ?_
      refine wp_iload_n dX3_nearest_21 rfl rfl ?_
      refine wp_callV0 (d' := d - 1) cv_RX3_107 52 rfl [(0, (i : Int))] [] rfl rfl (Or.inl ⟨_, _, rfl, by decide, rfl, by omega, by omega⟩) (by omega) (Nat.le_of_ble_eq_true rfl) dX3_nearest_22 rfl (Nat.le_of_ble_eq_true rfl) (by omega) (loc1 := [(2, 52), (0, (i : Int))]) rfl ?_
      refine sp_passingsAt hn hR1 hJ1.2.1.1 h120 (i := i) (by show i < (flA E A).length; omega) ?_
      refine wp_iret rfl dX3_nearest_25 ?_
      have e : nerA E A a pl (m + 1) i = awA E A i := if_pos h17
      rw [e] at k
      exact k M1 hJ1 f1
set_option maxRecDepth 20000 in
set_option maxHeartbeats 4000000 in
theorem sp_nearest_16 {l : Launch} {g : Gw} {d n : Nat} {M : Mm} {Q : Option Wd → Mm → Prop} (hn : 60 ≤ n) (hd : 4 ≤ d) {A : Ls} {E : Ev} (hJ : FJ 16 M A E) (a pl : Int) (k : ∀ M', FJ 16 M' A E → Fr (fun i _ => i = 56) M M' → Q (some (0, nerA E A a pl (flA E A).length 0)) M') : Wp l g d 0 0 n m_X3_nearest 0 [] [(2, 52), (0, a), (0, pl), (9, 0)] M Q := by
  obtain ⟨hQ, hS, hAB, hLq⟩ := id hJ
  obtain ⟨hR, hA, hW, hLd, hL, hN, hxm, hT⟩ := id hQ
  obtain ⟨hF, hI, hP, hPB⟩ := id hS
  have h120 := hPB.le hN
  have h3 := hF.1
  have h3f : M 52 3 = ((flA E A).length : Int) := hF.1
  have h120f : (flA E A).length ≤ 120 := h120
  refine wp_iconst dX3_nearest_0 (by decide) ?_
  refine wp_istore_n (loc' := [(2, 52), (0, a), (0, pl), (0, 0)]) dX3_nearest_1 rfl (Nat.le_of_ble_eq_true rfl) rfl ?_
  exact lp_nearest_16 hn hd a pl (flA E A).length 0 M Q (by omega) hJ k
set_option maxRecDepth 20000 in
set_option maxHeartbeats 4000000 in
theorem lp_leastPlace_16  {l : Launch} {g : Gw} {d n : Nat} (hn : 60 ≤ n) (hd : 4 ≤ d) {A : Ls} {E : Ev} (a : Int) : ∀ (m i : Nat) (M : Mm) (c : Int) (Q : Option Wd → Mm → Prop), i + m = (flA E A).length → FJ 16 M A E → (∀ M', FJ 16 M' A E → Fr (fun i _ => i = 56) M M' → Q (some (0, lstP E A a m i c)) M') → Wp l g d 0 0 n m_X3_leastPlace 4 [] [(2, 52), (0, a), (0, c), (0, (i : Int))] M Q := by
  intro m
  induction m with
  | zero =>
    intro i M c Q hm hJ k
    obtain ⟨hQ, hS, hAB, hLq⟩ := id hJ
    obtain ⟨hR, hA, hW, hLd, hL, hN, hxm, hT⟩ := id hQ
    obtain ⟨hF, hI, hP, hPB⟩ := id hS
    have h120 := hPB.le hN
    have h3 := hF.1
    have h3f : M 52 3 = ((flA E A).length : Int) := hF.1
    have h120f : (flA E A).length ≤ 120 := h120
    refine wp_iload_n dX3_leastPlace_4 rfl rfl ?_
    refine wp_aload_n dX3_leastPlace_5 rfl rfl ?_
    refine wp_get 52 rfl fl_RX3_58 rfl ⟨by omega, by omega⟩ dX3_leastPlace_6 rfl (v := (M 52 3)) (rfl) ?_
    refine wp_icmp_ge (tgt := 29) dX3_leastPlace_9 (by decide) (fun _ => ?_) (fun h => absurd h (by omega))
    refine wp_iload_n dX3_leastPlace_29 rfl rfl ?_
    refine wp_iret rfl dX3_leastPlace_30 ?_
    exact k M hJ Fr.rf
  | succ m ih =>
    intro i M c Q hm hJ k
    obtain ⟨hQ, hS, hAB, hLq⟩ := id hJ
    obtain ⟨hR, hA, hW, hLd, hL, hN, hxm, hT⟩ := id hQ
    obtain ⟨hF, hI, hP, hPB⟩ := id hS
    have h120 := hPB.le hN
    have h3 := hF.1
    have h3f : M 52 3 = ((flA E A).length : Int) := hF.1
    have h120f : (flA E A).length ≤ 120 := h120
    refine wp_iload_n dX3_leastPlace_4 rfl rfl ?_
    refine wp_aload_n dX3_leastPlace_5 rfl rfl ?_
    refine wp_get 52 rfl fl_RX3_58 rfl ⟨by omega, by omega⟩ dX3_leastPlace_6 rfl (v := (M 52 3)) (rfl) ?_
    refine wp_icmp_ge (tgt := 29) dX3_leastPlace_9 (by decide) (fun h => absurd h (by omega)) (fun _ => ?_)
    refine wp_iload_n dX3_leastPlace_12 rfl rfl ?_
    refine wp_aload_n dX3_leastPlace_13 rfl rfl ?_
    refine wp_iload_n dX3_leastPlace_14 rfl rfl ?_
    refine wp_iload_n dX3_leastPlace_15 rfl rfl ?_
    refine wp_callV0 (d' := d - 1) cv_RX3_123 52 rfl [(0, (i : Int)), (0, a)] [(0, c)] rfl rfl (Or.inl ⟨_, _, rfl, by decide, rfl, by omega, by omega⟩) (by omega) (Nat.le_of_ble_eq_true rfl) dX3_leastPlace_16 rfl (Nat.le_of_ble_eq_true rfl) (by omega) (loc1 := [(2, 52), (0, (i : Int)), (0, a), (9, 0)]) rfl ?_
    refine sp_placeAt_16 hn (by omega) hJ (i := i) (by omega) a (fun M1 hJ1 f1 => ?_)
    have hR1 := hJ1.1.1
    refine wp_mmin mm_RX3_48 mms_min ini_RJ9 mmc_min (Nat.le_of_ble_eq_true rfl) (by omega) rfl dX3_leastPlace_19 ?_
    refine wp_istore_n (loc' := [(2, 52), (0, a), (0, (if (plA2 E A a i) < c then (plA2 E A a i) else c)), (0, (i : Int))]) dX3_leastPlace_22 rfl (Nat.le_of_ble_eq_true rfl) rfl ?_
    refine wp_iinc (loc' := [(2, 52), (0, a), (0, (if (plA2 E A a i) < c then (plA2 E A a i) else c)), (0, ((i : Int) + 1))]) dX3_leastPlace_23 rfl (by omega) rfl ?_
    refine wp_goto (tgt := 4) dX3_leastPlace_26 (by decide) ?_
    exact ih (i + 1) M1 _ Q (by omega) hJ1 (fun M2 b1 b2 => k M2 b1 (f1.tr b2))
set_option maxRecDepth 20000 in
set_option maxHeartbeats 4000000 in
theorem sp_leastPlace_16 {l : Launch} {g : Gw} {d n : Nat} {M : Mm} {Q : Option Wd → Mm → Prop} (hn : 60 ≤ n) (hd : 4 ≤ d) {A : Ls} {E : Ev} (hJ : FJ 16 M A E) (a : Int) (k : ∀ M', FJ 16 M' A E → Fr (fun i _ => i = 56) M M' → Q (some (0, lstP E A a (flA E A).length 0 5)) M') : Wp l g d 0 0 n m_X3_leastPlace 0 [] [(2, 52), (0, a), (9, 0), (9, 0)] M Q := by
  obtain ⟨hQ, hS, hAB, hLq⟩ := id hJ
  obtain ⟨hR, hA, hW, hLd, hL, hN, hxm, hT⟩ := id hQ
  obtain ⟨hF, hI, hP, hPB⟩ := id hS
  have h120 := hPB.le hN
  have h3 := hF.1
  have h3f : M 52 3 = ((flA E A).length : Int) := hF.1
  have h120f : (flA E A).length ≤ 120 := h120
  refine wp_iconst dX3_leastPlace_0 (by decide) ?_
  refine wp_istore_n (loc' := [(2, 52), (0, a), (0, 5), (9, 0)]) dX3_leastPlace_1 rfl (Nat.le_of_ble_eq_true rfl) rfl ?_
  refine wp_iconst dX3_leastPlace_2 (by decide) ?_
  refine wp_istore_n (loc' := [(2, 52), (0, a), (0, 5), (0, 0)]) dX3_leastPlace_3 rfl (Nat.le_of_ble_eq_true rfl) rfl ?_
  exact lp_leastPlace_16 hn hd a (flA E A).length 0 M 5 Q (by omega) hJ k
