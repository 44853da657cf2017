/-! ===== Text: what it is worth ===== -/
def jn (c l r : Int) : Int := if c = -7 then (if l = 0 ∧ r = 0 then 0 else 1) else if c = -8 then (if l = 0 ∨ r = 0 then 0 else 1) else if c = -10 then (if l < r then 1 else 0) else if c = -11 then (if l = r then 1 else 0) else if c = -12 then wrap (l + r) else if c = -13 then wrap (l - r) else wrap (l * r)
def sgn (c : Int) (s : List Int) : List Int := if c = -9 then (if s.headD 0 = 0 then 1 else 0) :: s.tail else if c = -15 then wrap (-(s.headD 0)) :: s.tail else jn c (s.tail.headD 0) (s.headD 0) :: s.tail.tail
def stp (env : Int → Int) (c : Int) (s : List Int) : List Int := if 0 ≤ c then c :: s else if -6 ≤ c then env c :: s else sgn c s
def run (f : Nat → Int) (env : Int → Int) : Nat → Nat → List Int → List Int
  | 0, _, s => s
  | n + 1, p, s => run f env n (p + 1) (stp env (f p) s)
theorem sgn_len (c : Int) (s : List Int) : (sgn c s).length ≤ s.length + 1 := by
  unfold sgn
  split
  · simp only [List.length_cons, List.length_tail]; omega
  · split
    · simp only [List.length_cons, List.length_tail]; omega
    · simp only [List.length_cons, List.length_tail]; omega
theorem stp_len (env : Int → Int) (c : Int) (s : List Int) : (stp env c s).length ≤ s.length + 1 := by
  unfold stp
  split
  · simp
  · split
    · simp
    · exact sgn_len c s
/-- what a name says, of a land as it is kept -/
def nmv (M : Mm) (L : Nat) (w : Bool) (x y c : Int) : Int := if c = -1 then (if w = true then bnd (shr (M (L + 3) x.toNat) y) 1 else lkr (M (L + 3)) x (M L 2).toNat) else if c = -2 then M (L + 2) x.toNat else if c = -3 then (if w = true then M (L + 2) y.toNat else 0) else if c = -4 then M L 0 else if c = -5 then (if w = true then M (L + 4) y.toNat else M (L + 4) x.toNat) else M (L + 5) x.toNat
set_option maxRecDepth 20000 in
set_option maxHeartbeats 4000000 in
theorem sp_joined {l : Launch} {g : Gw} {d n : Nat} {M : Mm} {Q : Option Wd → Mm → Prop} (c x y : Int) (k : Q (some (0, jn c x y)) M) : Wp l g d 0 0 n m_X5_joined 0 [] [(0, c), (0, x), (0, y)] M Q := by
  refine wp_iload_n dX5_joined_0 rfl rfl ?_
  by_cases h1_0 : c = (-13)
  · refine wp_tabIn dX5_joined_1 0 (by omega) (by decide) rfl (tgt := 98) (by decide) ?_
    refine wp_iload_n dX5_joined_98 rfl rfl ?_
    refine wp_iload_n dX5_joined_99 rfl rfl ?_
    refine wp_isubw dX5_joined_100 ?_
    refine wp_iret rfl dX5_joined_101 ?_
    have e : jn c x y = (wrap (x - y)) := by
      unfold jn
      (repeat' split) <;> first | rfl | omega
    rw [e] at k
    exact k
  by_cases h1_1 : c = (-12)
  · refine wp_tabIn dX5_joined_1 1 (by omega) (by decide) rfl (tgt := 94) (by decide) ?_
    refine wp_iload_n dX5_joined_94 rfl rfl ?_
    refine wp_iload_n dX5_joined_95 rfl rfl ?_
    refine wp_iaddw dX5_joined_96 ?_
    refine wp_iret rfl dX5_joined_97 ?_
    have e : jn c x y = (wrap (x + y)) := by
      unfold jn
      (repeat' split) <;> first | rfl | omega
    rw [e] at k
    exact k
  by_cases h1_2 : c = (-11)
  · refine wp_tabIn dX5_joined_1 2 (by omega) (by decide) rfl (tgt := 83) (by decide) ?_
    refine wp_iload_n dX5_joined_83 rfl rfl ?_
    refine wp_iload_n dX5_joined_84 rfl rfl ?_
    refine wp_icmp_ne (tgt := 92) dX5_joined_85 (by decide) (fun h85 => ?_) (fun h85 => ?_)
    · refine wp_iconst dX5_joined_92 (by decide) ?_
      refine wp_iret rfl dX5_joined_93 ?_
      have e : jn c x y = 0 := by
        unfold jn
        (repeat' split) <;> first | rfl | omega
      rw [e] at k
      exact k
    · refine wp_iconst dX5_joined_88 (by decide) ?_
      refine wp_goto (tgt := 93) dX5_joined_89 (by decide) ?_
      refine wp_iret rfl dX5_joined_93 ?_
      have e : jn c x y = 1 := by
        unfold jn
        (repeat' split) <;> first | rfl | omega
      rw [e] at k
      exact k
  by_cases h1_3 : c = (-10)
  · refine wp_tabIn dX5_joined_1 3 (by omega) (by decide) rfl (tgt := 72) (by decide) ?_
    refine wp_iload_n dX5_joined_72 rfl rfl ?_
    refine wp_iload_n dX5_joined_73 rfl rfl ?_
    refine wp_icmp_ge (tgt := 81) dX5_joined_74 (by decide) (fun h74 => ?_) (fun h74 => ?_)
    · refine wp_iconst dX5_joined_81 (by decide) ?_
      refine wp_iret rfl dX5_joined_82 ?_
      have e : jn c x y = 0 := by
        unfold jn
        (repeat' split) <;> first | rfl | omega
      rw [e] at k
      exact k
    · refine wp_iconst dX5_joined_77 (by decide) ?_
      refine wp_goto (tgt := 82) dX5_joined_78 (by decide) ?_
      refine wp_iret rfl dX5_joined_82 ?_
      have e : jn c x y = 1 := by
        unfold jn
        (repeat' split) <;> first | rfl | omega
      rw [e] at k
      exact k
  by_cases h1_4 : c = (-9)
  · refine wp_tabIn dX5_joined_1 4 (by omega) (by decide) rfl (tgt := 102) (by decide) ?_
    refine wp_iload_n dX5_joined_102 rfl rfl ?_
    refine wp_iload_n dX5_joined_103 rfl rfl ?_
    refine wp_imulw dX5_joined_104 ?_
    refine wp_iret rfl dX5_joined_105 ?_
    have e : jn c x y = (wrap (x * y)) := by
      unfold jn
      (repeat' split) <;> first | rfl | omega
    rw [e] at k
    exact k
  by_cases h1_5 : c = (-8)
  · refine wp_tabIn dX5_joined_1 5 (by omega) (by decide) rfl (tgt := 58) (by decide) ?_
    refine wp_iload_n dX5_joined_58 rfl rfl ?_
    refine wp_if_eq (tgt := 70) dX5_joined_59 (by decide) (fun h59 => ?_) (fun h59 => ?_)
    · refine wp_iconst dX5_joined_70 (by decide) ?_
      refine wp_iret rfl dX5_joined_71 ?_
      have e : jn c x y = 0 := by
        unfold jn
        (repeat' split) <;> first | rfl | omega
      rw [e] at k
      exact k
    · refine wp_iload_n dX5_joined_62 rfl rfl ?_
      refine wp_if_eq (tgt := 70) dX5_joined_63 (by decide) (fun h63 => ?_) (fun h63 => ?_)
      · refine wp_iconst dX5_joined_70 (by decide) ?_
        refine wp_iret rfl dX5_joined_71 ?_
        have e : jn c x y = 0 := by
          unfold jn
          (repeat' split) <;> first | rfl | omega
        rw [e] at k
        exact k
      · refine wp_iconst dX5_joined_66 (by decide) ?_
        refine wp_goto (tgt := 71) dX5_joined_67 (by decide) ?_
        refine wp_iret rfl dX5_joined_71 ?_
        have e : jn c x y = 1 := by
          unfold jn
          (repeat' split) <;> first | rfl | omega
        rw [e] at k
        exact k
  by_cases h1_6 : c = (-7)
  · refine wp_tabIn dX5_joined_1 6 (by omega) (by decide) rfl (tgt := 44) (by decide) ?_
    refine wp_iload_n dX5_joined_44 rfl rfl ?_
    refine wp_if_ne (tgt := 52) dX5_joined_45 (by decide) (fun h45 => ?_) (fun h45 => ?_)
    · refine wp_iconst dX5_joined_52 (by decide) ?_
      refine wp_goto (tgt := 57) dX5_joined_53 (by decide) ?_
      refine wp_iret rfl dX5_joined_57 ?_
      have e : jn c x y = 1 := by
        unfold jn
        (repeat' split) <;> first | rfl | omega
      rw [e] at k
      exact k
    · refine wp_iload_n dX5_joined_48 rfl rfl ?_
      refine wp_if_eq (tgt := 56) dX5_joined_49 (by decide) (fun h49 => ?_) (fun h49 => ?_)
      · refine wp_iconst dX5_joined_56 (by decide) ?_
        refine wp_iret rfl dX5_joined_57 ?_
        have e : jn c x y = 0 := by
          unfold jn
          (repeat' split) <;> first | rfl | omega
        rw [e] at k
        exact k
      · refine wp_iconst dX5_joined_52 (by decide) ?_
        refine wp_goto (tgt := 57) dX5_joined_53 (by decide) ?_
        refine wp_iret rfl dX5_joined_57 ?_
        have e : jn c x y = 1 := by
          unfold jn
          (repeat' split) <;> first | rfl | omega
        rw [e] at k
        exact k
  refine wp_tabOut dX5_joined_1 (by omega) (tgt := 102) (by decide) ?_
  refine wp_iload_n dX5_joined_102 rfl rfl ?_
  refine wp_iload_n dX5_joined_103 rfl rfl ?_
  refine wp_imulw dX5_joined_104 ?_
  refine wp_iret rfl dX5_joined_105 ?_
  have e : jn c x y = (wrap (x * y)) := by
    unfold jn
    (repeat' split) <;> first | rfl | omega
  rw [e] at k
  exact k
set_option maxRecDepth 20000 in
set_option maxHeartbeats 4000000 in
theorem sp_work {l : Launch} {g : Gw} {d n : Nat} {M : Mm} {Q : Option Wd → Mm → Prop} {T : Nat} (hT : isT T) (hn : 60 ≤ n) (hR : SR M) (hd : 1 ≤ d) {s : List Int} (hS : Stk M T s) (hl : s.length < 160) (c : Int) (k : ∀ M', Stk M' T (sgn c s) → Fr (VT T) M M' → SR M' → Q none M') : Wp l g d 0 0 n m_X5_work 0 [] [(2, (T : Int)), (0, c), (9, 0)] M Q := by
  have hb := hT.b
  refine wp_aload_n dX5_work_0 rfl rfl ?_
  refine wp_callV0 (d' := d - 1) cv_RX5_45 T rfl [] [] rfl rfl (Or.inl ⟨_, _, hT.k0, by decide, rfl, by omega, by omega⟩) (by omega) (Nat.le_of_ble_eq_true rfl) dX5_work_1 rfl (Nat.le_of_ble_eq_true rfl) (by omega) (loc1 := [(2, (T : Int))]) rfl ?_
  refine sp_pull hT hn hR hS (by first | omega | (simp only [List.length_tail]; omega)) (fun M1 hS1 hF1 hR1 => ?_)
  refine wp_istore_n (loc' := [(2, (T : Int)), (0, c), (0, ((s).headD 0))]) dX5_work_4 rfl (Nat.le_of_ble_eq_true rfl) rfl ?_
  refine wp_iload_n dX5_work_5 rfl rfl ?_
  refine wp_bipush dX5_work_6 (by decide) (by decide) ?_
  refine wp_icmp_ne (tgt := 27) dX5_work_8 (by decide) (fun h8 => ?_) (fun h8 => ?_)
  · refine wp_iload_n dX5_work_27 rfl rfl ?_
    refine wp_bipush dX5_work_28 (by decide) (by decide) ?_
    refine wp_icmp_ne (tgt := 42) dX5_work_30 (by decide) (fun h30 => ?_) (fun h30 => ?_)
    · refine wp_aload_n dX5_work_42 rfl rfl ?_
      refine wp_iload_n dX5_work_43 rfl rfl ?_
      refine wp_aload_n dX5_work_44 rfl rfl ?_
      refine wp_callV0 (d' := d - 1) cv_RX5_45 T rfl [] [(0, c), (2, (T : Int))] rfl rfl (Or.inl ⟨_, _, hT.k0, by decide, rfl, by omega, by omega⟩) (by omega) (Nat.le_of_ble_eq_true rfl) dX5_work_45 rfl (Nat.le_of_ble_eq_true rfl) (by omega) (loc1 := [(2, (T : Int))]) rfl ?_
      refine sp_pull hT hn hR1 hS1 (by first | omega | (simp only [List.length_tail]; omega)) (fun M45 hS45 hF45 hR45 => ?_)
      refine wp_iload_n dX5_work_48 rfl rfl ?_
      refine wp_callS0 (d' := d - 1) cs_RX5_49 [(0, c), (0, (((s).tail).headD 0)), (0, ((s).headD 0))] [(2, (T : Int))] rfl rfl (Nat.le_of_ble_eq_true rfl) dX5_work_49 rfl (Nat.le_of_ble_eq_true rfl) (by omega) (loc1 := [(0, c), (0, (((s).tail).headD 0)), (0, ((s).headD 0))]) rfl ?_
      refine sp_joined _ _ _ ?_
      refine wp_callV0 (d' := d - 1) cv_RX5_34 T rfl [(0, (jn c (((s).tail).headD 0) ((s).headD 0)))] [] rfl rfl (Or.inl ⟨_, _, hT.k0, by decide, rfl, by omega, by omega⟩) (by omega) (Nat.le_of_ble_eq_true rfl) dX5_work_52 rfl (Nat.le_of_ble_eq_true rfl) (by omega) (loc1 := [(2, (T : Int)), (0, (jn c (((s).tail).headD 0) ((s).headD 0)))]) rfl ?_
      refine sp_push hT hn hR45 hS45 (by first | omega | (simp only [List.length_tail]; omega)) (jn c (((s).tail).headD 0) ((s).headD 0)) (fun M52 hS52 hF52 hR52 => ?_)
      refine wp_vret rfl dX5_work_55 ?_
      have e : sgn c s = ((jn c (((s).tail).headD 0) ((s).headD 0)) :: ((s).tail).tail) := by
        unfold sgn
        (repeat' split) <;> first | rfl | omega
      exact k _ (e ▸ hS52) (((hF1).tr hF45).tr hF52) hR52
    · refine wp_aload_n dX5_work_33 rfl rfl ?_
      refine wp_iload_n dX5_work_34 rfl rfl ?_
      refine wp_ineg dX5_work_35 ?_
      refine wp_callV0 (d' := d - 1) cv_RX5_34 T rfl [(0, (wrap (-((s).headD 0))))] [] rfl rfl (Or.inl ⟨_, _, hT.k0, by decide, rfl, by omega, by omega⟩) (by omega) (Nat.le_of_ble_eq_true rfl) dX5_work_36 rfl (Nat.le_of_ble_eq_true rfl) (by omega) (loc1 := [(2, (T : Int)), (0, (wrap (-((s).headD 0))))]) rfl ?_
      refine sp_push hT hn hR1 hS1 (by first | omega | (simp only [List.length_tail]; omega)) (wrap (-((s).headD 0))) (fun M36 hS36 hF36 hR36 => ?_)
      refine wp_goto (tgt := 55) dX5_work_39 (by decide) ?_
      refine wp_vret rfl dX5_work_55 ?_
      have e : sgn c s = ((wrap (-((s).headD 0))) :: (s).tail) := by
        unfold sgn
        (repeat' split) <;> first | rfl | omega
      exact k _ (e ▸ hS36) ((hF1).tr hF36) hR36
  · refine wp_aload_n dX5_work_11 rfl rfl ?_
    refine wp_iload_n dX5_work_12 rfl rfl ?_
    refine wp_if_ne (tgt := 20) dX5_work_13 (by decide) (fun h13 => ?_) (fun h13 => ?_)
    · refine wp_iconst dX5_work_20 (by decide) ?_
      refine wp_callV0 (d' := d - 1) cv_RX5_34 T rfl [(0, 0)] [] rfl rfl (Or.inl ⟨_, _, hT.k0, by decide, rfl, by omega, by omega⟩) (by omega) (Nat.le_of_ble_eq_true rfl) dX5_work_21 rfl (Nat.le_of_ble_eq_true rfl) (by omega) (loc1 := [(2, (T : Int)), (0, 0)]) rfl ?_
      refine sp_push hT hn hR1 hS1 (by first | omega | (simp only [List.length_tail]; omega)) 0 (fun M21 hS21 hF21 hR21 => ?_)
      refine wp_goto (tgt := 55) dX5_work_24 (by decide) ?_
      refine wp_vret rfl dX5_work_55 ?_
      have e : sgn c s = (0 :: (s).tail) := by
        unfold sgn
        (repeat' split) <;> first | rfl | omega
      exact k _ (e ▸ hS21) ((hF1).tr hF21) hR21
    · refine wp_iconst dX5_work_16 (by decide) ?_
      refine wp_goto (tgt := 21) dX5_work_17 (by decide) ?_
      refine wp_callV0 (d' := d - 1) cv_RX5_34 T rfl [(0, 1)] [] rfl rfl (Or.inl ⟨_, _, hT.k0, by decide, rfl, by omega, by omega⟩) (by omega) (Nat.le_of_ble_eq_true rfl) dX5_work_21 rfl (Nat.le_of_ble_eq_true rfl) (by omega) (loc1 := [(2, (T : Int)), (0, 1)]) rfl ?_
      refine sp_push hT hn hR1 hS1 (by first | omega | (simp only [List.length_tail]; omega)) 1 (fun M21 hS21 hF21 hR21 => ?_)
      refine wp_goto (tgt := 55) dX5_work_24 (by decide) ?_
      refine wp_vret rfl dX5_work_55 ?_
      have e : sgn c s = (1 :: (s).tail) := by
        unfold sgn
        (repeat' split) <;> first | rfl | omega
      exact k _ (e ▸ hS21) ((hF1).tr hF21) hR21
set_option maxRecDepth 20000 in
set_option maxHeartbeats 4000000 in
theorem sp_nameWorth_2_1 {l : Launch} {g : Gw} {d n : Nat} {M : Mm} {Q : Option Wd → Mm → Prop} (hn : 60 ≤ n) (hd : 1 ≤ d) (hR : SR M) (c x y : Int) (hx : 0 ≤ x ∧ x < M 2 2 ∧ x < 5) (hy : 0 ≤ y ∧ y < M 2 2 ∧ y < 5) (h5 : M 2 2 ≤ 5) (k : Q (some (0, nmv M 2 true x y c)) M) : Wp l g d 0 0 n m_X5_nameWorth 0 [] [(0, c), (0, 1), (2, 2), (0, x), (0, y)] M Q := by
  refine wp_iload_n dX5_nameWorth_0 rfl rfl ?_
  by_cases h1_0 : c = (-5)
  · refine wp_tabIn dX5_nameWorth_1 0 (by omega) (by decide) rfl (tgt := 90) (by decide) ?_
    refine wp_aload_n dX5_nameWorth_90 rfl rfl ?_
    refine wp_aload_n dX5_nameWorth_91 rfl rfl ?_
    refine wp_get 2 rfl fl_RX5_72 rfl ⟨by omega, by omega⟩ dX5_nameWorth_92 rfl (v := 6) (sr_2_7 (M := M) hR) ?_
    refine wp_iload_n dX5_nameWorth_95 rfl rfl ?_
    refine wp_if_eq (tgt := 104) dX5_nameWorth_96 (by decide) (fun h => absurd h (by decide)) (fun _ => ?_)
    refine wp_iload dX5_nameWorth_99 rfl ?_
    refine wp_goto (tgt := 105) dX5_nameWorth_101 (by decide) ?_
    refine wp_callV0 (d' := d - 1) cv_RX5_65 2 rfl [(2, 6), (0, y)] [] rfl rfl (Or.inl ⟨_, _, rfl, by decide, rfl, by omega, by omega⟩) (by omega) (Nat.le_of_ble_eq_true rfl) dX5_nameWorth_105 rfl (Nat.le_of_ble_eq_true rfl) (by omega) (loc1 := [(2, 2), (2, 6), (0, y)]) rfl ?_
    refine sp_of_gifts_2 hn hR y hy ?_
    refine wp_iret rfl dX5_nameWorth_108 ?_
    have e : nmv M 2 true x y c = (M 6 y.toNat) := by
      unfold nmv
      (repeat' split) <;> first | rfl | omega | contradiction
    rw [e] at k
    exact k
  by_cases h1_1 : c = (-4)
  · refine wp_tabIn dX5_nameWorth_1 1 (by omega) (by decide) rfl (tgt := 85) (by decide) ?_
    refine wp_aload_n dX5_nameWorth_85 rfl rfl ?_
    refine wp_get 2 rfl fl_RX5_69 rfl ⟨by omega, by omega⟩ dX5_nameWorth_86 rfl (v := (M 2 0)) (rfl) ?_
    refine wp_iret rfl dX5_nameWorth_89 ?_
    have e : nmv M 2 true x y c = (M 2 0) := by
      unfold nmv
      (repeat' split) <;> first | rfl | omega | contradiction
    rw [e] at k
    exact k
  by_cases h1_2 : c = (-3)
  · refine wp_tabIn dX5_nameWorth_1 2 (by omega) (by decide) rfl (tgt := 66) (by decide) ?_
    refine wp_iload_n dX5_nameWorth_66 rfl rfl ?_
    refine wp_if_eq (tgt := 83) dX5_nameWorth_67 (by decide) (fun h => absurd h (by decide)) (fun _ => ?_)
    refine wp_aload_n dX5_nameWorth_70 rfl rfl ?_
    refine wp_aload_n dX5_nameWorth_71 rfl rfl ?_
    refine wp_get 2 rfl fl_RX5_62 rfl ⟨by omega, by omega⟩ dX5_nameWorth_72 rfl (v := 4) (sr_2_5 (M := M) hR) ?_
    refine wp_iload dX5_nameWorth_75 rfl ?_
    refine wp_callV0 (d' := d - 1) cv_RX5_65 2 rfl [(2, 4), (0, y)] [] rfl rfl (Or.inl ⟨_, _, rfl, by decide, rfl, by omega, by omega⟩) (by omega) (Nat.le_of_ble_eq_true rfl) dX5_nameWorth_77 rfl (Nat.le_of_ble_eq_true rfl) (by omega) (loc1 := [(2, 2), (2, 4), (0, y)]) rfl ?_
    refine sp_of_number_2 hn hR y hy ?_
    refine wp_goto (tgt := 84) dX5_nameWorth_80 (by decide) ?_
    refine wp_iret rfl dX5_nameWorth_84 ?_
    have e : nmv M 2 true x y c = (M 4 y.toNat) := by
      unfold nmv
      (repeat' split) <;> first | rfl | omega | contradiction
    rw [e] at k
    exact k
  by_cases h1_3 : c = (-2)
  · refine wp_tabIn dX5_nameWorth_1 3 (by omega) (by decide) rfl (tgt := 56) (by decide) ?_
    refine wp_aload_n dX5_nameWorth_56 rfl rfl ?_
    refine wp_aload_n dX5_nameWorth_57 rfl rfl ?_
    refine wp_get 2 rfl fl_RX5_62 rfl ⟨by omega, by omega⟩ dX5_nameWorth_58 rfl (v := 4) (sr_2_5 (M := M) hR) ?_
    refine wp_iload_n dX5_nameWorth_61 rfl rfl ?_
    refine wp_callV0 (d' := d - 1) cv_RX5_65 2 rfl [(2, 4), (0, x)] [] rfl rfl (Or.inl ⟨_, _, rfl, by decide, rfl, by omega, by omega⟩) (by omega) (Nat.le_of_ble_eq_true rfl) dX5_nameWorth_62 rfl (Nat.le_of_ble_eq_true rfl) (by omega) (loc1 := [(2, 2), (2, 4), (0, x)]) rfl ?_
    refine sp_of_number_2 hn hR x hx ?_
    refine wp_iret rfl dX5_nameWorth_65 ?_
    have e : nmv M 2 true x y c = (M 4 x.toNat) := by
      unfold nmv
      (repeat' split) <;> first | rfl | omega | contradiction
    rw [e] at k
    exact k
  by_cases h1_4 : c = (-1)
  · refine wp_tabIn dX5_nameWorth_1 4 (by omega) (by decide) rfl (tgt := 36) (by decide) ?_
    refine wp_iload_n dX5_nameWorth_36 rfl rfl ?_
    refine wp_if_eq (tgt := 50) dX5_nameWorth_37 (by decide) (fun h => absurd h (by decide)) (fun _ => ?_)
    refine wp_aload_n dX5_nameWorth_40 rfl rfl ?_
    refine wp_iload_n dX5_nameWorth_41 rfl rfl ?_
    refine wp_iload dX5_nameWorth_42 rfl ?_
    refine wp_callV0 (d' := d - 1) cv_RX5_53 2 rfl [(0, x), (0, y)] [] rfl rfl (Or.inl ⟨_, _, rfl, by decide, rfl, by omega, by omega⟩) (by omega) (Nat.le_of_ble_eq_true rfl) dX5_nameWorth_44 rfl (Nat.le_of_ble_eq_true rfl) (by omega) (loc1 := [(2, 2), (0, x), (0, y)]) rfl ?_
    refine sp_likes_2 hn hR x y hx ?_
    refine wp_goto (tgt := 55) dX5_nameWorth_47 (by decide) ?_
    refine wp_iret rfl dX5_nameWorth_55 ?_
    have e : nmv M 2 true x y c = (bnd (shr (M 5 x.toNat) y) 1) := by
      unfold nmv
      (repeat' split) <;> first | rfl | omega | contradiction
    rw [e] at k
    exact k
  refine wp_tabOut dX5_nameWorth_1 (by omega) (tgt := 109) (by decide) ?_
  refine wp_aload_n dX5_nameWorth_109 rfl rfl ?_
  refine wp_aload_n dX5_nameWorth_110 rfl rfl ?_
  refine wp_get 2 rfl fl_RX5_75 rfl ⟨by omega, by omega⟩ dX5_nameWorth_111 rfl (v := 7) (sr_2_8 (M := M) hR) ?_
  refine wp_iload_n dX5_nameWorth_114 rfl rfl ?_
  refine wp_callV0 (d' := d - 1) cv_RX5_65 2 rfl [(2, 7), (0, x)] [] rfl rfl (Or.inl ⟨_, _, rfl, by decide, rfl, by omega, by omega⟩) (by omega) (Nat.le_of_ble_eq_true rfl) dX5_nameWorth_115 rfl (Nat.le_of_ble_eq_true rfl) (by omega) (loc1 := [(2, 2), (2, 7), (0, x)]) rfl ?_
  refine sp_of_served_2 hn hR x hx ?_
  refine wp_iret rfl dX5_nameWorth_118 ?_
  have e : nmv M 2 true x y c = (M 7 x.toNat) := by
    unfold nmv
    (repeat' split) <;> first | rfl | omega | contradiction
  rw [e] at k
  exact k
set_option maxRecDepth 20000 in
set_option maxHeartbeats 4000000 in
theorem sp_nameWorth_2_0 {l : Launch} {g : Gw} {d n : Nat} {M : Mm} {Q : Option Wd → Mm → Prop} (hn : 60 ≤ n) (hd : 1 ≤ d) (hR : SR M) (c x y : Int) (hx : 0 ≤ x ∧ x < M 2 2 ∧ x < 5) (h5 : M 2 2 ≤ 5) (k : Q (some (0, nmv M 2 false x y c)) M) : Wp l g d 0 0 n m_X5_nameWorth 0 [] [(0, c), (0, 0), (2, 2), (0, x), (0, y)] M Q := by
  refine wp_iload_n dX5_nameWorth_0 rfl rfl ?_
  by_cases h1_0 : c = (-5)
  · refine wp_tabIn dX5_nameWorth_1 0 (by omega) (by decide) rfl (tgt := 90) (by decide) ?_
    refine wp_aload_n dX5_nameWorth_90 rfl rfl ?_
    refine wp_aload_n dX5_nameWorth_91 rfl rfl ?_
    refine wp_get 2 rfl fl_RX5_72 rfl ⟨by omega, by omega⟩ dX5_nameWorth_92 rfl (v := 6) (sr_2_7 (M := M) hR) ?_
    refine wp_iload_n dX5_nameWorth_95 rfl rfl ?_
    refine wp_if_eq (tgt := 104) dX5_nameWorth_96 (by decide) (fun _ => ?_) (fun h => absurd h (by decide))
    refine wp_iload_n dX5_nameWorth_104 rfl rfl ?_
    refine wp_callV0 (d' := d - 1) cv_RX5_65 2 rfl [(2, 6), (0, x)] [] rfl rfl (Or.inl ⟨_, _, rfl, by decide, rfl, by omega, by omega⟩) (by omega) (Nat.le_of_ble_eq_true rfl) dX5_nameWorth_105 rfl (Nat.le_of_ble_eq_true rfl) (by omega) (loc1 := [(2, 2), (2, 6), (0, x)]) rfl ?_
    refine sp_of_gifts_2 hn hR x hx ?_
    refine wp_iret rfl dX5_nameWorth_108 ?_
    have e : nmv M 2 false x y c = (M 6 x.toNat) := by
      unfold nmv
      (repeat' split) <;> first | rfl | omega | contradiction
    rw [e] at k
    exact k
  by_cases h1_1 : c = (-4)
  · refine wp_tabIn dX5_nameWorth_1 1 (by omega) (by decide) rfl (tgt := 85) (by decide) ?_
    refine wp_aload_n dX5_nameWorth_85 rfl rfl ?_
    refine wp_get 2 rfl fl_RX5_69 rfl ⟨by omega, by omega⟩ dX5_nameWorth_86 rfl (v := (M 2 0)) (rfl) ?_
    refine wp_iret rfl dX5_nameWorth_89 ?_
    have e : nmv M 2 false x y c = (M 2 0) := by
      unfold nmv
      (repeat' split) <;> first | rfl | omega | contradiction
    rw [e] at k
    exact k
  by_cases h1_2 : c = (-3)
  · refine wp_tabIn dX5_nameWorth_1 2 (by omega) (by decide) rfl (tgt := 66) (by decide) ?_
    refine wp_iload_n dX5_nameWorth_66 rfl rfl ?_
    refine wp_if_eq (tgt := 83) dX5_nameWorth_67 (by decide) (fun _ => ?_) (fun h => absurd h (by decide))
    refine wp_iconst dX5_nameWorth_83 (by decide) ?_
    refine wp_iret rfl dX5_nameWorth_84 ?_
    have e : nmv M 2 false x y c = 0 := by
      unfold nmv
      (repeat' split) <;> first | rfl | omega | contradiction
    rw [e] at k
    exact k
  by_cases h1_3 : c = (-2)
  · refine wp_tabIn dX5_nameWorth_1 3 (by omega) (by decide) rfl (tgt := 56) (by decide) ?_
    refine wp_aload_n dX5_nameWorth_56 rfl rfl ?_
    refine wp_aload_n dX5_nameWorth_57 rfl rfl ?_
    refine wp_get 2 rfl fl_RX5_62 rfl ⟨by omega, by omega⟩ dX5_nameWorth_58 rfl (v := 4) (sr_2_5 (M := M) hR) ?_
    refine wp_iload_n dX5_nameWorth_61 rfl rfl ?_
    refine wp_callV0 (d' := d - 1) cv_RX5_65 2 rfl [(2, 4), (0, x)] [] rfl rfl (Or.inl ⟨_, _, rfl, by decide, rfl, by omega, by omega⟩) (by omega) (Nat.le_of_ble_eq_true rfl) dX5_nameWorth_62 rfl (Nat.le_of_ble_eq_true rfl) (by omega) (loc1 := [(2, 2), (2, 4), (0, x)]) rfl ?_
    refine sp_of_number_2 hn hR x hx ?_
    refine wp_iret rfl dX5_nameWorth_65 ?_
    have e : nmv M 2 false x y c = (M 4 x.toNat) := by
      unfold nmv
      (repeat' split) <;> first | rfl | omega | contradiction
    rw [e] at k
    exact k
  by_cases h1_4 : c = (-1)
  · refine wp_tabIn dX5_nameWorth_1 4 (by omega) (by decide) rfl (tgt := 36) (by decide) ?_
    refine wp_iload_n dX5_nameWorth_36 rfl rfl ?_
    refine wp_if_eq (tgt := 50) dX5_nameWorth_37 (by decide) (fun _ => ?_) (fun h => absurd h (by decide))
    refine wp_aload_n dX5_nameWorth_50 rfl rfl ?_
    refine wp_iload_n dX5_nameWorth_51 rfl rfl ?_
    refine wp_callV0 (d' := d - 1) cv_RX5_58 2 rfl [(0, x)] [] rfl rfl (Or.inl ⟨_, _, rfl, by decide, rfl, by omega, by omega⟩) (by omega) (Nat.le_of_ble_eq_true rfl) dX5_nameWorth_52 rfl (Nat.le_of_ble_eq_true rfl) (by omega) (loc1 := [(2, 2), (0, x), (9, 0), (9, 0)]) rfl ?_
    refine sp_likersOf_2 hn hR x (by omega) h5 ?_
    refine wp_iret rfl dX5_nameWorth_55 ?_
    have e : nmv M 2 false x y c = (lkr (M 5) x (M 2 2).toNat) := by
      unfold nmv
      (repeat' split) <;> first | rfl | omega | contradiction
    rw [e] at k
    exact k
  refine wp_tabOut dX5_nameWorth_1 (by omega) (tgt := 109) (by decide) ?_
  refine wp_aload_n dX5_nameWorth_109 rfl rfl ?_
  refine wp_aload_n dX5_nameWorth_110 rfl rfl ?_
  refine wp_get 2 rfl fl_RX5_75 rfl ⟨by omega, by omega⟩ dX5_nameWorth_111 rfl (v := 7) (sr_2_8 (M := M) hR) ?_
  refine wp_iload_n dX5_nameWorth_114 rfl rfl ?_
  refine wp_callV0 (d' := d - 1) cv_RX5_65 2 rfl [(2, 7), (0, x)] [] rfl rfl (Or.inl ⟨_, _, rfl, by decide, rfl, by omega, by omega⟩) (by omega) (Nat.le_of_ble_eq_true rfl) dX5_nameWorth_115 rfl (Nat.le_of_ble_eq_true rfl) (by omega) (loc1 := [(2, 2), (2, 7), (0, x)]) rfl ?_
  refine sp_of_served_2 hn hR x hx ?_
  refine wp_iret rfl dX5_nameWorth_118 ?_
  have e : nmv M 2 false x y c = (M 7 x.toNat) := by
    unfold nmv
    (repeat' split) <;> first | rfl | omega | contradiction
  rw [e] at k
  exact k
set_option maxRecDepth 20000 in
set_option maxHeartbeats 4000000 in
theorem sp_nameWorth_16_1 {l : Launch} {g : Gw} {d n : Nat} {M : Mm} {Q : Option Wd → Mm → Prop} (hn : 60 ≤ n) (hd : 1 ≤ d) (hR : SR M) (c x y : Int) (hx : 0 ≤ x ∧ x < M 16 2 ∧ x < 5) (hy : 0 ≤ y ∧ y < M 16 2 ∧ y < 5) (h5 : M 16 2 ≤ 5) (k : Q (some (0, nmv M 16 true x y c)) M) : Wp l g d 0 0 n m_X5_nameWorth 0 [] [(0, c), (0, 1), (2, 16), (0, x), (0, y)] M Q := by
  refine wp_iload_n dX5_nameWorth_0 rfl rfl ?_
  by_cases h1_0 : c = (-5)
  · refine wp_tabIn dX5_nameWorth_1 0 (by omega) (by decide) rfl (tgt := 90) (by decide) ?_
    refine wp_aload_n dX5_nameWorth_90 rfl rfl ?_
    refine wp_aload_n dX5_nameWorth_91 rfl rfl ?_
    refine wp_get 16 rfl fl_RX5_72 rfl ⟨by omega, by omega⟩ dX5_nameWorth_92 rfl (v := 20) (sr_16_7 (M := M) hR) ?_
    refine wp_iload_n dX5_nameWorth_95 rfl rfl ?_
    refine wp_if_eq (tgt := 104) dX5_nameWorth_96 (by decide) (fun h => absurd h (by decide)) (fun _ => ?_)
    refine wp_iload dX5_nameWorth_99 rfl ?_
    refine wp_goto (tgt := 105) dX5_nameWorth_101 (by decide) ?_
    refine wp_callV0 (d' := d - 1) cv_RX5_65 16 rfl [(2, 20), (0, y)] [] rfl rfl (Or.inl ⟨_, _, rfl, by decide, rfl, by omega, by omega⟩) (by omega) (Nat.le_of_ble_eq_true rfl) dX5_nameWorth_105 rfl (Nat.le_of_ble_eq_true rfl) (by omega) (loc1 := [(2, 16), (2, 20), (0, y)]) rfl ?_
    refine sp_of_gifts_16 hn hR y hy ?_
    refine wp_iret rfl dX5_nameWorth_108 ?_
    have e : nmv M 16 true x y c = (M 20 y.toNat) := by
      unfold nmv
      (repeat' split) <;> first | rfl | omega | contradiction
    rw [e] at k
    exact k
  by_cases h1_1 : c = (-4)
  · refine wp_tabIn dX5_nameWorth_1 1 (by omega) (by decide) rfl (tgt := 85) (by decide) ?_
    refine wp_aload_n dX5_nameWorth_85 rfl rfl ?_
    refine wp_get 16 rfl fl_RX5_69 rfl ⟨by omega, by omega⟩ dX5_nameWorth_86 rfl (v := (M 16 0)) (rfl) ?_
    refine wp_iret rfl dX5_nameWorth_89 ?_
    have e : nmv M 16 true x y c = (M 16 0) := by
      unfold nmv
      (repeat' split) <;> first | rfl | omega | contradiction
    rw [e] at k
    exact k
  by_cases h1_2 : c = (-3)
  · refine wp_tabIn dX5_nameWorth_1 2 (by omega) (by decide) rfl (tgt := 66) (by decide) ?_
    refine wp_iload_n dX5_nameWorth_66 rfl rfl ?_
    refine wp_if_eq (tgt := 83) dX5_nameWorth_67 (by decide) (fun h => absurd h (by decide)) (fun _ => ?_)
    refine wp_aload_n dX5_nameWorth_70 rfl rfl ?_
    refine wp_aload_n dX5_nameWorth_71 rfl rfl ?_
    refine wp_get 16 rfl fl_RX5_62 rfl ⟨by omega, by omega⟩ dX5_nameWorth_72 rfl (v := 18) (sr_16_5 (M := M) hR) ?_
    refine wp_iload dX5_nameWorth_75 rfl ?_
    refine wp_callV0 (d' := d - 1) cv_RX5_65 16 rfl [(2, 18), (0, y)] [] rfl rfl (Or.inl ⟨_, _, rfl, by decide, rfl, by omega, by omega⟩) (by omega) (Nat.le_of_ble_eq_true rfl) dX5_nameWorth_77 rfl (Nat.le_of_ble_eq_true rfl) (by omega) (loc1 := [(2, 16), (2, 18), (0, y)]) rfl ?_
    refine sp_of_number_16 hn hR y hy ?_
    refine wp_goto (tgt := 84) dX5_nameWorth_80 (by decide) ?_
    refine wp_iret rfl dX5_nameWorth_84 ?_
    have e : nmv M 16 true x y c = (M 18 y.toNat) := by
      unfold nmv
      (repeat' split) <;> first | rfl | omega | contradiction
    rw [e] at k
    exact k
  by_cases h1_3 : c = (-2)
  · refine wp_tabIn dX5_nameWorth_1 3 (by omega) (by decide) rfl (tgt := 56) (by decide) ?_
    refine wp_aload_n dX5_nameWorth_56 rfl rfl ?_
    refine wp_aload_n dX5_nameWorth_57 rfl rfl ?_
    refine wp_get 16 rfl fl_RX5_62 rfl ⟨by omega, by omega⟩ dX5_nameWorth_58 rfl (v := 18) (sr_16_5 (M := M) hR) ?_
    refine wp_iload_n dX5_nameWorth_61 rfl rfl ?_
    refine wp_callV0 (d' := d - 1) cv_RX5_65 16 rfl [(2, 18), (0, x)] [] rfl rfl (Or.inl ⟨_, _, rfl, by decide, rfl, by omega, by omega⟩) (by omega) (Nat.le_of_ble_eq_true rfl) dX5_nameWorth_62 rfl (Nat.le_of_ble_eq_true rfl) (by omega) (loc1 := [(2, 16), (2, 18), (0, x)]) rfl ?_
    refine sp_of_number_16 hn hR x hx ?_
    refine wp_iret rfl dX5_nameWorth_65 ?_
    have e : nmv M 16 true x y c = (M 18 x.toNat) := by
      unfold nmv
      (repeat' split) <;> first | rfl | omega | contradiction
    rw [e] at k
    exact k
  by_cases h1_4 : c = (-1)
  · refine wp_tabIn dX5_nameWorth_1 4 (by omega) (by decide) rfl (tgt := 36) (by decide) ?_
    refine wp_iload_n dX5_nameWorth_36 rfl rfl ?_
    refine wp_if_eq (tgt := 50) dX5_nameWorth_37 (by decide) (fun h => absurd h (by decide)) (fun _ => ?_)
    refine wp_aload_n dX5_nameWorth_40 rfl rfl ?_
    refine wp_iload_n dX5_nameWorth_41 rfl rfl ?_
    refine wp_iload dX5_nameWorth_42 rfl ?_
    refine wp_callV0 (d' := d - 1) cv_RX5_53 16 rfl [(0, x), (0, y)] [] rfl rfl (Or.inl ⟨_, _, rfl, by decide, rfl, by omega, by omega⟩) (by omega) (Nat.le_of_ble_eq_true rfl) dX5_nameWorth_44 rfl (Nat.le_of_ble_eq_true rfl) (by omega) (loc1 := [(2, 16), (0, x), (0, y)]) rfl ?_
    refine sp_likes_16 hn hR x y hx ?_
    refine wp_goto (tgt := 55) dX5_nameWorth_47 (by decide) ?_
    refine wp_iret rfl dX5_nameWorth_55 ?_
    have e : nmv M 16 true x y c = (bnd (shr (M 19 x.toNat) y) 1) := by
      unfold nmv
      (repeat' split) <;> first | rfl | omega | contradiction
    rw [e] at k
    exact k
  refine wp_tabOut dX5_nameWorth_1 (by omega) (tgt := 109) (by decide) ?_
  refine wp_aload_n dX5_nameWorth_109 rfl rfl ?_
  refine wp_aload_n dX5_nameWorth_110 rfl rfl ?_
  refine wp_get 16 rfl fl_RX5_75 rfl ⟨by omega, by omega⟩ dX5_nameWorth_111 rfl (v := 21) (sr_16_8 (M := M) hR) ?_
  refine wp_iload_n dX5_nameWorth_114 rfl rfl ?_
  refine wp_callV0 (d' := d - 1) cv_RX5_65 16 rfl [(2, 21), (0, x)] [] rfl rfl (Or.inl ⟨_, _, rfl, by decide, rfl, by omega, by omega⟩) (by omega) (Nat.le_of_ble_eq_true rfl) dX5_nameWorth_115 rfl (Nat.le_of_ble_eq_true rfl) (by omega) (loc1 := [(2, 16), (2, 21), (0, x)]) rfl ?_
  refine sp_of_served_16 hn hR x hx ?_
  refine wp_iret rfl dX5_nameWorth_118 ?_
  have e : nmv M 16 true x y c = (M 21 x.toNat) := by
    unfold nmv
    (repeat' split) <;> first | rfl | omega | contradiction
  rw [e] at k
  exact k
set_option maxRecDepth 20000 in
set_option maxHeartbeats 4000000 in
theorem sp_nameWorth_16_0 {l : Launch} {g : Gw} {d n : Nat} {M : Mm} {Q : Option Wd → Mm → Prop} (hn : 60 ≤ n) (hd : 1 ≤ d) (hR : SR M) (c x y : Int) (hx : 0 ≤ x ∧ x < M 16 2 ∧ x < 5) (h5 : M 16 2 ≤ 5) (k : Q (some (0, nmv M 16 false x y c)) M) : Wp l g d 0 0 n m_X5_nameWorth 0 [] [(0, c), (0, 0), (2, 16), (0, x), (0, y)] M Q := by
  refine wp_iload_n dX5_nameWorth_0 rfl rfl ?_
  by_cases h1_0 : c = (-5)
  · refine wp_tabIn dX5_nameWorth_1 0 (by omega) (by decide) rfl (tgt := 90) (by decide) ?_
    refine wp_aload_n dX5_nameWorth_90 rfl rfl ?_
    refine wp_aload_n dX5_nameWorth_91 rfl rfl ?_
    refine wp_get 16 rfl fl_RX5_72 rfl ⟨by omega, by omega⟩ dX5_nameWorth_92 rfl (v := 20) (sr_16_7 (M := M) hR) ?_
    refine wp_iload_n dX5_nameWorth_95 rfl rfl ?_
    refine wp_if_eq (tgt := 104) dX5_nameWorth_96 (by decide) (fun _ => ?_) (fun h => absurd h (by decide))
    refine wp_iload_n dX5_nameWorth_104 rfl rfl ?_
    refine wp_callV0 (d' := d - 1) cv_RX5_65 16 rfl [(2, 20), (0, x)] [] rfl rfl (Or.inl ⟨_, _, rfl, by decide, rfl, by omega, by omega⟩) (by omega) (Nat.le_of_ble_eq_true rfl) dX5_nameWorth_105 rfl (Nat.le_of_ble_eq_true rfl) (by omega) (loc1 := [(2, 16), (2, 20), (0, x)]) rfl ?_
    refine sp_of_gifts_16 hn hR x hx ?_
    refine wp_iret rfl dX5_nameWorth_108 ?_
    have e : nmv M 16 false x y c = (M 20 x.toNat) := by
      unfold nmv
      (repeat' split) <;> first | rfl | omega | contradiction
    rw [e] at k
    exact k
  by_cases h1_1 : c = (-4)
  · refine wp_tabIn dX5_nameWorth_1 1 (by omega) (by decide) rfl (tgt := 85) (by decide) ?_
    refine wp_aload_n dX5_nameWorth_85 rfl rfl ?_
    refine wp_get 16 rfl fl_RX5_69 rfl ⟨by omega, by omega⟩ dX5_nameWorth_86 rfl (v := (M 16 0)) (rfl) ?_
    refine wp_iret rfl dX5_nameWorth_89 ?_
    have e : nmv M 16 false x y c = (M 16 0) := by
      unfold nmv
      (repeat' split) <;> first | rfl | omega | contradiction
    rw [e] at k
    exact k
  by_cases h1_2 : c = (-3)
  · refine wp_tabIn dX5_nameWorth_1 2 (by omega) (by decide) rfl (tgt := 66) (by decide) ?_
    refine wp_iload_n dX5_nameWorth_66 rfl rfl ?_
    refine wp_if_eq (tgt := 83) dX5_nameWorth_67 (by decide) (fun _ => ?_) (fun h => absurd h (by decide))
    refine wp_iconst dX5_nameWorth_83 (by decide) ?_
    refine wp_iret rfl dX5_nameWorth_84 ?_
    have e : nmv M 16 false x y c = 0 := by
      unfold nmv
      (repeat' split) <;> first | rfl | omega | contradiction
    rw [e] at k
    exact k
  by_cases h1_3 : c = (-2)
  · refine wp_tabIn dX5_nameWorth_1 3 (by omega) (by decide) rfl (tgt := 56) (by decide) ?_
    refine wp_aload_n dX5_nameWorth_56 rfl rfl ?_
    refine wp_aload_n dX5_nameWorth_57 rfl rfl ?_
    refine wp_get 16 rfl fl_RX5_62 rfl ⟨by omega, by omega⟩ dX5_nameWorth_58 rfl (v := 18) (sr_16_5 (M := M) hR) ?_
    refine wp_iload_n dX5_nameWorth_61 rfl rfl ?_
    refine wp_callV0 (d' := d - 1) cv_RX5_65 16 rfl [(2, 18), (0, x)] [] rfl rfl (Or.inl ⟨_, _, rfl, by decide, rfl, by omega, by omega⟩) (by omega) (Nat.le_of_ble_eq_true rfl) dX5_nameWorth_62 rfl (Nat.le_of_ble_eq_true rfl) (by omega) (loc1 := [(2, 16), (2, 18), (0, x)]) rfl ?_
    refine sp_of_number_16 hn hR x hx ?_
    refine wp_iret rfl dX5_nameWorth_65 ?_
    have e : nmv M 16 false x y c = (M 18 x.toNat) := by
      unfold nmv
      (repeat' split) <;> first | rfl | omega | contradiction
    rw [e] at k
    exact k
  by_cases h1_4 : c = (-1)
  · refine wp_tabIn dX5_nameWorth_1 4 (by omega) (by decide) rfl (tgt := 36) (by decide) ?_
    refine wp_iload_n dX5_nameWorth_36 rfl rfl ?_
    refine wp_if_eq (tgt := 50) dX5_nameWorth_37 (by decide) (fun _ => ?_) (fun h => absurd h (by decide))
    refine wp_aload_n dX5_nameWorth_50 rfl rfl ?_
    refine wp_iload_n dX5_nameWorth_51 rfl rfl ?_
    refine wp_callV0 (d' := d - 1) cv_RX5_58 16 rfl [(0, x)] [] rfl rfl (Or.inl ⟨_, _, rfl, by decide, rfl, by omega, by omega⟩) (by omega) (Nat.le_of_ble_eq_true rfl) dX5_nameWorth_52 rfl (Nat.le_of_ble_eq_true rfl) (by omega) (loc1 := [(2, 16), (0, x), (9, 0), (9, 0)]) rfl ?_
    refine sp_likersOf_16 hn hR x (by omega) h5 ?_
    refine wp_iret rfl dX5_nameWorth_55 ?_
    have e : nmv M 16 false x y c = (lkr (M 19) x (M 16 2).toNat) := by
      unfold nmv
      (repeat' split) <;> first | rfl | omega | contradiction
    rw [e] at k
    exact k
  refine wp_tabOut dX5_nameWorth_1 (by omega) (tgt := 109) (by decide) ?_
  refine wp_aload_n dX5_nameWorth_109 rfl rfl ?_
  refine wp_aload_n dX5_nameWorth_110 rfl rfl ?_
  refine wp_get 16 rfl fl_RX5_75 rfl ⟨by omega, by omega⟩ dX5_nameWorth_111 rfl (v := 21) (sr_16_8 (M := M) hR) ?_
  refine wp_iload_n dX5_nameWorth_114 rfl rfl ?_
  refine wp_callV0 (d' := d - 1) cv_RX5_65 16 rfl [(2, 21), (0, x)] [] rfl rfl (Or.inl ⟨_, _, rfl, by decide, rfl, by omega, by omega⟩) (by omega) (Nat.le_of_ble_eq_true rfl) dX5_nameWorth_115 rfl (Nat.le_of_ble_eq_true rfl) (by omega) (loc1 := [(2, 16), (2, 21), (0, x)]) rfl ?_
  refine sp_of_served_16 hn hR x hx ?_
  refine wp_iret rfl dX5_nameWorth_118 ?_
  have e : nmv M 16 false x y c = (M 21 x.toNat) := by
    unfold nmv
    (repeat' split) <;> first | rfl | omega | contradiction
  rw [e] at k
  exact k
