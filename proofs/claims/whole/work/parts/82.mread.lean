/-! ===== the model's reader: the grammar ===== -/
theorem jn7 (l r : Int) : jn (-7) l r = if l = 0 ∧ r = 0 then 0 else 1 := by unfold jn; rw [if_pos rfl]
theorem jn8 (l r : Int) : jn (-8) l r = if l = 0 ∨ r = 0 then 0 else 1 := by unfold jn; rw [if_neg (by decide), if_pos rfl]
theorem jn10 (l r : Int) : jn (-10) l r = if l < r then 1 else 0 := by unfold jn; rw [if_neg (by decide), if_neg (by decide), if_pos rfl]
theorem jn11 (l r : Int) : jn (-11) l r = if l = r then 1 else 0 := by unfold jn; rw [if_neg (by decide), if_neg (by decide), if_neg (by decide), if_pos rfl]
theorem jn12 (l r : Int) : jn (-12) l r = wrap (l + r) := by unfold jn; rw [if_neg (by decide), if_neg (by decide), if_neg (by decide), if_neg (by decide), if_pos rfl]
theorem jn13 (l r : Int) : jn (-13) l r = wrap (l - r) := by unfold jn; rw [if_neg (by decide), if_neg (by decide), if_neg (by decide), if_neg (by decide), if_neg (by decide), if_pos rfl]
theorem jn14 (l r : Int) : jn (-14) l r = wrap (l * r) := by unfold jn; rw [if_neg (by decide), if_neg (by decide), if_neg (by decide), if_neg (by decide), if_neg (by decide), if_neg (by decide)]
def PoM (M : Mm) (t : Nat) (f : Nat → Int) (z : Int) (o : Int) (e : Int → Int) (r : PR) (M' : Mm) (w : Int) : Prop := Fr VMr M M' ∧ match r with
  | .inl p => DJm M' t f z p o e
  | .inr q => RJm M' t f z q.1 o e ∧ w = q.2.2 e
def CMm (l : Launch) (g : Gw) (n t : Nat) (f : Nat → Int) (z : Int) (e : Int → Int) (μ : Md) (ls : List Wd) (B : Nat) (o : Int) (P : Nat → PR) : Prop :=
  ∀ (d : Nat) (M : Mm) (Q : Option Wd → Mm → Prop) (x : Nat), B ≤ d → RJm M t f z x o e → (x : Int) ≤ z → (∀ M' w, PoM M t f z o e (P x) M' w → Q (some (0, w)) M') → Wp l g d 0 0 n μ 0 [] ((2, 69) :: ls) M Q
def CMd' (l : Launch) (g : Gw) (n t : Nat) (f : Nat → Int) (z : Int) (e : Int → Int) (μ : Md) (ls : List Wd) (B : Nat) : Prop :=
  ∀ (d : Nat) (M : Mm) (Q : Option Wd → Mm → Prop) (p : Nat) (o : Int), B ≤ d → DJm M t f z p o e → (∀ M' w, Fr VMr M M' → DJm M' t f z p o e → Q (some (0, w)) M') → Wp l g d 0 0 n μ 0 [] ((2, 69) :: ls) M Q
theorem CMm.up {l : Launch} {g : Gw} {n t : Nat} {f : Nat → Int} {z : Int} {e : Int → Int} {μ : Md} {ls : List Wd} {B B' : Nat} {o : Int} {P : Nat → PR} (h : CMm l g n t f z e μ ls B o P) (hb : B ≤ B') : CMm l g n t f z e μ ls B' o P :=
  fun d M Q x hd => h d M Q x (Nat.le_trans hb hd)
theorem CMd'.up {l : Launch} {g : Gw} {n t : Nat} {f : Nat → Int} {z : Int} {e : Int → Int} {μ : Md} {ls : List Wd} {B B' : Nat} (h : CMd' l g n t f z e μ ls B) (hb : B ≤ B') : CMd' l g n t f z e μ ls B' :=
  fun d M Q x o hd => h d M Q x o (Nat.le_trans hb hd)
set_option maxRecDepth 20000 in
set_option maxHeartbeats 4000000 in
theorem sp_opensm {l : Launch} {g : Gw} {d n : Nat} {M : Mm} {Q : Option Wd → Mm → Prop} (hn : 90 ≤ n) {t : Nat} {f : Nat → Int} {z : Int} {e : Int → Int} (hd : 4 ≤ d) (hB : BT f z) {x : Nat} {o : Int} (hJ : RJm M t f z x o e) (hx : (x : Int) ≤ z) (ho : 0 ≤ o ∧ o < 5) (hT : lxT f z x ≠ 1) (k : ∀ M', RJm M' t f z (lxN f z x) (o + 1) e → Fr VMr M M' → Q (some (0, 1)) M') : Wp l g d 0 0 n m_X8_opens 0 [] [(2, 69)] M Q := by
  refine wp_aload_n dX8_opens_0 rfl rfl ?_
  refine wp_get 69 rfl fl_RX8_191 rfl ⟨by omega, by omega⟩ dX8_opens_1 rfl (v := o) (hJ.2.2.1) ?_
  refine wp_iconst dX8_opens_4 (by decide) ?_
  refine wp_icmp_ne (tgt := 14) dX8_opens_5 (by decide) (fun _ => ?_) (fun h => absurd h (by omega))
  refine wp_aload_n dX8_opens_14 rfl rfl ?_
  refine wp_dup dX8_opens_15 (Or.inr rfl) ?_
  refine wp_get 69 rfl fl_RX8_191 rfl ⟨by omega, by omega⟩ dX8_opens_16 rfl (v := o) (hJ.2.2.1) ?_
  refine wp_iconst dX8_opens_19 (by decide) ?_
  refine wp_iadd dX8_opens_20 (by omega) ?_
  refine wp_puti 69 rfl fl_RX8_191 rfl ⟨by omega, by omega⟩ dX8_opens_21 rfl rfl ?_
  refine wp_aload_n dX8_opens_24 rfl rfl ?_
  refine wp_callV0 (d' := d - 1) cv_RX8_197 69 rfl [] [] rfl rfl (Or.inl ⟨_, _, rfl, by decide, rfl, by omega, by omega⟩) (by omega) (Nat.le_of_ble_eq_true rfl) dX8_opens_25 rfl (Nat.le_of_ble_eq_true rfl) (by omega) (loc1 := [(2, 69), (9, 0), (9, 0)]) rfl ?_
  have J9 := hJ.opn (v := o + 1) rfl
  have F9 : Fr VMr M (mu M 69 25 (o + 1)) := fm25
  refine sp_next hn (by omega) hB (J9).1 ((J9).2.1.2.1 ((J9).2.1.2.2.ne4 (by omega))) (lxN_le hx).1 (fun M1 f1 l1 => ?_)
  have J1 := (J9).step f1 l1
  have F1 := (F9).tr (f1.mono VM1.r)
  have X1 := lxN_le (f := f) hx
  have Y1 := lxA_le (f := f) hx
  refine wp_iconst dX8_opens_28 (by decide) ?_
  refine wp_zret rfl (by omega) dX8_opens_29 ?_
  exact k _ J1 F1
set_option maxRecDepth 20000 in
set_option maxHeartbeats 4000000 in
theorem sp_opensmF {l : Launch} {g : Gw} {d n : Nat} {M : Mm} {Q : Option Wd → Mm → Prop} (hn : 90 ≤ n) {t : Nat} {f : Nat → Int} {z : Int} {e : Int → Int} (hd : 4 ≤ d) {x : Nat} {o : Int} (hJ : RJm M t f z x o e) (ho : o = 5) (k : ∀ M', DJm M' t f z (lxA f z x) o e → Fr VMr M M' → Q (some (0, 0)) M') : Wp l g d 0 0 n m_X8_opens 0 [] [(2, 69)] M Q := by
  refine wp_aload_n dX8_opens_0 rfl rfl ?_
  refine wp_get 69 rfl fl_RX8_191 rfl ⟨by omega, by omega⟩ dX8_opens_1 rfl (v := o) (hJ.2.2.1) ?_
  refine wp_iconst dX8_opens_4 (by decide) ?_
  refine wp_icmp_ne (tgt := 14) dX8_opens_5 (by decide) (fun h => absurd h (by omega)) (fun _ => ?_)
  refine wp_aload_n dX8_opens_8 rfl rfl ?_
  refine wp_callV0 (d' := d - 1) cv_RX8_194 69 rfl [] [] rfl rfl (Or.inl ⟨_, _, rfl, by decide, rfl, by omega, by omega⟩) (by omega) (Nat.le_of_ble_eq_true rfl) dX8_opens_9 rfl (Nat.le_of_ble_eq_true rfl) (by omega) (loc1 := [(2, 69)]) rfl ?_
  refine sp_failm hn hJ (fun M1 J1 F1 => ?_)
  refine wp_iconst dX8_opens_12 (by decide) ?_
  refine wp_zret rfl (by omega) dX8_opens_13 ?_
  exact k _ J1 F1
set_option maxRecDepth 20000 in
set_option maxHeartbeats 4000000 in
theorem sp_name {l : Launch} {g : Gw} {d n : Nat} {M : Mm} {Q : Option Wd → Mm → Prop} (hn : 90 ≤ n) {t : Nat} {f : Nat → Int} {z : Int} {e : Int → Int} (hd : 4 ≤ d) {x : Nat} {o : Int} (hJ : RJm M t f z x o e) (hx : (x : Int) ≤ z) (kt : 262 ≤ lxT f z x ∧ lxT f z x < 268 → Q (some (0, e (-1 - (lxT f z x - 262)))) M) (kf : ¬ (262 ≤ lxT f z x ∧ lxT f z x < 268) → ∀ M', DJm M' t f z (lxA f z x) o e → Fr VMr M M' → Q (some (0, 0)) M') : Wp l g d 0 0 n m_X8_name 0 [] [(2, 69)] M Q := by
  refine wp_aload_n dX8_name_0 rfl rfl ?_
  refine wp_bipush dX8_name_1 (by decide) (by decide) ?_
  refine wp_bipush dX8_name_3 (by decide) (by decide) ?_
  refine wp_bipush dX8_name_5 (by decide) (by decide) ?_
  refine wp_bipush dX8_name_7 (by decide) (by decide) ?_
  refine wp_bipush dX8_name_9 (by decide) (by decide) ?_
  refine wp_iconst dX8_name_11 (by decide) ?_
  refine wp_iconst dX8_name_12 (by decide) ?_
  refine wp_iconst dX8_name_13 (by decide) ?_
  refine wp_callV0 (d' := d - 1) cv_RX8_200 69 rfl [(0, 108), (0, 105), (0, 107), (0, 101), (0, 100), (0, 0), (0, 0), (0, 0)] [] rfl rfl (Or.inl ⟨_, _, rfl, by decide, rfl, by omega, by omega⟩) (by omega) (Nat.le_of_ble_eq_true rfl) dX8_name_14 rfl (Nat.le_of_ble_eq_true rfl) (by omega) (loc1 := [(2, 69), (0, 108), (0, 105), (0, 107), (0, 101), (0, 100), (0, 0), (0, 0), (0, 0)]) rfl ?_
  refine sp_isWm_6 hn (by omega) hJ hx (fun t1 => ?_) (fun t1 => ?_)
  · refine wp_if_eq (tgt := 25) dX8_name_17 (by decide) (fun h => absurd h (by decide)) (fun _ => ?_)
    refine wp_aload_n dX8_name_20 rfl rfl ?_
    refine wp_get 69 rfl fl_RX8_204 rfl ⟨by omega, by omega⟩ dX8_name_21 rfl (v := (M 69 13)) (rfl) ?_
    refine wp_iret rfl dX8_name_24 ?_
    have q := kt ⟨by omega, by omega⟩
    rw [show -1 - (lxT f z x - 262) = -1 by omega, ← hJ.2.2.2.2.1] at q
    exact q
  · refine wp_if_eq (tgt := 25) dX8_name_17 (by decide) (fun _ => ?_) (fun h => absurd h (by decide))
    refine wp_aload_n dX8_name_25 rfl rfl ?_
    refine wp_bipush dX8_name_26 (by decide) (by decide) ?_
    refine wp_bipush dX8_name_28 (by decide) (by decide) ?_
    refine wp_bipush dX8_name_30 (by decide) (by decide) ?_
    refine wp_bipush dX8_name_32 (by decide) (by decide) ?_
    refine wp_bipush dX8_name_34 (by decide) (by decide) ?_
    refine wp_bipush dX8_name_36 (by decide) (by decide) ?_
    refine wp_iconst dX8_name_38 (by decide) ?_
    refine wp_iconst dX8_name_39 (by decide) ?_
    refine wp_callV0 (d' := d - 1) cv_RX8_200 69 rfl [(0, 110), (0, 117), (0, 109), (0, 98), (0, 101), (0, 114), (0, 0), (0, 0)] [] rfl rfl (Or.inl ⟨_, _, rfl, by decide, rfl, by omega, by omega⟩) (by omega) (Nat.le_of_ble_eq_true rfl) dX8_name_40 rfl (Nat.le_of_ble_eq_true rfl) (by omega) (loc1 := [(2, 69), (0, 110), (0, 117), (0, 109), (0, 98), (0, 101), (0, 114), (0, 0), (0, 0)]) rfl ?_
    refine sp_isWm_7 hn (by omega) hJ hx (fun t2 => ?_) (fun t2 => ?_)
    · refine wp_if_eq (tgt := 51) dX8_name_43 (by decide) (fun h => absurd h (by decide)) (fun _ => ?_)
      refine wp_aload_n dX8_name_46 rfl rfl ?_
      refine wp_get 69 rfl fl_RX8_207 rfl ⟨by omega, by omega⟩ dX8_name_47 rfl (v := (M 69 14)) (rfl) ?_
      refine wp_iret rfl dX8_name_50 ?_
      have q := kt ⟨by omega, by omega⟩
      rw [show -1 - (lxT f z x - 262) = -2 by omega, ← hJ.2.2.2.2.2.1] at q
      exact q
    · refine wp_if_eq (tgt := 51) dX8_name_43 (by decide) (fun _ => ?_) (fun h => absurd h (by decide))
      refine wp_aload_n dX8_name_51 rfl rfl ?_
      refine wp_bipush dX8_name_52 (by decide) (by decide) ?_
      refine wp_bipush dX8_name_54 (by decide) (by decide) ?_
      refine wp_bipush dX8_name_56 (by decide) (by decide) ?_
      refine wp_bipush dX8_name_58 (by decide) (by decide) ?_
      refine wp_bipush dX8_name_60 (by decide) (by decide) ?_
      refine wp_bipush dX8_name_62 (by decide) (by decide) ?_
      refine wp_iconst dX8_name_64 (by decide) ?_
      refine wp_iconst dX8_name_65 (by decide) ?_
      refine wp_callV0 (d' := d - 1) cv_RX8_200 69 rfl [(0, 116), (0, 104), (0, 101), (0, 105), (0, 114), (0, 115), (0, 0), (0, 0)] [] rfl rfl (Or.inl ⟨_, _, rfl, by decide, rfl, by omega, by omega⟩) (by omega) (Nat.le_of_ble_eq_true rfl) dX8_name_66 rfl (Nat.le_of_ble_eq_true rfl) (by omega) (loc1 := [(2, 69), (0, 116), (0, 104), (0, 101), (0, 105), (0, 114), (0, 115), (0, 0), (0, 0)]) rfl ?_
      refine sp_isWm_8 hn (by omega) hJ hx (fun t3 => ?_) (fun t3 => ?_)
      · refine wp_if_eq (tgt := 77) dX8_name_69 (by decide) (fun h => absurd h (by decide)) (fun _ => ?_)
        refine wp_aload_n dX8_name_72 rfl rfl ?_
        refine wp_get 69 rfl fl_RX8_210 rfl ⟨by omega, by omega⟩ dX8_name_73 rfl (v := (M 69 15)) (rfl) ?_
        refine wp_iret rfl dX8_name_76 ?_
        have q := kt ⟨by omega, by omega⟩
        rw [show -1 - (lxT f z x - 262) = -3 by omega, ← hJ.2.2.2.2.2.2.1] at q
        exact q
      · refine wp_if_eq (tgt := 77) dX8_name_69 (by decide) (fun _ => ?_) (fun h => absurd h (by decide))
        refine wp_aload_n dX8_name_77 rfl rfl ?_
        refine wp_bipush dX8_name_78 (by decide) (by decide) ?_
        refine wp_bipush dX8_name_80 (by decide) (by decide) ?_
        refine wp_bipush dX8_name_82 (by decide) (by decide) ?_
        refine wp_bipush dX8_name_84 (by decide) (by decide) ?_
        refine wp_bipush dX8_name_86 (by decide) (by decide) ?_
        refine wp_bipush dX8_name_88 (by decide) (by decide) ?_
        refine wp_iconst dX8_name_90 (by decide) ?_
        refine wp_iconst dX8_name_91 (by decide) ?_
        refine wp_callV0 (d' := d - 1) cv_RX8_200 69 rfl [(0, 109), (0, 105), (0, 110), (0, 117), (0, 116), (0, 101), (0, 0), (0, 0)] [] rfl rfl (Or.inl ⟨_, _, rfl, by decide, rfl, by omega, by omega⟩) (by omega) (Nat.le_of_ble_eq_true rfl) dX8_name_92 rfl (Nat.le_of_ble_eq_true rfl) (by omega) (loc1 := [(2, 69), (0, 109), (0, 105), (0, 110), (0, 117), (0, 116), (0, 101), (0, 0), (0, 0)]) rfl ?_
        refine sp_isWm_9 hn (by omega) hJ hx (fun t4 => ?_) (fun t4 => ?_)
        · refine wp_if_eq (tgt := 103) dX8_name_95 (by decide) (fun h => absurd h (by decide)) (fun _ => ?_)
          refine wp_aload_n dX8_name_98 rfl rfl ?_
          refine wp_get 69 rfl fl_RX8_213 rfl ⟨by omega, by omega⟩ dX8_name_99 rfl (v := (M 69 16)) (rfl) ?_
          refine wp_iret rfl dX8_name_102 ?_
          have q := kt ⟨by omega, by omega⟩
          rw [show -1 - (lxT f z x - 262) = -4 by omega, ← hJ.2.2.2.2.2.2.2.1] at q
          exact q
        · refine wp_if_eq (tgt := 103) dX8_name_95 (by decide) (fun _ => ?_) (fun h => absurd h (by decide))
          refine wp_aload_n dX8_name_103 rfl rfl ?_
          refine wp_bipush dX8_name_104 (by decide) (by decide) ?_
          refine wp_bipush dX8_name_106 (by decide) (by decide) ?_
          refine wp_bipush dX8_name_108 (by decide) (by decide) ?_
          refine wp_bipush dX8_name_110 (by decide) (by decide) ?_
          refine wp_bipush dX8_name_112 (by decide) (by decide) ?_
          refine wp_iconst dX8_name_114 (by decide) ?_
          refine wp_iconst dX8_name_115 (by decide) ?_
          refine wp_iconst dX8_name_116 (by decide) ?_
          refine wp_callV0 (d' := d - 1) cv_RX8_200 69 rfl [(0, 103), (0, 105), (0, 102), (0, 116), (0, 115), (0, 0), (0, 0), (0, 0)] [] rfl rfl (Or.inl ⟨_, _, rfl, by decide, rfl, by omega, by omega⟩) (by omega) (Nat.le_of_ble_eq_true rfl) dX8_name_117 rfl (Nat.le_of_ble_eq_true rfl) (by omega) (loc1 := [(2, 69), (0, 103), (0, 105), (0, 102), (0, 116), (0, 115), (0, 0), (0, 0), (0, 0)]) rfl ?_
          refine sp_isWm_10 hn (by omega) hJ hx (fun t5 => ?_) (fun t5 => ?_)
          · refine wp_if_eq (tgt := 128) dX8_name_120 (by decide) (fun h => absurd h (by decide)) (fun _ => ?_)
            refine wp_aload_n dX8_name_123 rfl rfl ?_
            refine wp_get 69 rfl fl_RX8_216 rfl ⟨by omega, by omega⟩ dX8_name_124 rfl (v := (M 69 17)) (rfl) ?_
            refine wp_iret rfl dX8_name_127 ?_
            have q := kt ⟨by omega, by omega⟩
            rw [show -1 - (lxT f z x - 262) = -5 by omega, ← hJ.2.2.2.2.2.2.2.2.1] at q
            exact q
          · refine wp_if_eq (tgt := 128) dX8_name_120 (by decide) (fun _ => ?_) (fun h => absurd h (by decide))
            refine wp_aload_n dX8_name_128 rfl rfl ?_
            refine wp_bipush dX8_name_129 (by decide) (by decide) ?_
            refine wp_bipush dX8_name_131 (by decide) (by decide) ?_
            refine wp_bipush dX8_name_133 (by decide) (by decide) ?_
            refine wp_bipush dX8_name_135 (by decide) (by decide) ?_
            refine wp_bipush dX8_name_137 (by decide) (by decide) ?_
            refine wp_bipush dX8_name_139 (by decide) (by decide) ?_
            refine wp_iconst dX8_name_141 (by decide) ?_
            refine wp_iconst dX8_name_142 (by decide) ?_
            refine wp_callV0 (d' := d - 1) cv_RX8_200 69 rfl [(0, 101), (0, 114), (0, 114), (0, 97), (0, 110), (0, 100), (0, 0), (0, 0)] [] rfl rfl (Or.inl ⟨_, _, rfl, by decide, rfl, by omega, by omega⟩) (by omega) (Nat.le_of_ble_eq_true rfl) dX8_name_143 rfl (Nat.le_of_ble_eq_true rfl) (by omega) (loc1 := [(2, 69), (0, 101), (0, 114), (0, 114), (0, 97), (0, 110), (0, 100), (0, 0), (0, 0)]) rfl ?_
            refine sp_isWm_11 hn (by omega) hJ hx (fun t6 => ?_) (fun t6 => ?_)
            · refine wp_if_eq (tgt := 154) dX8_name_146 (by decide) (fun h => absurd h (by decide)) (fun _ => ?_)
              refine wp_aload_n dX8_name_149 rfl rfl ?_
              refine wp_get 69 rfl fl_RX8_219 rfl ⟨by omega, by omega⟩ dX8_name_150 rfl (v := (M 69 18)) (rfl) ?_
              refine wp_iret rfl dX8_name_153 ?_
              have q := kt ⟨by omega, by omega⟩
              rw [show -1 - (lxT f z x - 262) = -6 by omega, ← hJ.2.2.2.2.2.2.2.2.2] at q
              exact q
            · refine wp_if_eq (tgt := 154) dX8_name_146 (by decide) (fun _ => ?_) (fun h => absurd h (by decide))
              refine wp_aload_n dX8_name_154 rfl rfl ?_
              refine wp_callV0 (d' := d - 1) cv_RX8_194 69 rfl [] [] rfl rfl (Or.inl ⟨_, _, rfl, by decide, rfl, by omega, by omega⟩) (by omega) (Nat.le_of_ble_eq_true rfl) dX8_name_155 rfl (Nat.le_of_ble_eq_true rfl) (by omega) (loc1 := [(2, 69)]) rfl ?_
              refine sp_failm hn hJ (fun M7 D7 f7 => ?_)
              have F7 := ((Fr.rf : Fr VMr M M)).tr f7
              refine wp_iconst dX8_name_158 (by decide) ?_
              refine wp_iret rfl dX8_name_159 ?_
              exact kf (by omega) _ D7 F7
set_option maxRecDepth 20000 in
set_option maxHeartbeats 4000000 in
theorem cmd_atom0 {l : Launch} {g : Gw} {n : Nat} (hn : 90 ≤ n) {t : Nat} {f : Nat → Int} {z : Int} {e : Int → Int} : CMd' l g n t f z e m_X8_atom0 [(9, 0)] 6 := by
  intro d M0 Q p o hd hD k
  refine wp_iconst dX8_atom0_0 (by decide) ?_
  refine wp_istore_n (loc' := [(2, 69), (0, 0)]) dX8_atom0_1 rfl (Nat.le_of_ble_eq_true rfl) rfl ?_
  refine wp_aload_n dX8_atom0_2 rfl rfl ?_
  refine wp_bipush dX8_atom0_3 (by decide) (by decide) ?_
  refine wp_callV0 (d' := d - 1) cv_RX8_222 69 rfl [(0, 45)] [] rfl rfl (Or.inl ⟨_, _, rfl, by decide, rfl, by omega, by omega⟩) (by omega) (Nat.le_of_ble_eq_true rfl) dX8_atom0_5 rfl (Nat.le_of_ble_eq_true rfl) (by omega) (loc1 := [(2, 69), (0, 45)]) rfl ?_
  refine sp_isSd hn hD ?_
  refine wp_if_eq (tgt := 37) dX8_atom0_8 (by decide) (fun _ => ?_) (fun h => absurd h (by decide))
  refine wp_aload_n dX8_atom0_37 rfl rfl ?_
  refine wp_bipush dX8_atom0_38 (by decide) (by decide) ?_
  refine wp_callV0 (d' := d - 1) cv_RX8_222 69 rfl [(0, 40)] [] rfl rfl (Or.inl ⟨_, _, rfl, by decide, rfl, by omega, by omega⟩) (by omega) (Nat.le_of_ble_eq_true rfl) dX8_atom0_40 rfl (Nat.le_of_ble_eq_true rfl) (by omega) (loc1 := [(2, 69), (0, 40)]) rfl ?_
  refine sp_isSd hn hD ?_
  refine wp_if_eq (tgt := 95) dX8_atom0_43 (by decide) (fun _ => ?_) (fun h => absurd h (by decide))
  refine wp_aload_n dX8_atom0_95 rfl rfl ?_
  refine wp_get 69 rfl fl_RX8_181 rfl ⟨by omega, by omega⟩ dX8_atom0_96 rfl (v := 1) (hD.2.2.1) ?_
  refine wp_if_ne (tgt := 123) dX8_atom0_99 (by decide) (fun _ => ?_) (fun h => absurd h (by decide))
  refine wp_aload_n dX8_atom0_123 rfl rfl ?_
  refine wp_get 69 rfl fl_RX8_181 rfl ⟨by omega, by omega⟩ dX8_atom0_124 rfl (v := 1) (hD.2.2.1) ?_
  refine wp_if_ne (tgt := 157) dX8_atom0_127 (by decide) (fun _ => ?_) (fun h => absurd h (by decide))
  refine wp_aload_n dX8_atom0_157 rfl rfl ?_
  refine wp_callV0 (d' := d - 1) cv_RX8_194 69 rfl [] [] rfl rfl (Or.inl ⟨_, _, rfl, by decide, rfl, by omega, by omega⟩) (by omega) (Nat.le_of_ble_eq_true rfl) dX8_atom0_158 rfl (Nat.le_of_ble_eq_true rfl) (by omega) (loc1 := [(2, 69)]) rfl ?_
  refine sp_failmD hn hD ?_
  refine wp_iload_n dX8_atom0_161 rfl rfl ?_
  refine wp_iret rfl dX8_atom0_162 ?_
  exact k _ _ ((Fr.rf : Fr VMr M0 M0)) hD
set_option maxRecDepth 20000 in
set_option maxHeartbeats 4000000 in
theorem cmd_term0 {l : Launch} {g : Gw} {n : Nat} (hn : 90 ≤ n) {t : Nat} {f : Nat → Int} {z : Int} {e : Int → Int} : CMd' l g n t f z e m_X8_term0 [(9, 0)] 7 := by
  intro d M0 Q p o hd hD k
  refine wp_aload_n dX8_term0_0 rfl rfl ?_
  refine wp_callV0 (d' := d - 1) cv_RX8_327 69 rfl [] [] rfl rfl (Or.inl ⟨_, _, rfl, by decide, rfl, by omega, by omega⟩) (by omega) (Nat.le_of_ble_eq_true rfl) dX8_term0_1 rfl (Nat.le_of_ble_eq_true rfl) (by omega) (loc1 := [(2, 69), (9, 0)]) rfl ?_
  refine (cmd_atom0 hn) _ _ _ _ _ (by omega) hD (fun M1 w1 f1 D1 => ?_)
  have F1 := ((Fr.rf : Fr VMr M0 M0)).tr f1
  refine wp_istore_n (loc' := [(2, 69), (0, w1)]) dX8_term0_4 rfl (Nat.le_of_ble_eq_true rfl) rfl ?_
  refine wp_aload_n dX8_term0_5 rfl rfl ?_
  refine wp_bipush dX8_term0_6 (by decide) (by decide) ?_
  refine wp_callV0 (d' := d - 1) cv_RX8_222 69 rfl [(0, 42)] [] rfl rfl (Or.inl ⟨_, _, rfl, by decide, rfl, by omega, by omega⟩) (by omega) (Nat.le_of_ble_eq_true rfl) dX8_term0_8 rfl (Nat.le_of_ble_eq_true rfl) (by omega) (loc1 := [(2, 69), (0, 42)]) rfl ?_
  refine sp_isSd hn D1 ?_
  refine wp_if_eq (tgt := 28) dX8_term0_11 (by decide) (fun _ => ?_) (fun h => absurd h (by decide))
  refine wp_iload_n dX8_term0_28 rfl rfl ?_
  refine wp_iret rfl dX8_term0_29 ?_
  exact k _ _ (F1) D1
set_option maxRecDepth 20000 in
set_option maxHeartbeats 4000000 in
theorem lqd_term0 {l : Launch} {g : Gw} {n : Nat} (hn : 90 ≤ n) {t : Nat} {f : Nat → Int} {z : Int} {e : Int → Int} {d : Nat} (hd : 2 ≤ d) {M0 : Mm} {Q : Option Wd → Mm → Prop} {p : Nat} {o v : Int} (hD : DJm M0 t f z p o e) (k : ∀ M' w, Fr VMr M0 M' → DJm M' t f z p o e → Q (some (0, w)) M') : Wp l g d 0 0 n m_X8_term0 5 [] [(2, 69), (0, v)] M0 Q := by
  refine wp_aload_n dX8_term0_5 rfl rfl ?_
  refine wp_bipush dX8_term0_6 (by decide) (by decide) ?_
  refine wp_callV0 (d' := d - 1) cv_RX8_222 69 rfl [(0, 42)] [] rfl rfl (Or.inl ⟨_, _, rfl, by decide, rfl, by omega, by omega⟩) (by omega) (Nat.le_of_ble_eq_true rfl) dX8_term0_8 rfl (Nat.le_of_ble_eq_true rfl) (by omega) (loc1 := [(2, 69), (0, 42)]) rfl ?_
  refine sp_isSd hn hD ?_
  refine wp_if_eq (tgt := 28) dX8_term0_11 (by decide) (fun _ => ?_) (fun h => absurd h (by decide))
  refine wp_iload_n dX8_term0_28 rfl rfl ?_
  refine wp_iret rfl dX8_term0_29 ?_
  exact k _ _ ((Fr.rf : Fr VMr M0 M0)) hD
set_option maxRecDepth 20000 in
set_option maxHeartbeats 4000000 in
theorem cmd_added0 {l : Launch} {g : Gw} {n : Nat} (hn : 90 ≤ n) {t : Nat} {f : Nat → Int} {z : Int} {e : Int → Int} : CMd' l g n t f z e m_X8_added0 [(9, 0), (9, 0), (9, 0)] 8 := by
  intro d M0 Q p o hd hD k
  refine wp_aload_n dX8_added0_0 rfl rfl ?_
  refine wp_callV0 (d' := d - 1) cv_RX8_330 69 rfl [] [] rfl rfl (Or.inl ⟨_, _, rfl, by decide, rfl, by omega, by omega⟩) (by omega) (Nat.le_of_ble_eq_true rfl) dX8_added0_1 rfl (Nat.le_of_ble_eq_true rfl) (by omega) (loc1 := [(2, 69), (9, 0)]) rfl ?_
  refine (cmd_term0 hn) _ _ _ _ _ (by omega) hD (fun M1 w1 f1 D1 => ?_)
  have F1 := ((Fr.rf : Fr VMr M0 M0)).tr f1
  refine wp_istore_n (loc' := [(2, 69), (0, w1), (9, 0), (9, 0)]) dX8_added0_4 rfl (Nat.le_of_ble_eq_true rfl) rfl ?_
  refine wp_aload_n dX8_added0_5 rfl rfl ?_
  refine wp_bipush dX8_added0_6 (by decide) (by decide) ?_
  refine wp_callV0 (d' := d - 1) cv_RX8_222 69 rfl [(0, 43)] [] rfl rfl (Or.inl ⟨_, _, rfl, by decide, rfl, by omega, by omega⟩) (by omega) (Nat.le_of_ble_eq_true rfl) dX8_added0_8 rfl (Nat.le_of_ble_eq_true rfl) (by omega) (loc1 := [(2, 69), (0, 43)]) rfl ?_
  refine sp_isSd hn D1 ?_
  refine wp_if_ne (tgt := 23) dX8_added0_11 (by decide) (fun h => absurd h (by decide)) (fun _ => ?_)
  refine wp_aload_n dX8_added0_14 rfl rfl ?_
  refine wp_bipush dX8_added0_15 (by decide) (by decide) ?_
  refine wp_callV0 (d' := d - 1) cv_RX8_222 69 rfl [(0, 45)] [] rfl rfl (Or.inl ⟨_, _, rfl, by decide, rfl, by omega, by omega⟩) (by omega) (Nat.le_of_ble_eq_true rfl) dX8_added0_17 rfl (Nat.le_of_ble_eq_true rfl) (by omega) (loc1 := [(2, 69), (0, 45)]) rfl ?_
  refine sp_isSd hn D1 ?_
  refine wp_if_eq (tgt := 66) dX8_added0_20 (by decide) (fun _ => ?_) (fun h => absurd h (by decide))
  refine wp_iload_n dX8_added0_66 rfl rfl ?_
  refine wp_iret rfl dX8_added0_67 ?_
  exact k _ _ (F1) D1
set_option maxRecDepth 20000 in
set_option maxHeartbeats 4000000 in
theorem lqd_added0 {l : Launch} {g : Gw} {n : Nat} (hn : 90 ≤ n) {t : Nat} {f : Nat → Int} {z : Int} {e : Int → Int} {d : Nat} (hd : 2 ≤ d) {M0 : Mm} {Q : Option Wd → Mm → Prop} {p : Nat} {o v : Int} {u2 : Wd} {u3 : Wd} (hD : DJm M0 t f z p o e) (k : ∀ M' w, Fr VMr M0 M' → DJm M' t f z p o e → Q (some (0, w)) M') : Wp l g d 0 0 n m_X8_added0 5 [] [(2, 69), (0, v), u2, u3] M0 Q := by
  refine wp_aload_n dX8_added0_5 rfl rfl ?_
  refine wp_bipush dX8_added0_6 (by decide) (by decide) ?_
  refine wp_callV0 (d' := d - 1) cv_RX8_222 69 rfl [(0, 43)] [] rfl rfl (Or.inl ⟨_, _, rfl, by decide, rfl, by omega, by omega⟩) (by omega) (Nat.le_of_ble_eq_true rfl) dX8_added0_8 rfl (Nat.le_of_ble_eq_true rfl) (by omega) (loc1 := [(2, 69), (0, 43)]) rfl ?_
  refine sp_isSd hn hD ?_
  refine wp_if_ne (tgt := 23) dX8_added0_11 (by decide) (fun h => absurd h (by decide)) (fun _ => ?_)
  refine wp_aload_n dX8_added0_14 rfl rfl ?_
  refine wp_bipush dX8_added0_15 (by decide) (by decide) ?_
  refine wp_callV0 (d' := d - 1) cv_RX8_222 69 rfl [(0, 45)] [] rfl rfl (Or.inl ⟨_, _, rfl, by decide, rfl, by omega, by omega⟩) (by omega) (Nat.le_of_ble_eq_true rfl) dX8_added0_17 rfl (Nat.le_of_ble_eq_true rfl) (by omega) (loc1 := [(2, 69), (0, 45)]) rfl ?_
  refine sp_isSd hn hD ?_
  refine wp_if_eq (tgt := 66) dX8_added0_20 (by decide) (fun _ => ?_) (fun h => absurd h (by decide))
  refine wp_iload_n dX8_added0_66 rfl rfl ?_
  refine wp_iret rfl dX8_added0_67 ?_
  exact k _ _ ((Fr.rf : Fr VMr M0 M0)) hD
set_option maxRecDepth 20000 in
set_option maxHeartbeats 4000000 in
theorem cmd_not0 {l : Launch} {g : Gw} {n : Nat} (hn : 90 ≤ n) {t : Nat} {f : Nat → Int} {z : Int} {e : Int → Int} : CMd' l g n t f z e m_X8_not0 [(9, 0), (9, 0), (9, 0)] 9 := by
  intro d M0 Q p o hd hD k
  refine wp_aload_n dX8_not0_0 rfl rfl ?_
  refine wp_bipush dX8_not0_1 (by decide) (by decide) ?_
  refine wp_bipush dX8_not0_3 (by decide) (by decide) ?_
  refine wp_bipush dX8_not0_5 (by decide) (by decide) ?_
  refine wp_iconst dX8_not0_7 (by decide) ?_
  refine wp_iconst dX8_not0_8 (by decide) ?_
  refine wp_iconst dX8_not0_9 (by decide) ?_
  refine wp_iconst dX8_not0_10 (by decide) ?_
  refine wp_iconst dX8_not0_11 (by decide) ?_
  refine wp_callV0 (d' := d - 1) cv_RX8_200 69 rfl [(0, 110), (0, 111), (0, 116), (0, 0), (0, 0), (0, 0), (0, 0), (0, 0)] [] rfl rfl (Or.inl ⟨_, _, rfl, by decide, rfl, by omega, by omega⟩) (by omega) (Nat.le_of_ble_eq_true rfl) dX8_not0_12 rfl (Nat.le_of_ble_eq_true rfl) (by omega) (loc1 := [(2, 69), (0, 110), (0, 111), (0, 116), (0, 0), (0, 0), (0, 0), (0, 0), (0, 0)]) rfl ?_
  refine sp_isWd hn hD ?_
  refine wp_if_eq (tgt := 52) dX8_not0_15 (by decide) (fun _ => ?_) (fun h => absurd h (by decide))
  refine wp_aload_n dX8_not0_52 rfl rfl ?_
  refine wp_callV0 (d' := d - 1) cv_RX8_333 69 rfl [] [] rfl rfl (Or.inl ⟨_, _, rfl, by decide, rfl, by omega, by omega⟩) (by omega) (Nat.le_of_ble_eq_true rfl) dX8_not0_53 rfl (Nat.le_of_ble_eq_true rfl) (by omega) (loc1 := [(2, 69), (9, 0), (9, 0), (9, 0)]) rfl ?_
  refine (cmd_added0 hn) _ _ _ _ _ (by omega) hD (fun M2 w2 f2 D2 => ?_)
  have F2 := ((Fr.rf : Fr VMr M0 M0)).tr f2
  refine wp_istore_n (loc' := [(2, 69), (0, w2), (9, 0), (9, 0)]) dX8_not0_56 rfl (Nat.le_of_ble_eq_true rfl) rfl ?_
  refine wp_aload_n dX8_not0_57 rfl rfl ?_
  refine wp_bipush dX8_not0_58 (by decide) (by decide) ?_
  refine wp_callV0 (d' := d - 1) cv_RX8_222 69 rfl [(0, 60)] [] rfl rfl (Or.inl ⟨_, _, rfl, by decide, rfl, by omega, by omega⟩) (by omega) (Nat.le_of_ble_eq_true rfl) dX8_not0_60 rfl (Nat.le_of_ble_eq_true rfl) (by omega) (loc1 := [(2, 69), (0, 60)]) rfl ?_
  refine sp_isSd hn D2 ?_
  refine wp_if_ne (tgt := 77) dX8_not0_63 (by decide) (fun h => absurd h (by decide)) (fun _ => ?_)
  refine wp_aload_n dX8_not0_66 rfl rfl ?_
  refine wp_bipush dX8_not0_67 (by decide) (by decide) ?_
  refine wp_callV0 (d' := d - 1) cv_RX8_222 69 rfl [(0, 61)] [] rfl rfl (Or.inl ⟨_, _, rfl, by decide, rfl, by omega, by omega⟩) (by omega) (Nat.le_of_ble_eq_true rfl) dX8_not0_69 rfl (Nat.le_of_ble_eq_true rfl) (by omega) (loc1 := [(2, 69), (0, 61)]) rfl ?_
  refine sp_isSd hn D2 ?_
  refine wp_if_ne (tgt := 77) dX8_not0_72 (by decide) (fun h => absurd h (by decide)) (fun _ => ?_)
  refine wp_iload_n dX8_not0_75 rfl rfl ?_
  refine wp_iret rfl dX8_not0_76 ?_
  exact k _ _ (F2) D2
set_option maxRecDepth 20000 in
set_option maxHeartbeats 4000000 in
theorem cmd_both0 {l : Launch} {g : Gw} {n : Nat} (hn : 90 ≤ n) {t : Nat} {f : Nat → Int} {z : Int} {e : Int → Int} : CMd' l g n t f z e m_X8_both0 [(9, 0), (9, 0)] 10 := by
  intro d M0 Q p o hd hD k
  refine wp_aload_n dX8_both0_0 rfl rfl ?_
  refine wp_callV0 (d' := d - 1) cv_RX8_336 69 rfl [] [] rfl rfl (Or.inl ⟨_, _, rfl, by decide, rfl, by omega, by omega⟩) (by omega) (Nat.le_of_ble_eq_true rfl) dX8_both0_1 rfl (Nat.le_of_ble_eq_true rfl) (by omega) (loc1 := [(2, 69), (9, 0), (9, 0), (9, 0)]) rfl ?_
  refine (cmd_not0 hn) _ _ _ _ _ (by omega) hD (fun M1 w1 f1 D1 => ?_)
  have F1 := ((Fr.rf : Fr VMr M0 M0)).tr f1
  refine wp_istore_n (loc' := [(2, 69), (0, w1), (9, 0)]) dX8_both0_4 rfl (Nat.le_of_ble_eq_true rfl) rfl ?_
  refine wp_aload_n dX8_both0_5 rfl rfl ?_
  refine wp_bipush dX8_both0_6 (by decide) (by decide) ?_
  refine wp_bipush dX8_both0_8 (by decide) (by decide) ?_
  refine wp_bipush dX8_both0_10 (by decide) (by decide) ?_
  refine wp_iconst dX8_both0_12 (by decide) ?_
  refine wp_iconst dX8_both0_13 (by decide) ?_
  refine wp_iconst dX8_both0_14 (by decide) ?_
  refine wp_iconst dX8_both0_15 (by decide) ?_
  refine wp_iconst dX8_both0_16 (by decide) ?_
  refine wp_callV0 (d' := d - 1) cv_RX8_200 69 rfl [(0, 97), (0, 110), (0, 100), (0, 0), (0, 0), (0, 0), (0, 0), (0, 0)] [] rfl rfl (Or.inl ⟨_, _, rfl, by decide, rfl, by omega, by omega⟩) (by omega) (Nat.le_of_ble_eq_true rfl) dX8_both0_17 rfl (Nat.le_of_ble_eq_true rfl) (by omega) (loc1 := [(2, 69), (0, 97), (0, 110), (0, 100), (0, 0), (0, 0), (0, 0), (0, 0), (0, 0)]) rfl ?_
  refine sp_isWd hn D1 ?_
  refine wp_if_eq (tgt := 49) dX8_both0_20 (by decide) (fun _ => ?_) (fun h => absurd h (by decide))
  refine wp_iload_n dX8_both0_49 rfl rfl ?_
  refine wp_iret rfl dX8_both0_50 ?_
  exact k _ _ (F1) D1
set_option maxRecDepth 20000 in
set_option maxHeartbeats 4000000 in
theorem lqd_both0 {l : Launch} {g : Gw} {n : Nat} (hn : 90 ≤ n) {t : Nat} {f : Nat → Int} {z : Int} {e : Int → Int} {d : Nat} (hd : 2 ≤ d) {M0 : Mm} {Q : Option Wd → Mm → Prop} {p : Nat} {o v : Int} {u2 : Wd} (hD : DJm M0 t f z p o e) (k : ∀ M' w, Fr VMr M0 M' → DJm M' t f z p o e → Q (some (0, w)) M') : Wp l g d 0 0 n m_X8_both0 5 [] [(2, 69), (0, v), u2] M0 Q := by
  refine wp_aload_n dX8_both0_5 rfl rfl ?_
  refine wp_bipush dX8_both0_6 (by decide) (by decide) ?_
  refine wp_bipush dX8_both0_8 (by decide) (by decide) ?_
  refine wp_bipush dX8_both0_10 (by decide) (by decide) ?_
  refine wp_iconst dX8_both0_12 (by decide) ?_
  refine wp_iconst dX8_both0_13 (by decide) ?_
  refine wp_iconst dX8_both0_14 (by decide) ?_
  refine wp_iconst dX8_both0_15 (by decide) ?_
  refine wp_iconst dX8_both0_16 (by decide) ?_
  refine wp_callV0 (d' := d - 1) cv_RX8_200 69 rfl [(0, 97), (0, 110), (0, 100), (0, 0), (0, 0), (0, 0), (0, 0), (0, 0)] [] rfl rfl (Or.inl ⟨_, _, rfl, by decide, rfl, by omega, by omega⟩) (by omega) (Nat.le_of_ble_eq_true rfl) dX8_both0_17 rfl (Nat.le_of_ble_eq_true rfl) (by omega) (loc1 := [(2, 69), (0, 97), (0, 110), (0, 100), (0, 0), (0, 0), (0, 0), (0, 0), (0, 0)]) rfl ?_
  refine sp_isWd hn hD ?_
  refine wp_if_eq (tgt := 49) dX8_both0_20 (by decide) (fun _ => ?_) (fun h => absurd h (by decide))
  refine wp_iload_n dX8_both0_49 rfl rfl ?_
  refine wp_iret rfl dX8_both0_50 ?_
  exact k _ _ ((Fr.rf : Fr VMr M0 M0)) hD
set_option maxRecDepth 20000 in
set_option maxHeartbeats 4000000 in
theorem cmd_either0 {l : Launch} {g : Gw} {n : Nat} (hn : 90 ≤ n) {t : Nat} {f : Nat → Int} {z : Int} {e : Int → Int} : CMd' l g n t f z e m_X8_either0 [(9, 0), (9, 0)] 11 := by
  intro d M0 Q p o hd hD k
  refine wp_aload_n dX8_either0_0 rfl rfl ?_
  refine wp_callV0 (d' := d - 1) cv_RX8_339 69 rfl [] [] rfl rfl (Or.inl ⟨_, _, rfl, by decide, rfl, by omega, by omega⟩) (by omega) (Nat.le_of_ble_eq_true rfl) dX8_either0_1 rfl (Nat.le_of_ble_eq_true rfl) (by omega) (loc1 := [(2, 69), (9, 0), (9, 0)]) rfl ?_
  refine (cmd_both0 hn) _ _ _ _ _ (by omega) hD (fun M1 w1 f1 D1 => ?_)
  have F1 := ((Fr.rf : Fr VMr M0 M0)).tr f1
  refine wp_istore_n (loc' := [(2, 69), (0, w1), (9, 0)]) dX8_either0_4 rfl (Nat.le_of_ble_eq_true rfl) rfl ?_
  refine wp_aload_n dX8_either0_5 rfl rfl ?_
  refine wp_bipush dX8_either0_6 (by decide) (by decide) ?_
  refine wp_bipush dX8_either0_8 (by decide) (by decide) ?_
  refine wp_iconst dX8_either0_10 (by decide) ?_
  refine wp_iconst dX8_either0_11 (by decide) ?_
  refine wp_iconst dX8_either0_12 (by decide) ?_
  refine wp_iconst dX8_either0_13 (by decide) ?_
  refine wp_iconst dX8_either0_14 (by decide) ?_
  refine wp_iconst dX8_either0_15 (by decide) ?_
  refine wp_callV0 (d' := d - 1) cv_RX8_200 69 rfl [(0, 111), (0, 114), (0, 0), (0, 0), (0, 0), (0, 0), (0, 0), (0, 0)] [] rfl rfl (Or.inl ⟨_, _, rfl, by decide, rfl, by omega, by omega⟩) (by omega) (Nat.le_of_ble_eq_true rfl) dX8_either0_16 rfl (Nat.le_of_ble_eq_true rfl) (by omega) (loc1 := [(2, 69), (0, 111), (0, 114), (0, 0), (0, 0), (0, 0), (0, 0), (0, 0), (0, 0)]) rfl ?_
  refine sp_isWd hn D1 ?_
  refine wp_if_eq (tgt := 48) dX8_either0_19 (by decide) (fun _ => ?_) (fun h => absurd h (by decide))
  refine wp_iload_n dX8_either0_48 rfl rfl ?_
  refine wp_iret rfl dX8_either0_49 ?_
  exact k _ _ (F1) D1
set_option maxRecDepth 20000 in
set_option maxHeartbeats 4000000 in
theorem lqd_either0 {l : Launch} {g : Gw} {n : Nat} (hn : 90 ≤ n) {t : Nat} {f : Nat → Int} {z : Int} {e : Int → Int} {d : Nat} (hd : 2 ≤ d) {M0 : Mm} {Q : Option Wd → Mm → Prop} {p : Nat} {o v : Int} {u2 : Wd} (hD : DJm M0 t f z p o e) (k : ∀ M' w, Fr VMr M0 M' → DJm M' t f z p o e → Q (some (0, w)) M') : Wp l g d 0 0 n m_X8_either0 5 [] [(2, 69), (0, v), u2] M0 Q := by
  refine wp_aload_n dX8_either0_5 rfl rfl ?_
  refine wp_bipush dX8_either0_6 (by decide) (by decide) ?_
  refine wp_bipush dX8_either0_8 (by decide) (by decide) ?_
  refine wp_iconst dX8_either0_10 (by decide) ?_
  refine wp_iconst dX8_either0_11 (by decide) ?_
  refine wp_iconst dX8_either0_12 (by decide) ?_
  refine wp_iconst dX8_either0_13 (by decide) ?_
  refine wp_iconst dX8_either0_14 (by decide) ?_
  refine wp_iconst dX8_either0_15 (by decide) ?_
  refine wp_callV0 (d' := d - 1) cv_RX8_200 69 rfl [(0, 111), (0, 114), (0, 0), (0, 0), (0, 0), (0, 0), (0, 0), (0, 0)] [] rfl rfl (Or.inl ⟨_, _, rfl, by decide, rfl, by omega, by omega⟩) (by omega) (Nat.le_of_ble_eq_true rfl) dX8_either0_16 rfl (Nat.le_of_ble_eq_true rfl) (by omega) (loc1 := [(2, 69), (0, 111), (0, 114), (0, 0), (0, 0), (0, 0), (0, 0), (0, 0), (0, 0)]) rfl ?_
  refine sp_isWd hn hD ?_
  refine wp_if_eq (tgt := 48) dX8_either0_19 (by decide) (fun _ => ?_) (fun h => absurd h (by decide))
  refine wp_iload_n dX8_either0_48 rfl rfl ?_
  refine wp_iret rfl dX8_either0_49 ?_
  exact k _ _ ((Fr.rf : Fr VMr M0 M0)) hD
set_option maxRecDepth 20000 in
set_option maxHeartbeats 4000000 in
theorem cmd_atom1 {l : Launch} {g : Gw} {n : Nat} (hn : 90 ≤ n) {t : Nat} {f : Nat → Int} {z : Int} {e : Int → Int} : CMd' l g n t f z e m_X8_atom1 [(9, 0)] 6 := by
  intro d M0 Q p o hd hD k
  refine wp_iconst dX8_atom1_0 (by decide) ?_
  refine wp_istore_n (loc' := [(2, 69), (0, 0)]) dX8_atom1_1 rfl (Nat.le_of_ble_eq_true rfl) rfl ?_
  refine wp_aload_n dX8_atom1_2 rfl rfl ?_
  refine wp_bipush dX8_atom1_3 (by decide) (by decide) ?_
  refine wp_callV0 (d' := d - 1) cv_RX8_222 69 rfl [(0, 45)] [] rfl rfl (Or.inl ⟨_, _, rfl, by decide, rfl, by omega, by omega⟩) (by omega) (Nat.le_of_ble_eq_true rfl) dX8_atom1_5 rfl (Nat.le_of_ble_eq_true rfl) (by omega) (loc1 := [(2, 69), (0, 45)]) rfl ?_
  refine sp_isSd hn hD ?_
  refine wp_if_eq (tgt := 37) dX8_atom1_8 (by decide) (fun _ => ?_) (fun h => absurd h (by decide))
  refine wp_aload_n dX8_atom1_37 rfl rfl ?_
  refine wp_bipush dX8_atom1_38 (by decide) (by decide) ?_
  refine wp_callV0 (d' := d - 1) cv_RX8_222 69 rfl [(0, 40)] [] rfl rfl (Or.inl ⟨_, _, rfl, by decide, rfl, by omega, by omega⟩) (by omega) (Nat.le_of_ble_eq_true rfl) dX8_atom1_40 rfl (Nat.le_of_ble_eq_true rfl) (by omega) (loc1 := [(2, 69), (0, 40)]) rfl ?_
  refine sp_isSd hn hD ?_
  refine wp_if_eq (tgt := 95) dX8_atom1_43 (by decide) (fun _ => ?_) (fun h => absurd h (by decide))
  refine wp_aload_n dX8_atom1_95 rfl rfl ?_
  refine wp_get 69 rfl fl_RX8_181 rfl ⟨by omega, by omega⟩ dX8_atom1_96 rfl (v := 1) (hD.2.2.1) ?_
  refine wp_if_ne (tgt := 123) dX8_atom1_99 (by decide) (fun _ => ?_) (fun h => absurd h (by decide))
  refine wp_aload_n dX8_atom1_123 rfl rfl ?_
  refine wp_get 69 rfl fl_RX8_181 rfl ⟨by omega, by omega⟩ dX8_atom1_124 rfl (v := 1) (hD.2.2.1) ?_
  refine wp_if_ne (tgt := 157) dX8_atom1_127 (by decide) (fun _ => ?_) (fun h => absurd h (by decide))
  refine wp_aload_n dX8_atom1_157 rfl rfl ?_
  refine wp_callV0 (d' := d - 1) cv_RX8_194 69 rfl [] [] rfl rfl (Or.inl ⟨_, _, rfl, by decide, rfl, by omega, by omega⟩) (by omega) (Nat.le_of_ble_eq_true rfl) dX8_atom1_158 rfl (Nat.le_of_ble_eq_true rfl) (by omega) (loc1 := [(2, 69)]) rfl ?_
  refine sp_failmD hn hD ?_
  refine wp_iload_n dX8_atom1_161 rfl rfl ?_
  refine wp_iret rfl dX8_atom1_162 ?_
  exact k _ _ ((Fr.rf : Fr VMr M0 M0)) hD
set_option maxRecDepth 20000 in
set_option maxHeartbeats 4000000 in
theorem cmd_term1 {l : Launch} {g : Gw} {n : Nat} (hn : 90 ≤ n) {t : Nat} {f : Nat → Int} {z : Int} {e : Int → Int} : CMd' l g n t f z e m_X8_term1 [(9, 0)] 7 := by
  intro d M0 Q p o hd hD k
  refine wp_aload_n dX8_term1_0 rfl rfl ?_
  refine wp_callV0 (d' := d - 1) cv_RX8_309 69 rfl [] [] rfl rfl (Or.inl ⟨_, _, rfl, by decide, rfl, by omega, by omega⟩) (by omega) (Nat.le_of_ble_eq_true rfl) dX8_term1_1 rfl (Nat.le_of_ble_eq_true rfl) (by omega) (loc1 := [(2, 69), (9, 0)]) rfl ?_
  refine (cmd_atom1 hn) _ _ _ _ _ (by omega) hD (fun M1 w1 f1 D1 => ?_)
  have F1 := ((Fr.rf : Fr VMr M0 M0)).tr f1
  refine wp_istore_n (loc' := [(2, 69), (0, w1)]) dX8_term1_4 rfl (Nat.le_of_ble_eq_true rfl) rfl ?_
  refine wp_aload_n dX8_term1_5 rfl rfl ?_
  refine wp_bipush dX8_term1_6 (by decide) (by decide) ?_
  refine wp_callV0 (d' := d - 1) cv_RX8_222 69 rfl [(0, 42)] [] rfl rfl (Or.inl ⟨_, _, rfl, by decide, rfl, by omega, by omega⟩) (by omega) (Nat.le_of_ble_eq_true rfl) dX8_term1_8 rfl (Nat.le_of_ble_eq_true rfl) (by omega) (loc1 := [(2, 69), (0, 42)]) rfl ?_
  refine sp_isSd hn D1 ?_
  refine wp_if_eq (tgt := 28) dX8_term1_11 (by decide) (fun _ => ?_) (fun h => absurd h (by decide))
  refine wp_iload_n dX8_term1_28 rfl rfl ?_
  refine wp_iret rfl dX8_term1_29 ?_
  exact k _ _ (F1) D1
set_option maxRecDepth 20000 in
set_option maxHeartbeats 4000000 in
theorem lqd_term1 {l : Launch} {g : Gw} {n : Nat} (hn : 90 ≤ n) {t : Nat} {f : Nat → Int} {z : Int} {e : Int → Int} {d : Nat} (hd : 2 ≤ d) {M0 : Mm} {Q : Option Wd → Mm → Prop} {p : Nat} {o v : Int} (hD : DJm M0 t f z p o e) (k : ∀ M' w, Fr VMr M0 M' → DJm M' t f z p o e → Q (some (0, w)) M') : Wp l g d 0 0 n m_X8_term1 5 [] [(2, 69), (0, v)] M0 Q := by
  refine wp_aload_n dX8_term1_5 rfl rfl ?_
  refine wp_bipush dX8_term1_6 (by decide) (by decide) ?_
  refine wp_callV0 (d' := d - 1) cv_RX8_222 69 rfl [(0, 42)] [] rfl rfl (Or.inl ⟨_, _, rfl, by decide, rfl, by omega, by omega⟩) (by omega) (Nat.le_of_ble_eq_true rfl) dX8_term1_8 rfl (Nat.le_of_ble_eq_true rfl) (by omega) (loc1 := [(2, 69), (0, 42)]) rfl ?_
  refine sp_isSd hn hD ?_
  refine wp_if_eq (tgt := 28) dX8_term1_11 (by decide) (fun _ => ?_) (fun h => absurd h (by decide))
  refine wp_iload_n dX8_term1_28 rfl rfl ?_
  refine wp_iret rfl dX8_term1_29 ?_
  exact k _ _ ((Fr.rf : Fr VMr M0 M0)) hD
set_option maxRecDepth 20000 in
set_option maxHeartbeats 4000000 in
theorem cmd_added1 {l : Launch} {g : Gw} {n : Nat} (hn : 90 ≤ n) {t : Nat} {f : Nat → Int} {z : Int} {e : Int → Int} : CMd' l g n t f z e m_X8_added1 [(9, 0), (9, 0), (9, 0)] 8 := by
  intro d M0 Q p o hd hD k
  refine wp_aload_n dX8_added1_0 rfl rfl ?_
  refine wp_callV0 (d' := d - 1) cv_RX8_312 69 rfl [] [] rfl rfl (Or.inl ⟨_, _, rfl, by decide, rfl, by omega, by omega⟩) (by omega) (Nat.le_of_ble_eq_true rfl) dX8_added1_1 rfl (Nat.le_of_ble_eq_true rfl) (by omega) (loc1 := [(2, 69), (9, 0)]) rfl ?_
  refine (cmd_term1 hn) _ _ _ _ _ (by omega) hD (fun M1 w1 f1 D1 => ?_)
  have F1 := ((Fr.rf : Fr VMr M0 M0)).tr f1
  refine wp_istore_n (loc' := [(2, 69), (0, w1), (9, 0), (9, 0)]) dX8_added1_4 rfl (Nat.le_of_ble_eq_true rfl) rfl ?_
  refine wp_aload_n dX8_added1_5 rfl rfl ?_
  refine wp_bipush dX8_added1_6 (by decide) (by decide) ?_
  refine wp_callV0 (d' := d - 1) cv_RX8_222 69 rfl [(0, 43)] [] rfl rfl (Or.inl ⟨_, _, rfl, by decide, rfl, by omega, by omega⟩) (by omega) (Nat.le_of_ble_eq_true rfl) dX8_added1_8 rfl (Nat.le_of_ble_eq_true rfl) (by omega) (loc1 := [(2, 69), (0, 43)]) rfl ?_
  refine sp_isSd hn D1 ?_
  refine wp_if_ne (tgt := 23) dX8_added1_11 (by decide) (fun h => absurd h (by decide)) (fun _ => ?_)
  refine wp_aload_n dX8_added1_14 rfl rfl ?_
  refine wp_bipush dX8_added1_15 (by decide) (by decide) ?_
  refine wp_callV0 (d' := d - 1) cv_RX8_222 69 rfl [(0, 45)] [] rfl rfl (Or.inl ⟨_, _, rfl, by decide, rfl, by omega, by omega⟩) (by omega) (Nat.le_of_ble_eq_true rfl) dX8_added1_17 rfl (Nat.le_of_ble_eq_true rfl) (by omega) (loc1 := [(2, 69), (0, 45)]) rfl ?_
  refine sp_isSd hn D1 ?_
  refine wp_if_eq (tgt := 66) dX8_added1_20 (by decide) (fun _ => ?_) (fun h => absurd h (by decide))
  refine wp_iload_n dX8_added1_66 rfl rfl ?_
  refine wp_iret rfl dX8_added1_67 ?_
  exact k _ _ (F1) D1
set_option maxRecDepth 20000 in
set_option maxHeartbeats 4000000 in
theorem lqd_added1 {l : Launch} {g : Gw} {n : Nat} (hn : 90 ≤ n) {t : Nat} {f : Nat → Int} {z : Int} {e : Int → Int} {d : Nat} (hd : 2 ≤ d) {M0 : Mm} {Q : Option Wd → Mm → Prop} {p : Nat} {o v : Int} {u2 : Wd} {u3 : Wd} (hD : DJm M0 t f z p o e) (k : ∀ M' w, Fr VMr M0 M' → DJm M' t f z p o e → Q (some (0, w)) M') : Wp l g d 0 0 n m_X8_added1 5 [] [(2, 69), (0, v), u2, u3] M0 Q := by
  refine wp_aload_n dX8_added1_5 rfl rfl ?_
  refine wp_bipush dX8_added1_6 (by decide) (by decide) ?_
  refine wp_callV0 (d' := d - 1) cv_RX8_222 69 rfl [(0, 43)] [] rfl rfl (Or.inl ⟨_, _, rfl, by decide, rfl, by omega, by omega⟩) (by omega) (Nat.le_of_ble_eq_true rfl) dX8_added1_8 rfl (Nat.le_of_ble_eq_true rfl) (by omega) (loc1 := [(2, 69), (0, 43)]) rfl ?_
  refine sp_isSd hn hD ?_
  refine wp_if_ne (tgt := 23) dX8_added1_11 (by decide) (fun h => absurd h (by decide)) (fun _ => ?_)
  refine wp_aload_n dX8_added1_14 rfl rfl ?_
  refine wp_bipush dX8_added1_15 (by decide) (by decide) ?_
  refine wp_callV0 (d' := d - 1) cv_RX8_222 69 rfl [(0, 45)] [] rfl rfl (Or.inl ⟨_, _, rfl, by decide, rfl, by omega, by omega⟩) (by omega) (Nat.le_of_ble_eq_true rfl) dX8_added1_17 rfl (Nat.le_of_ble_eq_true rfl) (by omega) (loc1 := [(2, 69), (0, 45)]) rfl ?_
  refine sp_isSd hn hD ?_
  refine wp_if_eq (tgt := 66) dX8_added1_20 (by decide) (fun _ => ?_) (fun h => absurd h (by decide))
  refine wp_iload_n dX8_added1_66 rfl rfl ?_
  refine wp_iret rfl dX8_added1_67 ?_
  exact k _ _ ((Fr.rf : Fr VMr M0 M0)) hD
set_option maxRecDepth 20000 in
set_option maxHeartbeats 4000000 in
theorem cmd_not1 {l : Launch} {g : Gw} {n : Nat} (hn : 90 ≤ n) {t : Nat} {f : Nat → Int} {z : Int} {e : Int → Int} : CMd' l g n t f z e m_X8_not1 [(9, 0), (9, 0), (9, 0)] 9 := by
  intro d M0 Q p o hd hD k
  refine wp_aload_n dX8_not1_0 rfl rfl ?_
  refine wp_bipush dX8_not1_1 (by decide) (by decide) ?_
  refine wp_bipush dX8_not1_3 (by decide) (by decide) ?_
  refine wp_bipush dX8_not1_5 (by decide) (by decide) ?_
  refine wp_iconst dX8_not1_7 (by decide) ?_
  refine wp_iconst dX8_not1_8 (by decide) ?_
  refine wp_iconst dX8_not1_9 (by decide) ?_
  refine wp_iconst dX8_not1_10 (by decide) ?_
  refine wp_iconst dX8_not1_11 (by decide) ?_
  refine wp_callV0 (d' := d - 1) cv_RX8_200 69 rfl [(0, 110), (0, 111), (0, 116), (0, 0), (0, 0), (0, 0), (0, 0), (0, 0)] [] rfl rfl (Or.inl ⟨_, _, rfl, by decide, rfl, by omega, by omega⟩) (by omega) (Nat.le_of_ble_eq_true rfl) dX8_not1_12 rfl (Nat.le_of_ble_eq_true rfl) (by omega) (loc1 := [(2, 69), (0, 110), (0, 111), (0, 116), (0, 0), (0, 0), (0, 0), (0, 0), (0, 0)]) rfl ?_
  refine sp_isWd hn hD ?_
  refine wp_if_eq (tgt := 52) dX8_not1_15 (by decide) (fun _ => ?_) (fun h => absurd h (by decide))
  refine wp_aload_n dX8_not1_52 rfl rfl ?_
  refine wp_callV0 (d' := d - 1) cv_RX8_315 69 rfl [] [] rfl rfl (Or.inl ⟨_, _, rfl, by decide, rfl, by omega, by omega⟩) (by omega) (Nat.le_of_ble_eq_true rfl) dX8_not1_53 rfl (Nat.le_of_ble_eq_true rfl) (by omega) (loc1 := [(2, 69), (9, 0), (9, 0), (9, 0)]) rfl ?_
  refine (cmd_added1 hn) _ _ _ _ _ (by omega) hD (fun M2 w2 f2 D2 => ?_)
  have F2 := ((Fr.rf : Fr VMr M0 M0)).tr f2
  refine wp_istore_n (loc' := [(2, 69), (0, w2), (9, 0), (9, 0)]) dX8_not1_56 rfl (Nat.le_of_ble_eq_true rfl) rfl ?_
  refine wp_aload_n dX8_not1_57 rfl rfl ?_
  refine wp_bipush dX8_not1_58 (by decide) (by decide) ?_
  refine wp_callV0 (d' := d - 1) cv_RX8_222 69 rfl [(0, 60)] [] rfl rfl (Or.inl ⟨_, _, rfl, by decide, rfl, by omega, by omega⟩) (by omega) (Nat.le_of_ble_eq_true rfl) dX8_not1_60 rfl (Nat.le_of_ble_eq_true rfl) (by omega) (loc1 := [(2, 69), (0, 60)]) rfl ?_
  refine sp_isSd hn D2 ?_
  refine wp_if_ne (tgt := 77) dX8_not1_63 (by decide) (fun h => absurd h (by decide)) (fun _ => ?_)
  refine wp_aload_n dX8_not1_66 rfl rfl ?_
  refine wp_bipush dX8_not1_67 (by decide) (by decide) ?_
  refine wp_callV0 (d' := d - 1) cv_RX8_222 69 rfl [(0, 61)] [] rfl rfl (Or.inl ⟨_, _, rfl, by decide, rfl, by omega, by omega⟩) (by omega) (Nat.le_of_ble_eq_true rfl) dX8_not1_69 rfl (Nat.le_of_ble_eq_true rfl) (by omega) (loc1 := [(2, 69), (0, 61)]) rfl ?_
  refine sp_isSd hn D2 ?_
  refine wp_if_ne (tgt := 77) dX8_not1_72 (by decide) (fun h => absurd h (by decide)) (fun _ => ?_)
  refine wp_iload_n dX8_not1_75 rfl rfl ?_
  refine wp_iret rfl dX8_not1_76 ?_
  exact k _ _ (F2) D2
set_option maxRecDepth 20000 in
set_option maxHeartbeats 4000000 in
theorem cmd_both1 {l : Launch} {g : Gw} {n : Nat} (hn : 90 ≤ n) {t : Nat} {f : Nat → Int} {z : Int} {e : Int → Int} : CMd' l g n t f z e m_X8_both1 [(9, 0), (9, 0)] 10 := by
  intro d M0 Q p o hd hD k
  refine wp_aload_n dX8_both1_0 rfl rfl ?_
  refine wp_callV0 (d' := d - 1) cv_RX8_318 69 rfl [] [] rfl rfl (Or.inl ⟨_, _, rfl, by decide, rfl, by omega, by omega⟩) (by omega) (Nat.le_of_ble_eq_true rfl) dX8_both1_1 rfl (Nat.le_of_ble_eq_true rfl) (by omega) (loc1 := [(2, 69), (9, 0), (9, 0), (9, 0)]) rfl ?_
  refine (cmd_not1 hn) _ _ _ _ _ (by omega) hD (fun M1 w1 f1 D1 => ?_)
  have F1 := ((Fr.rf : Fr VMr M0 M0)).tr f1
  refine wp_istore_n (loc' := [(2, 69), (0, w1), (9, 0)]) dX8_both1_4 rfl (Nat.le_of_ble_eq_true rfl) rfl ?_
  refine wp_aload_n dX8_both1_5 rfl rfl ?_
  refine wp_bipush dX8_both1_6 (by decide) (by decide) ?_
  refine wp_bipush dX8_both1_8 (by decide) (by decide) ?_
  refine wp_bipush dX8_both1_10 (by decide) (by decide) ?_
  refine wp_iconst dX8_both1_12 (by decide) ?_
  refine wp_iconst dX8_both1_13 (by decide) ?_
  refine wp_iconst dX8_both1_14 (by decide) ?_
  refine wp_iconst dX8_both1_15 (by decide) ?_
  refine wp_iconst dX8_both1_16 (by decide) ?_
  refine wp_callV0 (d' := d - 1) cv_RX8_200 69 rfl [(0, 97), (0, 110), (0, 100), (0, 0), (0, 0), (0, 0), (0, 0), (0, 0)] [] rfl rfl (Or.inl ⟨_, _, rfl, by decide, rfl, by omega, by omega⟩) (by omega) (Nat.le_of_ble_eq_true rfl) dX8_both1_17 rfl (Nat.le_of_ble_eq_true rfl) (by omega) (loc1 := [(2, 69), (0, 97), (0, 110), (0, 100), (0, 0), (0, 0), (0, 0), (0, 0), (0, 0)]) rfl ?_
  refine sp_isWd hn D1 ?_
  refine wp_if_eq (tgt := 49) dX8_both1_20 (by decide) (fun _ => ?_) (fun h => absurd h (by decide))
  refine wp_iload_n dX8_both1_49 rfl rfl ?_
  refine wp_iret rfl dX8_both1_50 ?_
  exact k _ _ (F1) D1
set_option maxRecDepth 20000 in
set_option maxHeartbeats 4000000 in
theorem lqd_both1 {l : Launch} {g : Gw} {n : Nat} (hn : 90 ≤ n) {t : Nat} {f : Nat → Int} {z : Int} {e : Int → Int} {d : Nat} (hd : 2 ≤ d) {M0 : Mm} {Q : Option Wd → Mm → Prop} {p : Nat} {o v : Int} {u2 : Wd} (hD : DJm M0 t f z p o e) (k : ∀ M' w, Fr VMr M0 M' → DJm M' t f z p o e → Q (some (0, w)) M') : Wp l g d 0 0 n m_X8_both1 5 [] [(2, 69), (0, v), u2] M0 Q := by
  refine wp_aload_n dX8_both1_5 rfl rfl ?_
  refine wp_bipush dX8_both1_6 (by decide) (by decide) ?_
  refine wp_bipush dX8_both1_8 (by decide) (by decide) ?_
  refine wp_bipush dX8_both1_10 (by decide) (by decide) ?_
  refine wp_iconst dX8_both1_12 (by decide) ?_
  refine wp_iconst dX8_both1_13 (by decide) ?_
  refine wp_iconst dX8_both1_14 (by decide) ?_
  refine wp_iconst dX8_both1_15 (by decide) ?_
  refine wp_iconst dX8_both1_16 (by decide) ?_
  refine wp_callV0 (d' := d - 1) cv_RX8_200 69 rfl [(0, 97), (0, 110), (0, 100), (0, 0), (0, 0), (0, 0), (0, 0), (0, 0)] [] rfl rfl (Or.inl ⟨_, _, rfl, by decide, rfl, by omega, by omega⟩) (by omega) (Nat.le_of_ble_eq_true rfl) dX8_both1_17 rfl (Nat.le_of_ble_eq_true rfl) (by omega) (loc1 := [(2, 69), (0, 97), (0, 110), (0, 100), (0, 0), (0, 0), (0, 0), (0, 0), (0, 0)]) rfl ?_
  refine sp_isWd hn hD ?_
  refine wp_if_eq (tgt := 49) dX8_both1_20 (by decide) (fun _ => ?_) (fun h => absurd h (by decide))
  refine wp_iload_n dX8_both1_49 rfl rfl ?_
  refine wp_iret rfl dX8_both1_50 ?_
  exact k _ _ ((Fr.rf : Fr VMr M0 M0)) hD
set_option maxRecDepth 20000 in
set_option maxHeartbeats 4000000 in
theorem cmd_either1 {l : Launch} {g : Gw} {n : Nat} (hn : 90 ≤ n) {t : Nat} {f : Nat → Int} {z : Int} {e : Int → Int} : CMd' l g n t f z e m_X8_either1 [(9, 0), (9, 0)] 11 := by
  intro d M0 Q p o hd hD k
  refine wp_aload_n dX8_either1_0 rfl rfl ?_
  refine wp_callV0 (d' := d - 1) cv_RX8_321 69 rfl [] [] rfl rfl (Or.inl ⟨_, _, rfl, by decide, rfl, by omega, by omega⟩) (by omega) (Nat.le_of_ble_eq_true rfl) dX8_either1_1 rfl (Nat.le_of_ble_eq_true rfl) (by omega) (loc1 := [(2, 69), (9, 0), (9, 0)]) rfl ?_
  refine (cmd_both1 hn) _ _ _ _ _ (by omega) hD (fun M1 w1 f1 D1 => ?_)
  have F1 := ((Fr.rf : Fr VMr M0 M0)).tr f1
  refine wp_istore_n (loc' := [(2, 69), (0, w1), (9, 0)]) dX8_either1_4 rfl (Nat.le_of_ble_eq_true rfl) rfl ?_
  refine wp_aload_n dX8_either1_5 rfl rfl ?_
  refine wp_bipush dX8_either1_6 (by decide) (by decide) ?_
  refine wp_bipush dX8_either1_8 (by decide) (by decide) ?_
  refine wp_iconst dX8_either1_10 (by decide) ?_
  refine wp_iconst dX8_either1_11 (by decide) ?_
  refine wp_iconst dX8_either1_12 (by decide) ?_
  refine wp_iconst dX8_either1_13 (by decide) ?_
  refine wp_iconst dX8_either1_14 (by decide) ?_
  refine wp_iconst dX8_either1_15 (by decide) ?_
  refine wp_callV0 (d' := d - 1) cv_RX8_200 69 rfl [(0, 111), (0, 114), (0, 0), (0, 0), (0, 0), (0, 0), (0, 0), (0, 0)] [] rfl rfl (Or.inl ⟨_, _, rfl, by decide, rfl, by omega, by omega⟩) (by omega) (Nat.le_of_ble_eq_true rfl) dX8_either1_16 rfl (Nat.le_of_ble_eq_true rfl) (by omega) (loc1 := [(2, 69), (0, 111), (0, 114), (0, 0), (0, 0), (0, 0), (0, 0), (0, 0), (0, 0)]) rfl ?_
  refine sp_isWd hn D1 ?_
  refine wp_if_eq (tgt := 48) dX8_either1_19 (by decide) (fun _ => ?_) (fun h => absurd h (by decide))
  refine wp_iload_n dX8_either1_48 rfl rfl ?_
  refine wp_iret rfl dX8_either1_49 ?_
  exact k _ _ (F1) D1
set_option maxRecDepth 20000 in
set_option maxHeartbeats 4000000 in
theorem lqd_either1 {l : Launch} {g : Gw} {n : Nat} (hn : 90 ≤ n) {t : Nat} {f : Nat → Int} {z : Int} {e : Int → Int} {d : Nat} (hd : 2 ≤ d) {M0 : Mm} {Q : Option Wd → Mm → Prop} {p : Nat} {o v : Int} {u2 : Wd} (hD : DJm M0 t f z p o e) (k : ∀ M' w, Fr VMr M0 M' → DJm M' t f z p o e → Q (some (0, w)) M') : Wp l g d 0 0 n m_X8_either1 5 [] [(2, 69), (0, v), u2] M0 Q := by
  refine wp_aload_n dX8_either1_5 rfl rfl ?_
  refine wp_bipush dX8_either1_6 (by decide) (by decide) ?_
  refine wp_bipush dX8_either1_8 (by decide) (by decide) ?_
  refine wp_iconst dX8_either1_10 (by decide) ?_
  refine wp_iconst dX8_either1_11 (by decide) ?_
  refine wp_iconst dX8_either1_12 (by decide) ?_
  refine wp_iconst dX8_either1_13 (by decide) ?_
  refine wp_iconst dX8_either1_14 (by decide) ?_
  refine wp_iconst dX8_either1_15 (by decide) ?_
  refine wp_callV0 (d' := d - 1) cv_RX8_200 69 rfl [(0, 111), (0, 114), (0, 0), (0, 0), (0, 0), (0, 0), (0, 0), (0, 0)] [] rfl rfl (Or.inl ⟨_, _, rfl, by decide, rfl, by omega, by omega⟩) (by omega) (Nat.le_of_ble_eq_true rfl) dX8_either1_16 rfl (Nat.le_of_ble_eq_true rfl) (by omega) (loc1 := [(2, 69), (0, 111), (0, 114), (0, 0), (0, 0), (0, 0), (0, 0), (0, 0), (0, 0)]) rfl ?_
  refine sp_isWd hn hD ?_
  refine wp_if_eq (tgt := 48) dX8_either1_19 (by decide) (fun _ => ?_) (fun h => absurd h (by decide))
  refine wp_iload_n dX8_either1_48 rfl rfl ?_
  refine wp_iret rfl dX8_either1_49 ?_
  exact k _ _ ((Fr.rf : Fr VMr M0 M0)) hD
set_option maxRecDepth 20000 in
set_option maxHeartbeats 4000000 in
theorem cmd_atom2 {l : Launch} {g : Gw} {n : Nat} (hn : 90 ≤ n) {t : Nat} {f : Nat → Int} {z : Int} {e : Int → Int} : CMd' l g n t f z e m_X8_atom2 [(9, 0)] 6 := by
  intro d M0 Q p o hd hD k
  refine wp_iconst dX8_atom2_0 (by decide) ?_
  refine wp_istore_n (loc' := [(2, 69), (0, 0)]) dX8_atom2_1 rfl (Nat.le_of_ble_eq_true rfl) rfl ?_
  refine wp_aload_n dX8_atom2_2 rfl rfl ?_
  refine wp_bipush dX8_atom2_3 (by decide) (by decide) ?_
  refine wp_callV0 (d' := d - 1) cv_RX8_222 69 rfl [(0, 45)] [] rfl rfl (Or.inl ⟨_, _, rfl, by decide, rfl, by omega, by omega⟩) (by omega) (Nat.le_of_ble_eq_true rfl) dX8_atom2_5 rfl (Nat.le_of_ble_eq_true rfl) (by omega) (loc1 := [(2, 69), (0, 45)]) rfl ?_
  refine sp_isSd hn hD ?_
  refine wp_if_eq (tgt := 37) dX8_atom2_8 (by decide) (fun _ => ?_) (fun h => absurd h (by decide))
  refine wp_aload_n dX8_atom2_37 rfl rfl ?_
  refine wp_bipush dX8_atom2_38 (by decide) (by decide) ?_
  refine wp_callV0 (d' := d - 1) cv_RX8_222 69 rfl [(0, 40)] [] rfl rfl (Or.inl ⟨_, _, rfl, by decide, rfl, by omega, by omega⟩) (by omega) (Nat.le_of_ble_eq_true rfl) dX8_atom2_40 rfl (Nat.le_of_ble_eq_true rfl) (by omega) (loc1 := [(2, 69), (0, 40)]) rfl ?_
  refine sp_isSd hn hD ?_
  refine wp_if_eq (tgt := 95) dX8_atom2_43 (by decide) (fun _ => ?_) (fun h => absurd h (by decide))
  refine wp_aload_n dX8_atom2_95 rfl rfl ?_
  refine wp_get 69 rfl fl_RX8_181 rfl ⟨by omega, by omega⟩ dX8_atom2_96 rfl (v := 1) (hD.2.2.1) ?_
  refine wp_if_ne (tgt := 123) dX8_atom2_99 (by decide) (fun _ => ?_) (fun h => absurd h (by decide))
  refine wp_aload_n dX8_atom2_123 rfl rfl ?_
  refine wp_get 69 rfl fl_RX8_181 rfl ⟨by omega, by omega⟩ dX8_atom2_124 rfl (v := 1) (hD.2.2.1) ?_
  refine wp_if_ne (tgt := 157) dX8_atom2_127 (by decide) (fun _ => ?_) (fun h => absurd h (by decide))
  refine wp_aload_n dX8_atom2_157 rfl rfl ?_
  refine wp_callV0 (d' := d - 1) cv_RX8_194 69 rfl [] [] rfl rfl (Or.inl ⟨_, _, rfl, by decide, rfl, by omega, by omega⟩) (by omega) (Nat.le_of_ble_eq_true rfl) dX8_atom2_158 rfl (Nat.le_of_ble_eq_true rfl) (by omega) (loc1 := [(2, 69)]) rfl ?_
  refine sp_failmD hn hD ?_
  refine wp_iload_n dX8_atom2_161 rfl rfl ?_
  refine wp_iret rfl dX8_atom2_162 ?_
  exact k _ _ ((Fr.rf : Fr VMr M0 M0)) hD
set_option maxRecDepth 20000 in
set_option maxHeartbeats 4000000 in
theorem cmd_term2 {l : Launch} {g : Gw} {n : Nat} (hn : 90 ≤ n) {t : Nat} {f : Nat → Int} {z : Int} {e : Int → Int} : CMd' l g n t f z e m_X8_term2 [(9, 0)] 7 := by
  intro d M0 Q p o hd hD k
  refine wp_aload_n dX8_term2_0 rfl rfl ?_
  refine wp_callV0 (d' := d - 1) cv_RX8_291 69 rfl [] [] rfl rfl (Or.inl ⟨_, _, rfl, by decide, rfl, by omega, by omega⟩) (by omega) (Nat.le_of_ble_eq_true rfl) dX8_term2_1 rfl (Nat.le_of_ble_eq_true rfl) (by omega) (loc1 := [(2, 69), (9, 0)]) rfl ?_
  refine (cmd_atom2 hn) _ _ _ _ _ (by omega) hD (fun M1 w1 f1 D1 => ?_)
  have F1 := ((Fr.rf : Fr VMr M0 M0)).tr f1
  refine wp_istore_n (loc' := [(2, 69), (0, w1)]) dX8_term2_4 rfl (Nat.le_of_ble_eq_true rfl) rfl ?_
  refine wp_aload_n dX8_term2_5 rfl rfl ?_
  refine wp_bipush dX8_term2_6 (by decide) (by decide) ?_
  refine wp_callV0 (d' := d - 1) cv_RX8_222 69 rfl [(0, 42)] [] rfl rfl (Or.inl ⟨_, _, rfl, by decide, rfl, by omega, by omega⟩) (by omega) (Nat.le_of_ble_eq_true rfl) dX8_term2_8 rfl (Nat.le_of_ble_eq_true rfl) (by omega) (loc1 := [(2, 69), (0, 42)]) rfl ?_
  refine sp_isSd hn D1 ?_
  refine wp_if_eq (tgt := 28) dX8_term2_11 (by decide) (fun _ => ?_) (fun h => absurd h (by decide))
  refine wp_iload_n dX8_term2_28 rfl rfl ?_
  refine wp_iret rfl dX8_term2_29 ?_
  exact k _ _ (F1) D1
set_option maxRecDepth 20000 in
set_option maxHeartbeats 4000000 in
theorem lqd_term2 {l : Launch} {g : Gw} {n : Nat} (hn : 90 ≤ n) {t : Nat} {f : Nat → Int} {z : Int} {e : Int → Int} {d : Nat} (hd : 2 ≤ d) {M0 : Mm} {Q : Option Wd → Mm → Prop} {p : Nat} {o v : Int} (hD : DJm M0 t f z p o e) (k : ∀ M' w, Fr VMr M0 M' → DJm M' t f z p o e → Q (some (0, w)) M') : Wp l g d 0 0 n m_X8_term2 5 [] [(2, 69), (0, v)] M0 Q := by
  refine wp_aload_n dX8_term2_5 rfl rfl ?_
  refine wp_bipush dX8_term2_6 (by decide) (by decide) ?_
  refine wp_callV0 (d' := d - 1) cv_RX8_222 69 rfl [(0, 42)] [] rfl rfl (Or.inl ⟨_, _, rfl, by decide, rfl, by omega, by omega⟩) (by omega) (Nat.le_of_ble_eq_true rfl) dX8_term2_8 rfl (Nat.le_of_ble_eq_true rfl) (by omega) (loc1 := [(2, 69), (0, 42)]) rfl ?_
  refine sp_isSd hn hD ?_
  refine wp_if_eq (tgt := 28) dX8_term2_11 (by decide) (fun _ => ?_) (fun h => absurd h (by decide))
  refine wp_iload_n dX8_term2_28 rfl rfl ?_
  refine wp_iret rfl dX8_term2_29 ?_
  exact k _ _ ((Fr.rf : Fr VMr M0 M0)) hD
set_option maxRecDepth 20000 in
set_option maxHeartbeats 4000000 in
theorem cmd_added2 {l : Launch} {g : Gw} {n : Nat} (hn : 90 ≤ n) {t : Nat} {f : Nat → Int} {z : Int} {e : Int → Int} : CMd' l g n t f z e m_X8_added2 [(9, 0), (9, 0), (9, 0)] 8 := by
  intro d M0 Q p o hd hD k
  refine wp_aload_n dX8_added2_0 rfl rfl ?_
  refine wp_callV0 (d' := d - 1) cv_RX8_294 69 rfl [] [] rfl rfl (Or.inl ⟨_, _, rfl, by decide, rfl, by omega, by omega⟩) (by omega) (Nat.le_of_ble_eq_true rfl) dX8_added2_1 rfl (Nat.le_of_ble_eq_true rfl) (by omega) (loc1 := [(2, 69), (9, 0)]) rfl ?_
  refine (cmd_term2 hn) _ _ _ _ _ (by omega) hD (fun M1 w1 f1 D1 => ?_)
  have F1 := ((Fr.rf : Fr VMr M0 M0)).tr f1
  refine wp_istore_n (loc' := [(2, 69), (0, w1), (9, 0), (9, 0)]) dX8_added2_4 rfl (Nat.le_of_ble_eq_true rfl) rfl ?_
  refine wp_aload_n dX8_added2_5 rfl rfl ?_
  refine wp_bipush dX8_added2_6 (by decide) (by decide) ?_
  refine wp_callV0 (d' := d - 1) cv_RX8_222 69 rfl [(0, 43)] [] rfl rfl (Or.inl ⟨_, _, rfl, by decide, rfl, by omega, by omega⟩) (by omega) (Nat.le_of_ble_eq_true rfl) dX8_added2_8 rfl (Nat.le_of_ble_eq_true rfl) (by omega) (loc1 := [(2, 69), (0, 43)]) rfl ?_
  refine sp_isSd hn D1 ?_
  refine wp_if_ne (tgt := 23) dX8_added2_11 (by decide) (fun h => absurd h (by decide)) (fun _ => ?_)
  refine wp_aload_n dX8_added2_14 rfl rfl ?_
  refine wp_bipush dX8_added2_15 (by decide) (by decide) ?_
  refine wp_callV0 (d' := d - 1) cv_RX8_222 69 rfl [(0, 45)] [] rfl rfl (Or.inl ⟨_, _, rfl, by decide, rfl, by omega, by omega⟩) (by omega) (Nat.le_of_ble_eq_true rfl) dX8_added2_17 rfl (Nat.le_of_ble_eq_true rfl) (by omega) (loc1 := [(2, 69), (0, 45)]) rfl ?_
  refine sp_isSd hn D1 ?_
  refine wp_if_eq (tgt := 66) dX8_added2_20 (by decide) (fun _ => ?_) (fun h => absurd h (by decide))
  refine wp_iload_n dX8_added2_66 rfl rfl ?_
  refine wp_iret rfl dX8_added2_67 ?_
  exact k _ _ (F1) D1
set_option maxRecDepth 20000 in
set_option maxHeartbeats 4000000 in
theorem lqd_added2 {l : Launch} {g : Gw} {n : Nat} (hn : 90 ≤ n) {t : Nat} {f : Nat → Int} {z : Int} {e : Int → Int} {d : Nat} (hd : 2 ≤ d) {M0 : Mm} {Q : Option Wd → Mm → Prop} {p : Nat} {o v : Int} {u2 : Wd} {u3 : Wd} (hD : DJm M0 t f z p o e) (k : ∀ M' w, Fr VMr M0 M' → DJm M' t f z p o e → Q (some (0, w)) M') : Wp l g d 0 0 n m_X8_added2 5 [] [(2, 69), (0, v), u2, u3] M0 Q := by
  refine wp_aload_n dX8_added2_5 rfl rfl ?_
  refine wp_bipush dX8_added2_6 (by decide) (by decide) ?_
  refine wp_callV0 (d' := d - 1) cv_RX8_222 69 rfl [(0, 43)] [] rfl rfl (Or.inl ⟨_, _, rfl, by decide, rfl, by omega, by omega⟩) (by omega) (Nat.le_of_ble_eq_true rfl) dX8_added2_8 rfl (Nat.le_of_ble_eq_true rfl) (by omega) (loc1 := [(2, 69), (0, 43)]) rfl ?_
  refine sp_isSd hn hD ?_
  refine wp_if_ne (tgt := 23) dX8_added2_11 (by decide) (fun h => absurd h (by decide)) (fun _ => ?_)
  refine wp_aload_n dX8_added2_14 rfl rfl ?_
  refine wp_bipush dX8_added2_15 (by decide) (by decide) ?_
  refine wp_callV0 (d' := d - 1) cv_RX8_222 69 rfl [(0, 45)] [] rfl rfl (Or.inl ⟨_, _, rfl, by decide, rfl, by omega, by omega⟩) (by omega) (Nat.le_of_ble_eq_true rfl) dX8_added2_17 rfl (Nat.le_of_ble_eq_true rfl) (by omega) (loc1 := [(2, 69), (0, 45)]) rfl ?_
  refine sp_isSd hn hD ?_
  refine wp_if_eq (tgt := 66) dX8_added2_20 (by decide) (fun _ => ?_) (fun h => absurd h (by decide))
  refine wp_iload_n dX8_added2_66 rfl rfl ?_
  refine wp_iret rfl dX8_added2_67 ?_
  exact k _ _ ((Fr.rf : Fr VMr M0 M0)) hD
set_option maxRecDepth 20000 in
set_option maxHeartbeats 4000000 in
theorem cmd_not2 {l : Launch} {g : Gw} {n : Nat} (hn : 90 ≤ n) {t : Nat} {f : Nat → Int} {z : Int} {e : Int → Int} : CMd' l g n t f z e m_X8_not2 [(9, 0), (9, 0), (9, 0)] 9 := by
  intro d M0 Q p o hd hD k
  refine wp_aload_n dX8_not2_0 rfl rfl ?_
  refine wp_bipush dX8_not2_1 (by decide) (by decide) ?_
  refine wp_bipush dX8_not2_3 (by decide) (by decide) ?_
  refine wp_bipush dX8_not2_5 (by decide) (by decide) ?_
  refine wp_iconst dX8_not2_7 (by decide) ?_
  refine wp_iconst dX8_not2_8 (by decide) ?_
  refine wp_iconst dX8_not2_9 (by decide) ?_
  refine wp_iconst dX8_not2_10 (by decide) ?_
  refine wp_iconst dX8_not2_11 (by decide) ?_
  refine wp_callV0 (d' := d - 1) cv_RX8_200 69 rfl [(0, 110), (0, 111), (0, 116), (0, 0), (0, 0), (0, 0), (0, 0), (0, 0)] [] rfl rfl (Or.inl ⟨_, _, rfl, by decide, rfl, by omega, by omega⟩) (by omega) (Nat.le_of_ble_eq_true rfl) dX8_not2_12 rfl (Nat.le_of_ble_eq_true rfl) (by omega) (loc1 := [(2, 69), (0, 110), (0, 111), (0, 116), (0, 0), (0, 0), (0, 0), (0, 0), (0, 0)]) rfl ?_
  refine sp_isWd hn hD ?_
  refine wp_if_eq (tgt := 52) dX8_not2_15 (by decide) (fun _ => ?_) (fun h => absurd h (by decide))
  refine wp_aload_n dX8_not2_52 rfl rfl ?_
  refine wp_callV0 (d' := d - 1) cv_RX8_297 69 rfl [] [] rfl rfl (Or.inl ⟨_, _, rfl, by decide, rfl, by omega, by omega⟩) (by omega) (Nat.le_of_ble_eq_true rfl) dX8_not2_53 rfl (Nat.le_of_ble_eq_true rfl) (by omega) (loc1 := [(2, 69), (9, 0), (9, 0), (9, 0)]) rfl ?_
  refine (cmd_added2 hn) _ _ _ _ _ (by omega) hD (fun M2 w2 f2 D2 => ?_)
  have F2 := ((Fr.rf : Fr VMr M0 M0)).tr f2
  refine wp_istore_n (loc' := [(2, 69), (0, w2), (9, 0), (9, 0)]) dX8_not2_56 rfl (Nat.le_of_ble_eq_true rfl) rfl ?_
  refine wp_aload_n dX8_not2_57 rfl rfl ?_
  refine wp_bipush dX8_not2_58 (by decide) (by decide) ?_
  refine wp_callV0 (d' := d - 1) cv_RX8_222 69 rfl [(0, 60)] [] rfl rfl (Or.inl ⟨_, _, rfl, by decide, rfl, by omega, by omega⟩) (by omega) (Nat.le_of_ble_eq_true rfl) dX8_not2_60 rfl (Nat.le_of_ble_eq_true rfl) (by omega) (loc1 := [(2, 69), (0, 60)]) rfl ?_
  refine sp_isSd hn D2 ?_
  refine wp_if_ne (tgt := 77) dX8_not2_63 (by decide) (fun h => absurd h (by decide)) (fun _ => ?_)
  refine wp_aload_n dX8_not2_66 rfl rfl ?_
  refine wp_bipush dX8_not2_67 (by decide) (by decide) ?_
  refine wp_callV0 (d' := d - 1) cv_RX8_222 69 rfl [(0, 61)] [] rfl rfl (Or.inl ⟨_, _, rfl, by decide, rfl, by omega, by omega⟩) (by omega) (Nat.le_of_ble_eq_true rfl) dX8_not2_69 rfl (Nat.le_of_ble_eq_true rfl) (by omega) (loc1 := [(2, 69), (0, 61)]) rfl ?_
  refine sp_isSd hn D2 ?_
  refine wp_if_ne (tgt := 77) dX8_not2_72 (by decide) (fun h => absurd h (by decide)) (fun _ => ?_)
  refine wp_iload_n dX8_not2_75 rfl rfl ?_
  refine wp_iret rfl dX8_not2_76 ?_
  exact k _ _ (F2) D2
set_option maxRecDepth 20000 in
set_option maxHeartbeats 4000000 in
theorem cmd_both2 {l : Launch} {g : Gw} {n : Nat} (hn : 90 ≤ n) {t : Nat} {f : Nat → Int} {z : Int} {e : Int → Int} : CMd' l g n t f z e m_X8_both2 [(9, 0), (9, 0)] 10 := by
  intro d M0 Q p o hd hD k
  refine wp_aload_n dX8_both2_0 rfl rfl ?_
  refine wp_callV0 (d' := d - 1) cv_RX8_300 69 rfl [] [] rfl rfl (Or.inl ⟨_, _, rfl, by decide, rfl, by omega, by omega⟩) (by omega) (Nat.le_of_ble_eq_true rfl) dX8_both2_1 rfl (Nat.le_of_ble_eq_true rfl) (by omega) (loc1 := [(2, 69), (9, 0), (9, 0), (9, 0)]) rfl ?_
  refine (cmd_not2 hn) _ _ _ _ _ (by omega) hD (fun M1 w1 f1 D1 => ?_)
  have F1 := ((Fr.rf : Fr VMr M0 M0)).tr f1
  refine wp_istore_n (loc' := [(2, 69), (0, w1), (9, 0)]) dX8_both2_4 rfl (Nat.le_of_ble_eq_true rfl) rfl ?_
  refine wp_aload_n dX8_both2_5 rfl rfl ?_
  refine wp_bipush dX8_both2_6 (by decide) (by decide) ?_
  refine wp_bipush dX8_both2_8 (by decide) (by decide) ?_
  refine wp_bipush dX8_both2_10 (by decide) (by decide) ?_
  refine wp_iconst dX8_both2_12 (by decide) ?_
  refine wp_iconst dX8_both2_13 (by decide) ?_
  refine wp_iconst dX8_both2_14 (by decide) ?_
  refine wp_iconst dX8_both2_15 (by decide) ?_
  refine wp_iconst dX8_both2_16 (by decide) ?_
  refine wp_callV0 (d' := d - 1) cv_RX8_200 69 rfl [(0, 97), (0, 110), (0, 100), (0, 0), (0, 0), (0, 0), (0, 0), (0, 0)] [] rfl rfl (Or.inl ⟨_, _, rfl, by decide, rfl, by omega, by omega⟩) (by omega) (Nat.le_of_ble_eq_true rfl) dX8_both2_17 rfl (Nat.le_of_ble_eq_true rfl) (by omega) (loc1 := [(2, 69), (0, 97), (0, 110), (0, 100), (0, 0), (0, 0), (0, 0), (0, 0), (0, 0)]) rfl ?_
  refine sp_isWd hn D1 ?_
  refine wp_if_eq (tgt := 49) dX8_both2_20 (by decide) (fun _ => ?_) (fun h => absurd h (by decide))
  refine wp_iload_n dX8_both2_49 rfl rfl ?_
  refine wp_iret rfl dX8_both2_50 ?_
  exact k _ _ (F1) D1
set_option maxRecDepth 20000 in
set_option maxHeartbeats 4000000 in
theorem lqd_both2 {l : Launch} {g : Gw} {n : Nat} (hn : 90 ≤ n) {t : Nat} {f : Nat → Int} {z : Int} {e : Int → Int} {d : Nat} (hd : 2 ≤ d) {M0 : Mm} {Q : Option Wd → Mm → Prop} {p : Nat} {o v : Int} {u2 : Wd} (hD : DJm M0 t f z p o e) (k : ∀ M' w, Fr VMr M0 M' → DJm M' t f z p o e → Q (some (0, w)) M') : Wp l g d 0 0 n m_X8_both2 5 [] [(2, 69), (0, v), u2] M0 Q := by
  refine wp_aload_n dX8_both2_5 rfl rfl ?_
  refine wp_bipush dX8_both2_6 (by decide) (by decide) ?_
  refine wp_bipush dX8_both2_8 (by decide) (by decide) ?_
  refine wp_bipush dX8_both2_10 (by decide) (by decide) ?_
  refine wp_iconst dX8_both2_12 (by decide) ?_
  refine wp_iconst dX8_both2_13 (by decide) ?_
  refine wp_iconst dX8_both2_14 (by decide) ?_
  refine wp_iconst dX8_both2_15 (by decide) ?_
  refine wp_iconst dX8_both2_16 (by decide) ?_
  refine wp_callV0 (d' := d - 1) cv_RX8_200 69 rfl [(0, 97), (0, 110), (0, 100), (0, 0), (0, 0), (0, 0), (0, 0), (0, 0)] [] rfl rfl (Or.inl ⟨_, _, rfl, by decide, rfl, by omega, by omega⟩) (by omega) (Nat.le_of_ble_eq_true rfl) dX8_both2_17 rfl (Nat.le_of_ble_eq_true rfl) (by omega) (loc1 := [(2, 69), (0, 97), (0, 110), (0, 100), (0, 0), (0, 0), (0, 0), (0, 0), (0, 0)]) rfl ?_
  refine sp_isWd hn hD ?_
  refine wp_if_eq (tgt := 49) dX8_both2_20 (by decide) (fun _ => ?_) (fun h => absurd h (by decide))
  refine wp_iload_n dX8_both2_49 rfl rfl ?_
  refine wp_iret rfl dX8_both2_50 ?_
  exact k _ _ ((Fr.rf : Fr VMr M0 M0)) hD
set_option maxRecDepth 20000 in
set_option maxHeartbeats 4000000 in
theorem cmd_either2 {l : Launch} {g : Gw} {n : Nat} (hn : 90 ≤ n) {t : Nat} {f : Nat → Int} {z : Int} {e : Int → Int} : CMd' l g n t f z e m_X8_either2 [(9, 0), (9, 0)] 11 := by
  intro d M0 Q p o hd hD k
  refine wp_aload_n dX8_either2_0 rfl rfl ?_
  refine wp_callV0 (d' := d - 1) cv_RX8_303 69 rfl [] [] rfl rfl (Or.inl ⟨_, _, rfl, by decide, rfl, by omega, by omega⟩) (by omega) (Nat.le_of_ble_eq_true rfl) dX8_either2_1 rfl (Nat.le_of_ble_eq_true rfl) (by omega) (loc1 := [(2, 69), (9, 0), (9, 0)]) rfl ?_
  refine (cmd_both2 hn) _ _ _ _ _ (by omega) hD (fun M1 w1 f1 D1 => ?_)
  have F1 := ((Fr.rf : Fr VMr M0 M0)).tr f1
  refine wp_istore_n (loc' := [(2, 69), (0, w1), (9, 0)]) dX8_either2_4 rfl (Nat.le_of_ble_eq_true rfl) rfl ?_
  refine wp_aload_n dX8_either2_5 rfl rfl ?_
  refine wp_bipush dX8_either2_6 (by decide) (by decide) ?_
  refine wp_bipush dX8_either2_8 (by decide) (by decide) ?_
  refine wp_iconst dX8_either2_10 (by decide) ?_
  refine wp_iconst dX8_either2_11 (by decide) ?_
  refine wp_iconst dX8_either2_12 (by decide) ?_
  refine wp_iconst dX8_either2_13 (by decide) ?_
  refine wp_iconst dX8_either2_14 (by decide) ?_
  refine wp_iconst dX8_either2_15 (by decide) ?_
  refine wp_callV0 (d' := d - 1) cv_RX8_200 69 rfl [(0, 111), (0, 114), (0, 0), (0, 0), (0, 0), (0, 0), (0, 0), (0, 0)] [] rfl rfl (Or.inl ⟨_, _, rfl, by decide, rfl, by omega, by omega⟩) (by omega) (Nat.le_of_ble_eq_true rfl) dX8_either2_16 rfl (Nat.le_of_ble_eq_true rfl) (by omega) (loc1 := [(2, 69), (0, 111), (0, 114), (0, 0), (0, 0), (0, 0), (0, 0), (0, 0), (0, 0)]) rfl ?_
  refine sp_isWd hn D1 ?_
  refine wp_if_eq (tgt := 48) dX8_either2_19 (by decide) (fun _ => ?_) (fun h => absurd h (by decide))
  refine wp_iload_n dX8_either2_48 rfl rfl ?_
  refine wp_iret rfl dX8_either2_49 ?_
  exact k _ _ (F1) D1
set_option maxRecDepth 20000 in
set_option maxHeartbeats 4000000 in
theorem lqd_either2 {l : Launch} {g : Gw} {n : Nat} (hn : 90 ≤ n) {t : Nat} {f : Nat → Int} {z : Int} {e : Int → Int} {d : Nat} (hd : 2 ≤ d) {M0 : Mm} {Q : Option Wd → Mm → Prop} {p : Nat} {o v : Int} {u2 : Wd} (hD : DJm M0 t f z p o e) (k : ∀ M' w, Fr VMr M0 M' → DJm M' t f z p o e → Q (some (0, w)) M') : Wp l g d 0 0 n m_X8_either2 5 [] [(2, 69), (0, v), u2] M0 Q := by
  refine wp_aload_n dX8_either2_5 rfl rfl ?_
  refine wp_bipush dX8_either2_6 (by decide) (by decide) ?_
  refine wp_bipush dX8_either2_8 (by decide) (by decide) ?_
  refine wp_iconst dX8_either2_10 (by decide) ?_
  refine wp_iconst dX8_either2_11 (by decide) ?_
  refine wp_iconst dX8_either2_12 (by decide) ?_
  refine wp_iconst dX8_either2_13 (by decide) ?_
  refine wp_iconst dX8_either2_14 (by decide) ?_
  refine wp_iconst dX8_either2_15 (by decide) ?_
  refine wp_callV0 (d' := d - 1) cv_RX8_200 69 rfl [(0, 111), (0, 114), (0, 0), (0, 0), (0, 0), (0, 0), (0, 0), (0, 0)] [] rfl rfl (Or.inl ⟨_, _, rfl, by decide, rfl, by omega, by omega⟩) (by omega) (Nat.le_of_ble_eq_true rfl) dX8_either2_16 rfl (Nat.le_of_ble_eq_true rfl) (by omega) (loc1 := [(2, 69), (0, 111), (0, 114), (0, 0), (0, 0), (0, 0), (0, 0), (0, 0), (0, 0)]) rfl ?_
  refine sp_isWd hn hD ?_
  refine wp_if_eq (tgt := 48) dX8_either2_19 (by decide) (fun _ => ?_) (fun h => absurd h (by decide))
  refine wp_iload_n dX8_either2_48 rfl rfl ?_
  refine wp_iret rfl dX8_either2_49 ?_
  exact k _ _ ((Fr.rf : Fr VMr M0 M0)) hD
set_option maxRecDepth 20000 in
set_option maxHeartbeats 4000000 in
theorem cmd_atom3 {l : Launch} {g : Gw} {n : Nat} (hn : 90 ≤ n) {t : Nat} {f : Nat → Int} {z : Int} {e : Int → Int} : CMd' l g n t f z e m_X8_atom3 [(9, 0)] 6 := by
  intro d M0 Q p o hd hD k
  refine wp_iconst dX8_atom3_0 (by decide) ?_
  refine wp_istore_n (loc' := [(2, 69), (0, 0)]) dX8_atom3_1 rfl (Nat.le_of_ble_eq_true rfl) rfl ?_
  refine wp_aload_n dX8_atom3_2 rfl rfl ?_
  refine wp_bipush dX8_atom3_3 (by decide) (by decide) ?_
  refine wp_callV0 (d' := d - 1) cv_RX8_222 69 rfl [(0, 45)] [] rfl rfl (Or.inl ⟨_, _, rfl, by decide, rfl, by omega, by omega⟩) (by omega) (Nat.le_of_ble_eq_true rfl) dX8_atom3_5 rfl (Nat.le_of_ble_eq_true rfl) (by omega) (loc1 := [(2, 69), (0, 45)]) rfl ?_
  refine sp_isSd hn hD ?_
  refine wp_if_eq (tgt := 37) dX8_atom3_8 (by decide) (fun _ => ?_) (fun h => absurd h (by decide))
  refine wp_aload_n dX8_atom3_37 rfl rfl ?_
  refine wp_bipush dX8_atom3_38 (by decide) (by decide) ?_
  refine wp_callV0 (d' := d - 1) cv_RX8_222 69 rfl [(0, 40)] [] rfl rfl (Or.inl ⟨_, _, rfl, by decide, rfl, by omega, by omega⟩) (by omega) (Nat.le_of_ble_eq_true rfl) dX8_atom3_40 rfl (Nat.le_of_ble_eq_true rfl) (by omega) (loc1 := [(2, 69), (0, 40)]) rfl ?_
  refine sp_isSd hn hD ?_
  refine wp_if_eq (tgt := 95) dX8_atom3_43 (by decide) (fun _ => ?_) (fun h => absurd h (by decide))
  refine wp_aload_n dX8_atom3_95 rfl rfl ?_
  refine wp_get 69 rfl fl_RX8_181 rfl ⟨by omega, by omega⟩ dX8_atom3_96 rfl (v := 1) (hD.2.2.1) ?_
  refine wp_if_ne (tgt := 123) dX8_atom3_99 (by decide) (fun _ => ?_) (fun h => absurd h (by decide))
  refine wp_aload_n dX8_atom3_123 rfl rfl ?_
  refine wp_get 69 rfl fl_RX8_181 rfl ⟨by omega, by omega⟩ dX8_atom3_124 rfl (v := 1) (hD.2.2.1) ?_
  refine wp_if_ne (tgt := 157) dX8_atom3_127 (by decide) (fun _ => ?_) (fun h => absurd h (by decide))
  refine wp_aload_n dX8_atom3_157 rfl rfl ?_
  refine wp_callV0 (d' := d - 1) cv_RX8_194 69 rfl [] [] rfl rfl (Or.inl ⟨_, _, rfl, by decide, rfl, by omega, by omega⟩) (by omega) (Nat.le_of_ble_eq_true rfl) dX8_atom3_158 rfl (Nat.le_of_ble_eq_true rfl) (by omega) (loc1 := [(2, 69)]) rfl ?_
  refine sp_failmD hn hD ?_
  refine wp_iload_n dX8_atom3_161 rfl rfl ?_
  refine wp_iret rfl dX8_atom3_162 ?_
  exact k _ _ ((Fr.rf : Fr VMr M0 M0)) hD
set_option maxRecDepth 20000 in
set_option maxHeartbeats 4000000 in
theorem cmd_term3 {l : Launch} {g : Gw} {n : Nat} (hn : 90 ≤ n) {t : Nat} {f : Nat → Int} {z : Int} {e : Int → Int} : CMd' l g n t f z e m_X8_term3 [(9, 0)] 7 := by
  intro d M0 Q p o hd hD k
  refine wp_aload_n dX8_term3_0 rfl rfl ?_
  refine wp_callV0 (d' := d - 1) cv_RX8_273 69 rfl [] [] rfl rfl (Or.inl ⟨_, _, rfl, by decide, rfl, by omega, by omega⟩) (by omega) (Nat.le_of_ble_eq_true rfl) dX8_term3_1 rfl (Nat.le_of_ble_eq_true rfl) (by omega) (loc1 := [(2, 69), (9, 0)]) rfl ?_
  refine (cmd_atom3 hn) _ _ _ _ _ (by omega) hD (fun M1 w1 f1 D1 => ?_)
  have F1 := ((Fr.rf : Fr VMr M0 M0)).tr f1
  refine wp_istore_n (loc' := [(2, 69), (0, w1)]) dX8_term3_4 rfl (Nat.le_of_ble_eq_true rfl) rfl ?_
  refine wp_aload_n dX8_term3_5 rfl rfl ?_
  refine wp_bipush dX8_term3_6 (by decide) (by decide) ?_
  refine wp_callV0 (d' := d - 1) cv_RX8_222 69 rfl [(0, 42)] [] rfl rfl (Or.inl ⟨_, _, rfl, by decide, rfl, by omega, by omega⟩) (by omega) (Nat.le_of_ble_eq_true rfl) dX8_term3_8 rfl (Nat.le_of_ble_eq_true rfl) (by omega) (loc1 := [(2, 69), (0, 42)]) rfl ?_
  refine sp_isSd hn D1 ?_
  refine wp_if_eq (tgt := 28) dX8_term3_11 (by decide) (fun _ => ?_) (fun h => absurd h (by decide))
  refine wp_iload_n dX8_term3_28 rfl rfl ?_
  refine wp_iret rfl dX8_term3_29 ?_
  exact k _ _ (F1) D1
set_option maxRecDepth 20000 in
set_option maxHeartbeats 4000000 in
theorem lqd_term3 {l : Launch} {g : Gw} {n : Nat} (hn : 90 ≤ n) {t : Nat} {f : Nat → Int} {z : Int} {e : Int → Int} {d : Nat} (hd : 2 ≤ d) {M0 : Mm} {Q : Option Wd → Mm → Prop} {p : Nat} {o v : Int} (hD : DJm M0 t f z p o e) (k : ∀ M' w, Fr VMr M0 M' → DJm M' t f z p o e → Q (some (0, w)) M') : Wp l g d 0 0 n m_X8_term3 5 [] [(2, 69), (0, v)] M0 Q := by
  refine wp_aload_n dX8_term3_5 rfl rfl ?_
  refine wp_bipush dX8_term3_6 (by decide) (by decide) ?_
  refine wp_callV0 (d' := d - 1) cv_RX8_222 69 rfl [(0, 42)] [] rfl rfl (Or.inl ⟨_, _, rfl, by decide, rfl, by omega, by omega⟩) (by omega) (Nat.le_of_ble_eq_true rfl) dX8_term3_8 rfl (Nat.le_of_ble_eq_true rfl) (by omega) (loc1 := [(2, 69), (0, 42)]) rfl ?_
  refine sp_isSd hn hD ?_
  refine wp_if_eq (tgt := 28) dX8_term3_11 (by decide) (fun _ => ?_) (fun h => absurd h (by decide))
  refine wp_iload_n dX8_term3_28 rfl rfl ?_
  refine wp_iret rfl dX8_term3_29 ?_
  exact k _ _ ((Fr.rf : Fr VMr M0 M0)) hD
set_option maxRecDepth 20000 in
set_option maxHeartbeats 4000000 in
theorem cmd_added3 {l : Launch} {g : Gw} {n : Nat} (hn : 90 ≤ n) {t : Nat} {f : Nat → Int} {z : Int} {e : Int → Int} : CMd' l g n t f z e m_X8_added3 [(9, 0), (9, 0), (9, 0)] 8 := by
  intro d M0 Q p o hd hD k
  refine wp_aload_n dX8_added3_0 rfl rfl ?_
  refine wp_callV0 (d' := d - 1) cv_RX8_276 69 rfl [] [] rfl rfl (Or.inl ⟨_, _, rfl, by decide, rfl, by omega, by omega⟩) (by omega) (Nat.le_of_ble_eq_true rfl) dX8_added3_1 rfl (Nat.le_of_ble_eq_true rfl) (by omega) (loc1 := [(2, 69), (9, 0)]) rfl ?_
  refine (cmd_term3 hn) _ _ _ _ _ (by omega) hD (fun M1 w1 f1 D1 => ?_)
  have F1 := ((Fr.rf : Fr VMr M0 M0)).tr f1
  refine wp_istore_n (loc' := [(2, 69), (0, w1), (9, 0), (9, 0)]) dX8_added3_4 rfl (Nat.le_of_ble_eq_true rfl) rfl ?_
  refine wp_aload_n dX8_added3_5 rfl rfl ?_
  refine wp_bipush dX8_added3_6 (by decide) (by decide) ?_
  refine wp_callV0 (d' := d - 1) cv_RX8_222 69 rfl [(0, 43)] [] rfl rfl (Or.inl ⟨_, _, rfl, by decide, rfl, by omega, by omega⟩) (by omega) (Nat.le_of_ble_eq_true rfl) dX8_added3_8 rfl (Nat.le_of_ble_eq_true rfl) (by omega) (loc1 := [(2, 69), (0, 43)]) rfl ?_
  refine sp_isSd hn D1 ?_
  refine wp_if_ne (tgt := 23) dX8_added3_11 (by decide) (fun h => absurd h (by decide)) (fun _ => ?_)
  refine wp_aload_n dX8_added3_14 rfl rfl ?_
  refine wp_bipush dX8_added3_15 (by decide) (by decide) ?_
  refine wp_callV0 (d' := d - 1) cv_RX8_222 69 rfl [(0, 45)] [] rfl rfl (Or.inl ⟨_, _, rfl, by decide, rfl, by omega, by omega⟩) (by omega) (Nat.le_of_ble_eq_true rfl) dX8_added3_17 rfl (Nat.le_of_ble_eq_true rfl) (by omega) (loc1 := [(2, 69), (0, 45)]) rfl ?_
  refine sp_isSd hn D1 ?_
  refine wp_if_eq (tgt := 66) dX8_added3_20 (by decide) (fun _ => ?_) (fun h => absurd h (by decide))
  refine wp_iload_n dX8_added3_66 rfl rfl ?_
  refine wp_iret rfl dX8_added3_67 ?_
  exact k _ _ (F1) D1
set_option maxRecDepth 20000 in
set_option maxHeartbeats 4000000 in
theorem lqd_added3 {l : Launch} {g : Gw} {n : Nat} (hn : 90 ≤ n) {t : Nat} {f : Nat → Int} {z : Int} {e : Int → Int} {d : Nat} (hd : 2 ≤ d) {M0 : Mm} {Q : Option Wd → Mm → Prop} {p : Nat} {o v : Int} {u2 : Wd} {u3 : Wd} (hD : DJm M0 t f z p o e) (k : ∀ M' w, Fr VMr M0 M' → DJm M' t f z p o e → Q (some (0, w)) M') : Wp l g d 0 0 n m_X8_added3 5 [] [(2, 69), (0, v), u2, u3] M0 Q := by
  refine wp_aload_n dX8_added3_5 rfl rfl ?_
  refine wp_bipush dX8_added3_6 (by decide) (by decide) ?_
  refine wp_callV0 (d' := d - 1) cv_RX8_222 69 rfl [(0, 43)] [] rfl rfl (Or.inl ⟨_, _, rfl, by decide, rfl, by omega, by omega⟩) (by omega) (Nat.le_of_ble_eq_true rfl) dX8_added3_8 rfl (Nat.le_of_ble_eq_true rfl) (by omega) (loc1 := [(2, 69), (0, 43)]) rfl ?_
  refine sp_isSd hn hD ?_
  refine wp_if_ne (tgt := 23) dX8_added3_11 (by decide) (fun h => absurd h (by decide)) (fun _ => ?_)
  refine wp_aload_n dX8_added3_14 rfl rfl ?_
  refine wp_bipush dX8_added3_15 (by decide) (by decide) ?_
  refine wp_callV0 (d' := d - 1) cv_RX8_222 69 rfl [(0, 45)] [] rfl rfl (Or.inl ⟨_, _, rfl, by decide, rfl, by omega, by omega⟩) (by omega) (Nat.le_of_ble_eq_true rfl) dX8_added3_17 rfl (Nat.le_of_ble_eq_true rfl) (by omega) (loc1 := [(2, 69), (0, 45)]) rfl ?_
  refine sp_isSd hn hD ?_
  refine wp_if_eq (tgt := 66) dX8_added3_20 (by decide) (fun _ => ?_) (fun h => absurd h (by decide))
  refine wp_iload_n dX8_added3_66 rfl rfl ?_
  refine wp_iret rfl dX8_added3_67 ?_
  exact k _ _ ((Fr.rf : Fr VMr M0 M0)) hD
set_option maxRecDepth 20000 in
set_option maxHeartbeats 4000000 in
theorem cmd_not3 {l : Launch} {g : Gw} {n : Nat} (hn : 90 ≤ n) {t : Nat} {f : Nat → Int} {z : Int} {e : Int → Int} : CMd' l g n t f z e m_X8_not3 [(9, 0), (9, 0), (9, 0)] 9 := by
  intro d M0 Q p o hd hD k
  refine wp_aload_n dX8_not3_0 rfl rfl ?_
  refine wp_bipush dX8_not3_1 (by decide) (by decide) ?_
  refine wp_bipush dX8_not3_3 (by decide) (by decide) ?_
  refine wp_bipush dX8_not3_5 (by decide) (by decide) ?_
  refine wp_iconst dX8_not3_7 (by decide) ?_
  refine wp_iconst dX8_not3_8 (by decide) ?_
  refine wp_iconst dX8_not3_9 (by decide) ?_
  refine wp_iconst dX8_not3_10 (by decide) ?_
  refine wp_iconst dX8_not3_11 (by decide) ?_
  refine wp_callV0 (d' := d - 1) cv_RX8_200 69 rfl [(0, 110), (0, 111), (0, 116), (0, 0), (0, 0), (0, 0), (0, 0), (0, 0)] [] rfl rfl (Or.inl ⟨_, _, rfl, by decide, rfl, by omega, by omega⟩) (by omega) (Nat.le_of_ble_eq_true rfl) dX8_not3_12 rfl (Nat.le_of_ble_eq_true rfl) (by omega) (loc1 := [(2, 69), (0, 110), (0, 111), (0, 116), (0, 0), (0, 0), (0, 0), (0, 0), (0, 0)]) rfl ?_
  refine sp_isWd hn hD ?_
  refine wp_if_eq (tgt := 52) dX8_not3_15 (by decide) (fun _ => ?_) (fun h => absurd h (by decide))
  refine wp_aload_n dX8_not3_52 rfl rfl ?_
  refine wp_callV0 (d' := d - 1) cv_RX8_279 69 rfl [] [] rfl rfl (Or.inl ⟨_, _, rfl, by decide, rfl, by omega, by omega⟩) (by omega) (Nat.le_of_ble_eq_true rfl) dX8_not3_53 rfl (Nat.le_of_ble_eq_true rfl) (by omega) (loc1 := [(2, 69), (9, 0), (9, 0), (9, 0)]) rfl ?_
  refine (cmd_added3 hn) _ _ _ _ _ (by omega) hD (fun M2 w2 f2 D2 => ?_)
  have F2 := ((Fr.rf : Fr VMr M0 M0)).tr f2
  refine wp_istore_n (loc' := [(2, 69), (0, w2), (9, 0), (9, 0)]) dX8_not3_56 rfl (Nat.le_of_ble_eq_true rfl) rfl ?_
  refine wp_aload_n dX8_not3_57 rfl rfl ?_
  refine wp_bipush dX8_not3_58 (by decide) (by decide) ?_
  refine wp_callV0 (d' := d - 1) cv_RX8_222 69 rfl [(0, 60)] [] rfl rfl (Or.inl ⟨_, _, rfl, by decide, rfl, by omega, by omega⟩) (by omega) (Nat.le_of_ble_eq_true rfl) dX8_not3_60 rfl (Nat.le_of_ble_eq_true rfl) (by omega) (loc1 := [(2, 69), (0, 60)]) rfl ?_
  refine sp_isSd hn D2 ?_
  refine wp_if_ne (tgt := 77) dX8_not3_63 (by decide) (fun h => absurd h (by decide)) (fun _ => ?_)
  refine wp_aload_n dX8_not3_66 rfl rfl ?_
  refine wp_bipush dX8_not3_67 (by decide) (by decide) ?_
  refine wp_callV0 (d' := d - 1) cv_RX8_222 69 rfl [(0, 61)] [] rfl rfl (Or.inl ⟨_, _, rfl, by decide, rfl, by omega, by omega⟩) (by omega) (Nat.le_of_ble_eq_true rfl) dX8_not3_69 rfl (Nat.le_of_ble_eq_true rfl) (by omega) (loc1 := [(2, 69), (0, 61)]) rfl ?_
  refine sp_isSd hn D2 ?_
  refine wp_if_ne (tgt := 77) dX8_not3_72 (by decide) (fun h => absurd h (by decide)) (fun _ => ?_)
  refine wp_iload_n dX8_not3_75 rfl rfl ?_
  refine wp_iret rfl dX8_not3_76 ?_
  exact k _ _ (F2) D2
set_option maxRecDepth 20000 in
set_option maxHeartbeats 4000000 in
theorem cmd_both3 {l : Launch} {g : Gw} {n : Nat} (hn : 90 ≤ n) {t : Nat} {f : Nat → Int} {z : Int} {e : Int → Int} : CMd' l g n t f z e m_X8_both3 [(9, 0), (9, 0)] 10 := by
  intro d M0 Q p o hd hD k
  refine wp_aload_n dX8_both3_0 rfl rfl ?_
  refine wp_callV0 (d' := d - 1) cv_RX8_282 69 rfl [] [] rfl rfl (Or.inl ⟨_, _, rfl, by decide, rfl, by omega, by omega⟩) (by omega) (Nat.le_of_ble_eq_true rfl) dX8_both3_1 rfl (Nat.le_of_ble_eq_true rfl) (by omega) (loc1 := [(2, 69), (9, 0), (9, 0), (9, 0)]) rfl ?_
  refine (cmd_not3 hn) _ _ _ _ _ (by omega) hD (fun M1 w1 f1 D1 => ?_)
  have F1 := ((Fr.rf : Fr VMr M0 M0)).tr f1
  refine wp_istore_n (loc' := [(2, 69), (0, w1), (9, 0)]) dX8_both3_4 rfl (Nat.le_of_ble_eq_true rfl) rfl ?_
  refine wp_aload_n dX8_both3_5 rfl rfl ?_
  refine wp_bipush dX8_both3_6 (by decide) (by decide) ?_
  refine wp_bipush dX8_both3_8 (by decide) (by decide) ?_
  refine wp_bipush dX8_both3_10 (by decide) (by decide) ?_
  refine wp_iconst dX8_both3_12 (by decide) ?_
  refine wp_iconst dX8_both3_13 (by decide) ?_
  refine wp_iconst dX8_both3_14 (by decide) ?_
  refine wp_iconst dX8_both3_15 (by decide) ?_
  refine wp_iconst dX8_both3_16 (by decide) ?_
  refine wp_callV0 (d' := d - 1) cv_RX8_200 69 rfl [(0, 97), (0, 110), (0, 100), (0, 0), (0, 0), (0, 0), (0, 0), (0, 0)] [] rfl rfl (Or.inl ⟨_, _, rfl, by decide, rfl, by omega, by omega⟩) (by omega) (Nat.le_of_ble_eq_true rfl) dX8_both3_17 rfl (Nat.le_of_ble_eq_true rfl) (by omega) (loc1 := [(2, 69), (0, 97), (0, 110), (0, 100), (0, 0), (0, 0), (0, 0), (0, 0), (0, 0)]) rfl ?_
  refine sp_isWd hn D1 ?_
  refine wp_if_eq (tgt := 49) dX8_both3_20 (by decide) (fun _ => ?_) (fun h => absurd h (by decide))
  refine wp_iload_n dX8_both3_49 rfl rfl ?_
  refine wp_iret rfl dX8_both3_50 ?_
  exact k _ _ (F1) D1
set_option maxRecDepth 20000 in
set_option maxHeartbeats 4000000 in
theorem lqd_both3 {l : Launch} {g : Gw} {n : Nat} (hn : 90 ≤ n) {t : Nat} {f : Nat → Int} {z : Int} {e : Int → Int} {d : Nat} (hd : 2 ≤ d) {M0 : Mm} {Q : Option Wd → Mm → Prop} {p : Nat} {o v : Int} {u2 : Wd} (hD : DJm M0 t f z p o e) (k : ∀ M' w, Fr VMr M0 M' → DJm M' t f z p o e → Q (some (0, w)) M') : Wp l g d 0 0 n m_X8_both3 5 [] [(2, 69), (0, v), u2] M0 Q := by
  refine wp_aload_n dX8_both3_5 rfl rfl ?_
  refine wp_bipush dX8_both3_6 (by decide) (by decide) ?_
  refine wp_bipush dX8_both3_8 (by decide) (by decide) ?_
  refine wp_bipush dX8_both3_10 (by decide) (by decide) ?_
  refine wp_iconst dX8_both3_12 (by decide) ?_
  refine wp_iconst dX8_both3_13 (by decide) ?_
  refine wp_iconst dX8_both3_14 (by decide) ?_
  refine wp_iconst dX8_both3_15 (by decide) ?_
  refine wp_iconst dX8_both3_16 (by decide) ?_
  refine wp_callV0 (d' := d - 1) cv_RX8_200 69 rfl [(0, 97), (0, 110), (0, 100), (0, 0), (0, 0), (0, 0), (0, 0), (0, 0)] [] rfl rfl (Or.inl ⟨_, _, rfl, by decide, rfl, by omega, by omega⟩) (by omega) (Nat.le_of_ble_eq_true rfl) dX8_both3_17 rfl (Nat.le_of_ble_eq_true rfl) (by omega) (loc1 := [(2, 69), (0, 97), (0, 110), (0, 100), (0, 0), (0, 0), (0, 0), (0, 0), (0, 0)]) rfl ?_
  refine sp_isWd hn hD ?_
  refine wp_if_eq (tgt := 49) dX8_both3_20 (by decide) (fun _ => ?_) (fun h => absurd h (by decide))
  refine wp_iload_n dX8_both3_49 rfl rfl ?_
  refine wp_iret rfl dX8_both3_50 ?_
  exact k _ _ ((Fr.rf : Fr VMr M0 M0)) hD
set_option maxRecDepth 20000 in
set_option maxHeartbeats 4000000 in
theorem cmd_either3 {l : Launch} {g : Gw} {n : Nat} (hn : 90 ≤ n) {t : Nat} {f : Nat → Int} {z : Int} {e : Int → Int} : CMd' l g n t f z e m_X8_either3 [(9, 0), (9, 0)] 11 := by
  intro d M0 Q p o hd hD k
  refine wp_aload_n dX8_either3_0 rfl rfl ?_
  refine wp_callV0 (d' := d - 1) cv_RX8_285 69 rfl [] [] rfl rfl (Or.inl ⟨_, _, rfl, by decide, rfl, by omega, by omega⟩) (by omega) (Nat.le_of_ble_eq_true rfl) dX8_either3_1 rfl (Nat.le_of_ble_eq_true rfl) (by omega) (loc1 := [(2, 69), (9, 0), (9, 0)]) rfl ?_
  refine (cmd_both3 hn) _ _ _ _ _ (by omega) hD (fun M1 w1 f1 D1 => ?_)
  have F1 := ((Fr.rf : Fr VMr M0 M0)).tr f1
  refine wp_istore_n (loc' := [(2, 69), (0, w1), (9, 0)]) dX8_either3_4 rfl (Nat.le_of_ble_eq_true rfl) rfl ?_
  refine wp_aload_n dX8_either3_5 rfl rfl ?_
  refine wp_bipush dX8_either3_6 (by decide) (by decide) ?_
  refine wp_bipush dX8_either3_8 (by decide) (by decide) ?_
  refine wp_iconst dX8_either3_10 (by decide) ?_
  refine wp_iconst dX8_either3_11 (by decide) ?_
  refine wp_iconst dX8_either3_12 (by decide) ?_
  refine wp_iconst dX8_either3_13 (by decide) ?_
  refine wp_iconst dX8_either3_14 (by decide) ?_
  refine wp_iconst dX8_either3_15 (by decide) ?_
  refine wp_callV0 (d' := d - 1) cv_RX8_200 69 rfl [(0, 111), (0, 114), (0, 0), (0, 0), (0, 0), (0, 0), (0, 0), (0, 0)] [] rfl rfl (Or.inl ⟨_, _, rfl, by decide, rfl, by omega, by omega⟩) (by omega) (Nat.le_of_ble_eq_true rfl) dX8_either3_16 rfl (Nat.le_of_ble_eq_true rfl) (by omega) (loc1 := [(2, 69), (0, 111), (0, 114), (0, 0), (0, 0), (0, 0), (0, 0), (0, 0), (0, 0)]) rfl ?_
  refine sp_isWd hn D1 ?_
  refine wp_if_eq (tgt := 48) dX8_either3_19 (by decide) (fun _ => ?_) (fun h => absurd h (by decide))
  refine wp_iload_n dX8_either3_48 rfl rfl ?_
  refine wp_iret rfl dX8_either3_49 ?_
  exact k _ _ (F1) D1
set_option maxRecDepth 20000 in
set_option maxHeartbeats 4000000 in
theorem lqd_either3 {l : Launch} {g : Gw} {n : Nat} (hn : 90 ≤ n) {t : Nat} {f : Nat → Int} {z : Int} {e : Int → Int} {d : Nat} (hd : 2 ≤ d) {M0 : Mm} {Q : Option Wd → Mm → Prop} {p : Nat} {o v : Int} {u2 : Wd} (hD : DJm M0 t f z p o e) (k : ∀ M' w, Fr VMr M0 M' → DJm M' t f z p o e → Q (some (0, w)) M') : Wp l g d 0 0 n m_X8_either3 5 [] [(2, 69), (0, v), u2] M0 Q := by
  refine wp_aload_n dX8_either3_5 rfl rfl ?_
  refine wp_bipush dX8_either3_6 (by decide) (by decide) ?_
  refine wp_bipush dX8_either3_8 (by decide) (by decide) ?_
  refine wp_iconst dX8_either3_10 (by decide) ?_
  refine wp_iconst dX8_either3_11 (by decide) ?_
  refine wp_iconst dX8_either3_12 (by decide) ?_
  refine wp_iconst dX8_either3_13 (by decide) ?_
  refine wp_iconst dX8_either3_14 (by decide) ?_
  refine wp_iconst dX8_either3_15 (by decide) ?_
  refine wp_callV0 (d' := d - 1) cv_RX8_200 69 rfl [(0, 111), (0, 114), (0, 0), (0, 0), (0, 0), (0, 0), (0, 0), (0, 0)] [] rfl rfl (Or.inl ⟨_, _, rfl, by decide, rfl, by omega, by omega⟩) (by omega) (Nat.le_of_ble_eq_true rfl) dX8_either3_16 rfl (Nat.le_of_ble_eq_true rfl) (by omega) (loc1 := [(2, 69), (0, 111), (0, 114), (0, 0), (0, 0), (0, 0), (0, 0), (0, 0), (0, 0)]) rfl ?_
  refine sp_isWd hn hD ?_
  refine wp_if_eq (tgt := 48) dX8_either3_19 (by decide) (fun _ => ?_) (fun h => absurd h (by decide))
  refine wp_iload_n dX8_either3_48 rfl rfl ?_
  refine wp_iret rfl dX8_either3_49 ?_
  exact k _ _ ((Fr.rf : Fr VMr M0 M0)) hD
set_option maxRecDepth 20000 in
set_option maxHeartbeats 4000000 in
theorem cmd_atom4 {l : Launch} {g : Gw} {n : Nat} (hn : 90 ≤ n) {t : Nat} {f : Nat → Int} {z : Int} {e : Int → Int} : CMd' l g n t f z e m_X8_atom4 [(9, 0)] 6 := by
  intro d M0 Q p o hd hD k
  refine wp_iconst dX8_atom4_0 (by decide) ?_
  refine wp_istore_n (loc' := [(2, 69), (0, 0)]) dX8_atom4_1 rfl (Nat.le_of_ble_eq_true rfl) rfl ?_
  refine wp_aload_n dX8_atom4_2 rfl rfl ?_
  refine wp_bipush dX8_atom4_3 (by decide) (by decide) ?_
  refine wp_callV0 (d' := d - 1) cv_RX8_222 69 rfl [(0, 45)] [] rfl rfl (Or.inl ⟨_, _, rfl, by decide, rfl, by omega, by omega⟩) (by omega) (Nat.le_of_ble_eq_true rfl) dX8_atom4_5 rfl (Nat.le_of_ble_eq_true rfl) (by omega) (loc1 := [(2, 69), (0, 45)]) rfl ?_
  refine sp_isSd hn hD ?_
  refine wp_if_eq (tgt := 37) dX8_atom4_8 (by decide) (fun _ => ?_) (fun h => absurd h (by decide))
  refine wp_aload_n dX8_atom4_37 rfl rfl ?_
  refine wp_bipush dX8_atom4_38 (by decide) (by decide) ?_
  refine wp_callV0 (d' := d - 1) cv_RX8_222 69 rfl [(0, 40)] [] rfl rfl (Or.inl ⟨_, _, rfl, by decide, rfl, by omega, by omega⟩) (by omega) (Nat.le_of_ble_eq_true rfl) dX8_atom4_40 rfl (Nat.le_of_ble_eq_true rfl) (by omega) (loc1 := [(2, 69), (0, 40)]) rfl ?_
  refine sp_isSd hn hD ?_
  refine wp_if_eq (tgt := 95) dX8_atom4_43 (by decide) (fun _ => ?_) (fun h => absurd h (by decide))
  refine wp_aload_n dX8_atom4_95 rfl rfl ?_
  refine wp_get 69 rfl fl_RX8_181 rfl ⟨by omega, by omega⟩ dX8_atom4_96 rfl (v := 1) (hD.2.2.1) ?_
  refine wp_if_ne (tgt := 123) dX8_atom4_99 (by decide) (fun _ => ?_) (fun h => absurd h (by decide))
  refine wp_aload_n dX8_atom4_123 rfl rfl ?_
  refine wp_get 69 rfl fl_RX8_181 rfl ⟨by omega, by omega⟩ dX8_atom4_124 rfl (v := 1) (hD.2.2.1) ?_
  refine wp_if_ne (tgt := 157) dX8_atom4_127 (by decide) (fun _ => ?_) (fun h => absurd h (by decide))
  refine wp_aload_n dX8_atom4_157 rfl rfl ?_
  refine wp_callV0 (d' := d - 1) cv_RX8_194 69 rfl [] [] rfl rfl (Or.inl ⟨_, _, rfl, by decide, rfl, by omega, by omega⟩) (by omega) (Nat.le_of_ble_eq_true rfl) dX8_atom4_158 rfl (Nat.le_of_ble_eq_true rfl) (by omega) (loc1 := [(2, 69)]) rfl ?_
  refine sp_failmD hn hD ?_
  refine wp_iload_n dX8_atom4_161 rfl rfl ?_
  refine wp_iret rfl dX8_atom4_162 ?_
  exact k _ _ ((Fr.rf : Fr VMr M0 M0)) hD
set_option maxRecDepth 20000 in
set_option maxHeartbeats 4000000 in
theorem cmd_term4 {l : Launch} {g : Gw} {n : Nat} (hn : 90 ≤ n) {t : Nat} {f : Nat → Int} {z : Int} {e : Int → Int} : CMd' l g n t f z e m_X8_term4 [(9, 0)] 7 := by
  intro d M0 Q p o hd hD k
  refine wp_aload_n dX8_term4_0 rfl rfl ?_
  refine wp_callV0 (d' := d - 1) cv_RX8_255 69 rfl [] [] rfl rfl (Or.inl ⟨_, _, rfl, by decide, rfl, by omega, by omega⟩) (by omega) (Nat.le_of_ble_eq_true rfl) dX8_term4_1 rfl (Nat.le_of_ble_eq_true rfl) (by omega) (loc1 := [(2, 69), (9, 0)]) rfl ?_
  refine (cmd_atom4 hn) _ _ _ _ _ (by omega) hD (fun M1 w1 f1 D1 => ?_)
  have F1 := ((Fr.rf : Fr VMr M0 M0)).tr f1
  refine wp_istore_n (loc' := [(2, 69), (0, w1)]) dX8_term4_4 rfl (Nat.le_of_ble_eq_true rfl) rfl ?_
  refine wp_aload_n dX8_term4_5 rfl rfl ?_
  refine wp_bipush dX8_term4_6 (by decide) (by decide) ?_
  refine wp_callV0 (d' := d - 1) cv_RX8_222 69 rfl [(0, 42)] [] rfl rfl (Or.inl ⟨_, _, rfl, by decide, rfl, by omega, by omega⟩) (by omega) (Nat.le_of_ble_eq_true rfl) dX8_term4_8 rfl (Nat.le_of_ble_eq_true rfl) (by omega) (loc1 := [(2, 69), (0, 42)]) rfl ?_
  refine sp_isSd hn D1 ?_
  refine wp_if_eq (tgt := 28) dX8_term4_11 (by decide) (fun _ => ?_) (fun h => absurd h (by decide))
  refine wp_iload_n dX8_term4_28 rfl rfl ?_
  refine wp_iret rfl dX8_term4_29 ?_
  exact k _ _ (F1) D1
set_option maxRecDepth 20000 in
set_option maxHeartbeats 4000000 in
theorem lqd_term4 {l : Launch} {g : Gw} {n : Nat} (hn : 90 ≤ n) {t : Nat} {f : Nat → Int} {z : Int} {e : Int → Int} {d : Nat} (hd : 2 ≤ d) {M0 : Mm} {Q : Option Wd → Mm → Prop} {p : Nat} {o v : Int} (hD : DJm M0 t f z p o e) (k : ∀ M' w, Fr VMr M0 M' → DJm M' t f z p o e → Q (some (0, w)) M') : Wp l g d 0 0 n m_X8_term4 5 [] [(2, 69), (0, v)] M0 Q := by
  refine wp_aload_n dX8_term4_5 rfl rfl ?_
  refine wp_bipush dX8_term4_6 (by decide) (by decide) ?_
  refine wp_callV0 (d' := d - 1) cv_RX8_222 69 rfl [(0, 42)] [] rfl rfl (Or.inl ⟨_, _, rfl, by decide, rfl, by omega, by omega⟩) (by omega) (Nat.le_of_ble_eq_true rfl) dX8_term4_8 rfl (Nat.le_of_ble_eq_true rfl) (by omega) (loc1 := [(2, 69), (0, 42)]) rfl ?_
  refine sp_isSd hn hD ?_
  refine wp_if_eq (tgt := 28) dX8_term4_11 (by decide) (fun _ => ?_) (fun h => absurd h (by decide))
  refine wp_iload_n dX8_term4_28 rfl rfl ?_
  refine wp_iret rfl dX8_term4_29 ?_
  exact k _ _ ((Fr.rf : Fr VMr M0 M0)) hD
set_option maxRecDepth 20000 in
set_option maxHeartbeats 4000000 in
theorem cmd_added4 {l : Launch} {g : Gw} {n : Nat} (hn : 90 ≤ n) {t : Nat} {f : Nat → Int} {z : Int} {e : Int → Int} : CMd' l g n t f z e m_X8_added4 [(9, 0), (9, 0), (9, 0)] 8 := by
  intro d M0 Q p o hd hD k
  refine wp_aload_n dX8_added4_0 rfl rfl ?_
  refine wp_callV0 (d' := d - 1) cv_RX8_258 69 rfl [] [] rfl rfl (Or.inl ⟨_, _, rfl, by decide, rfl, by omega, by omega⟩) (by omega) (Nat.le_of_ble_eq_true rfl) dX8_added4_1 rfl (Nat.le_of_ble_eq_true rfl) (by omega) (loc1 := [(2, 69), (9, 0)]) rfl ?_
  refine (cmd_term4 hn) _ _ _ _ _ (by omega) hD (fun M1 w1 f1 D1 => ?_)
  have F1 := ((Fr.rf : Fr VMr M0 M0)).tr f1
  refine wp_istore_n (loc' := [(2, 69), (0, w1), (9, 0), (9, 0)]) dX8_added4_4 rfl (Nat.le_of_ble_eq_true rfl) rfl ?_
  refine wp_aload_n dX8_added4_5 rfl rfl ?_
  refine wp_bipush dX8_added4_6 (by decide) (by decide) ?_
  refine wp_callV0 (d' := d - 1) cv_RX8_222 69 rfl [(0, 43)] [] rfl rfl (Or.inl ⟨_, _, rfl, by decide, rfl, by omega, by omega⟩) (by omega) (Nat.le_of_ble_eq_true rfl) dX8_added4_8 rfl (Nat.le_of_ble_eq_true rfl) (by omega) (loc1 := [(2, 69), (0, 43)]) rfl ?_
  refine sp_isSd hn D1 ?_
  refine wp_if_ne (tgt := 23) dX8_added4_11 (by decide) (fun h => absurd h (by decide)) (fun _ => ?_)
  refine wp_aload_n dX8_added4_14 rfl rfl ?_
  refine wp_bipush dX8_added4_15 (by decide) (by decide) ?_
  refine wp_callV0 (d' := d - 1) cv_RX8_222 69 rfl [(0, 45)] [] rfl rfl (Or.inl ⟨_, _, rfl, by decide, rfl, by omega, by omega⟩) (by omega) (Nat.le_of_ble_eq_true rfl) dX8_added4_17 rfl (Nat.le_of_ble_eq_true rfl) (by omega) (loc1 := [(2, 69), (0, 45)]) rfl ?_
  refine sp_isSd hn D1 ?_
  refine wp_if_eq (tgt := 66) dX8_added4_20 (by decide) (fun _ => ?_) (fun h => absurd h (by decide))
  refine wp_iload_n dX8_added4_66 rfl rfl ?_
  refine wp_iret rfl dX8_added4_67 ?_
  exact k _ _ (F1) D1
set_option maxRecDepth 20000 in
set_option maxHeartbeats 4000000 in
theorem lqd_added4 {l : Launch} {g : Gw} {n : Nat} (hn : 90 ≤ n) {t : Nat} {f : Nat → Int} {z : Int} {e : Int → Int} {d : Nat} (hd : 2 ≤ d) {M0 : Mm} {Q : Option Wd → Mm → Prop} {p : Nat} {o v : Int} {u2 : Wd} {u3 : Wd} (hD : DJm M0 t f z p o e) (k : ∀ M' w, Fr VMr M0 M' → DJm M' t f z p o e → Q (some (0, w)) M') : Wp l g d 0 0 n m_X8_added4 5 [] [(2, 69), (0, v), u2, u3] M0 Q := by
  refine wp_aload_n dX8_added4_5 rfl rfl ?_
  refine wp_bipush dX8_added4_6 (by decide) (by decide) ?_
  refine wp_callV0 (d' := d - 1) cv_RX8_222 69 rfl [(0, 43)] [] rfl rfl (Or.inl ⟨_, _, rfl, by decide, rfl, by omega, by omega⟩) (by omega) (Nat.le_of_ble_eq_true rfl) dX8_added4_8 rfl (Nat.le_of_ble_eq_true rfl) (by omega) (loc1 := [(2, 69), (0, 43)]) rfl ?_
  refine sp_isSd hn hD ?_
  refine wp_if_ne (tgt := 23) dX8_added4_11 (by decide) (fun h => absurd h (by decide)) (fun _ => ?_)
  refine wp_aload_n dX8_added4_14 rfl rfl ?_
  refine wp_bipush dX8_added4_15 (by decide) (by decide) ?_
  refine wp_callV0 (d' := d - 1) cv_RX8_222 69 rfl [(0, 45)] [] rfl rfl (Or.inl ⟨_, _, rfl, by decide, rfl, by omega, by omega⟩) (by omega) (Nat.le_of_ble_eq_true rfl) dX8_added4_17 rfl (Nat.le_of_ble_eq_true rfl) (by omega) (loc1 := [(2, 69), (0, 45)]) rfl ?_
  refine sp_isSd hn hD ?_
  refine wp_if_eq (tgt := 66) dX8_added4_20 (by decide) (fun _ => ?_) (fun h => absurd h (by decide))
  refine wp_iload_n dX8_added4_66 rfl rfl ?_
  refine wp_iret rfl dX8_added4_67 ?_
  exact k _ _ ((Fr.rf : Fr VMr M0 M0)) hD
set_option maxRecDepth 20000 in
set_option maxHeartbeats 4000000 in
theorem cmd_not4 {l : Launch} {g : Gw} {n : Nat} (hn : 90 ≤ n) {t : Nat} {f : Nat → Int} {z : Int} {e : Int → Int} : CMd' l g n t f z e m_X8_not4 [(9, 0), (9, 0), (9, 0)] 9 := by
  intro d M0 Q p o hd hD k
  refine wp_aload_n dX8_not4_0 rfl rfl ?_
  refine wp_bipush dX8_not4_1 (by decide) (by decide) ?_
  refine wp_bipush dX8_not4_3 (by decide) (by decide) ?_
  refine wp_bipush dX8_not4_5 (by decide) (by decide) ?_
  refine wp_iconst dX8_not4_7 (by decide) ?_
  refine wp_iconst dX8_not4_8 (by decide) ?_
  refine wp_iconst dX8_not4_9 (by decide) ?_
  refine wp_iconst dX8_not4_10 (by decide) ?_
  refine wp_iconst dX8_not4_11 (by decide) ?_
  refine wp_callV0 (d' := d - 1) cv_RX8_200 69 rfl [(0, 110), (0, 111), (0, 116), (0, 0), (0, 0), (0, 0), (0, 0), (0, 0)] [] rfl rfl (Or.inl ⟨_, _, rfl, by decide, rfl, by omega, by omega⟩) (by omega) (Nat.le_of_ble_eq_true rfl) dX8_not4_12 rfl (Nat.le_of_ble_eq_true rfl) (by omega) (loc1 := [(2, 69), (0, 110), (0, 111), (0, 116), (0, 0), (0, 0), (0, 0), (0, 0), (0, 0)]) rfl ?_
  refine sp_isWd hn hD ?_
  refine wp_if_eq (tgt := 52) dX8_not4_15 (by decide) (fun _ => ?_) (fun h => absurd h (by decide))
  refine wp_aload_n dX8_not4_52 rfl rfl ?_
  refine wp_callV0 (d' := d - 1) cv_RX8_261 69 rfl [] [] rfl rfl (Or.inl ⟨_, _, rfl, by decide, rfl, by omega, by omega⟩) (by omega) (Nat.le_of_ble_eq_true rfl) dX8_not4_53 rfl (Nat.le_of_ble_eq_true rfl) (by omega) (loc1 := [(2, 69), (9, 0), (9, 0), (9, 0)]) rfl ?_
  refine (cmd_added4 hn) _ _ _ _ _ (by omega) hD (fun M2 w2 f2 D2 => ?_)
  have F2 := ((Fr.rf : Fr VMr M0 M0)).tr f2
  refine wp_istore_n (loc' := [(2, 69), (0, w2), (9, 0), (9, 0)]) dX8_not4_56 rfl (Nat.le_of_ble_eq_true rfl) rfl ?_
  refine wp_aload_n dX8_not4_57 rfl rfl ?_
  refine wp_bipush dX8_not4_58 (by decide) (by decide) ?_
  refine wp_callV0 (d' := d - 1) cv_RX8_222 69 rfl [(0, 60)] [] rfl rfl (Or.inl ⟨_, _, rfl, by decide, rfl, by omega, by omega⟩) (by omega) (Nat.le_of_ble_eq_true rfl) dX8_not4_60 rfl (Nat.le_of_ble_eq_true rfl) (by omega) (loc1 := [(2, 69), (0, 60)]) rfl ?_
  refine sp_isSd hn D2 ?_
  refine wp_if_ne (tgt := 77) dX8_not4_63 (by decide) (fun h => absurd h (by decide)) (fun _ => ?_)
  refine wp_aload_n dX8_not4_66 rfl rfl ?_
  refine wp_bipush dX8_not4_67 (by decide) (by decide) ?_
  refine wp_callV0 (d' := d - 1) cv_RX8_222 69 rfl [(0, 61)] [] rfl rfl (Or.inl ⟨_, _, rfl, by decide, rfl, by omega, by omega⟩) (by omega) (Nat.le_of_ble_eq_true rfl) dX8_not4_69 rfl (Nat.le_of_ble_eq_true rfl) (by omega) (loc1 := [(2, 69), (0, 61)]) rfl ?_
  refine sp_isSd hn D2 ?_
  refine wp_if_ne (tgt := 77) dX8_not4_72 (by decide) (fun h => absurd h (by decide)) (fun _ => ?_)
  refine wp_iload_n dX8_not4_75 rfl rfl ?_
  refine wp_iret rfl dX8_not4_76 ?_
  exact k _ _ (F2) D2
set_option maxRecDepth 20000 in
set_option maxHeartbeats 4000000 in
theorem cmd_both4 {l : Launch} {g : Gw} {n : Nat} (hn : 90 ≤ n) {t : Nat} {f : Nat → Int} {z : Int} {e : Int → Int} : CMd' l g n t f z e m_X8_both4 [(9, 0), (9, 0)] 10 := by
  intro d M0 Q p o hd hD k
  refine wp_aload_n dX8_both4_0 rfl rfl ?_
  refine wp_callV0 (d' := d - 1) cv_RX8_264 69 rfl [] [] rfl rfl (Or.inl ⟨_, _, rfl, by decide, rfl, by omega, by omega⟩) (by omega) (Nat.le_of_ble_eq_true rfl) dX8_both4_1 rfl (Nat.le_of_ble_eq_true rfl) (by omega) (loc1 := [(2, 69), (9, 0), (9, 0), (9, 0)]) rfl ?_
  refine (cmd_not4 hn) _ _ _ _ _ (by omega) hD (fun M1 w1 f1 D1 => ?_)
  have F1 := ((Fr.rf : Fr VMr M0 M0)).tr f1
  refine wp_istore_n (loc' := [(2, 69), (0, w1), (9, 0)]) dX8_both4_4 rfl (Nat.le_of_ble_eq_true rfl) rfl ?_
  refine wp_aload_n dX8_both4_5 rfl rfl ?_
  refine wp_bipush dX8_both4_6 (by decide) (by decide) ?_
  refine wp_bipush dX8_both4_8 (by decide) (by decide) ?_
  refine wp_bipush dX8_both4_10 (by decide) (by decide) ?_
  refine wp_iconst dX8_both4_12 (by decide) ?_
  refine wp_iconst dX8_both4_13 (by decide) ?_
  refine wp_iconst dX8_both4_14 (by decide) ?_
  refine wp_iconst dX8_both4_15 (by decide) ?_
  refine wp_iconst dX8_both4_16 (by decide) ?_
  refine wp_callV0 (d' := d - 1) cv_RX8_200 69 rfl [(0, 97), (0, 110), (0, 100), (0, 0), (0, 0), (0, 0), (0, 0), (0, 0)] [] rfl rfl (Or.inl ⟨_, _, rfl, by decide, rfl, by omega, by omega⟩) (by omega) (Nat.le_of_ble_eq_true rfl) dX8_both4_17 rfl (Nat.le_of_ble_eq_true rfl) (by omega) (loc1 := [(2, 69), (0, 97), (0, 110), (0, 100), (0, 0), (0, 0), (0, 0), (0, 0), (0, 0)]) rfl ?_
  refine sp_isWd hn D1 ?_
  refine wp_if_eq (tgt := 49) dX8_both4_20 (by decide) (fun _ => ?_) (fun h => absurd h (by decide))
  refine wp_iload_n dX8_both4_49 rfl rfl ?_
  refine wp_iret rfl dX8_both4_50 ?_
  exact k _ _ (F1) D1
set_option maxRecDepth 20000 in
set_option maxHeartbeats 4000000 in
theorem lqd_both4 {l : Launch} {g : Gw} {n : Nat} (hn : 90 ≤ n) {t : Nat} {f : Nat → Int} {z : Int} {e : Int → Int} {d : Nat} (hd : 2 ≤ d) {M0 : Mm} {Q : Option Wd → Mm → Prop} {p : Nat} {o v : Int} {u2 : Wd} (hD : DJm M0 t f z p o e) (k : ∀ M' w, Fr VMr M0 M' → DJm M' t f z p o e → Q (some (0, w)) M') : Wp l g d 0 0 n m_X8_both4 5 [] [(2, 69), (0, v), u2] M0 Q := by
  refine wp_aload_n dX8_both4_5 rfl rfl ?_
  refine wp_bipush dX8_both4_6 (by decide) (by decide) ?_
  refine wp_bipush dX8_both4_8 (by decide) (by decide) ?_
  refine wp_bipush dX8_both4_10 (by decide) (by decide) ?_
  refine wp_iconst dX8_both4_12 (by decide) ?_
  refine wp_iconst dX8_both4_13 (by decide) ?_
  refine wp_iconst dX8_both4_14 (by decide) ?_
  refine wp_iconst dX8_both4_15 (by decide) ?_
  refine wp_iconst dX8_both4_16 (by decide) ?_
  refine wp_callV0 (d' := d - 1) cv_RX8_200 69 rfl [(0, 97), (0, 110), (0, 100), (0, 0), (0, 0), (0, 0), (0, 0), (0, 0)] [] rfl rfl (Or.inl ⟨_, _, rfl, by decide, rfl, by omega, by omega⟩) (by omega) (Nat.le_of_ble_eq_true rfl) dX8_both4_17 rfl (Nat.le_of_ble_eq_true rfl) (by omega) (loc1 := [(2, 69), (0, 97), (0, 110), (0, 100), (0, 0), (0, 0), (0, 0), (0, 0), (0, 0)]) rfl ?_
  refine sp_isWd hn hD ?_
  refine wp_if_eq (tgt := 49) dX8_both4_20 (by decide) (fun _ => ?_) (fun h => absurd h (by decide))
  refine wp_iload_n dX8_both4_49 rfl rfl ?_
  refine wp_iret rfl dX8_both4_50 ?_
  exact k _ _ ((Fr.rf : Fr VMr M0 M0)) hD
set_option maxRecDepth 20000 in
set_option maxHeartbeats 4000000 in
theorem cmd_either4 {l : Launch} {g : Gw} {n : Nat} (hn : 90 ≤ n) {t : Nat} {f : Nat → Int} {z : Int} {e : Int → Int} : CMd' l g n t f z e m_X8_either4 [(9, 0), (9, 0)] 11 := by
  intro d M0 Q p o hd hD k
  refine wp_aload_n dX8_either4_0 rfl rfl ?_
  refine wp_callV0 (d' := d - 1) cv_RX8_267 69 rfl [] [] rfl rfl (Or.inl ⟨_, _, rfl, by decide, rfl, by omega, by omega⟩) (by omega) (Nat.le_of_ble_eq_true rfl) dX8_either4_1 rfl (Nat.le_of_ble_eq_true rfl) (by omega) (loc1 := [(2, 69), (9, 0), (9, 0)]) rfl ?_
  refine (cmd_both4 hn) _ _ _ _ _ (by omega) hD (fun M1 w1 f1 D1 => ?_)
  have F1 := ((Fr.rf : Fr VMr M0 M0)).tr f1
  refine wp_istore_n (loc' := [(2, 69), (0, w1), (9, 0)]) dX8_either4_4 rfl (Nat.le_of_ble_eq_true rfl) rfl ?_
  refine wp_aload_n dX8_either4_5 rfl rfl ?_
  refine wp_bipush dX8_either4_6 (by decide) (by decide) ?_
  refine wp_bipush dX8_either4_8 (by decide) (by decide) ?_
  refine wp_iconst dX8_either4_10 (by decide) ?_
  refine wp_iconst dX8_either4_11 (by decide) ?_
  refine wp_iconst dX8_either4_12 (by decide) ?_
  refine wp_iconst dX8_either4_13 (by decide) ?_
  refine wp_iconst dX8_either4_14 (by decide) ?_
  refine wp_iconst dX8_either4_15 (by decide) ?_
  refine wp_callV0 (d' := d - 1) cv_RX8_200 69 rfl [(0, 111), (0, 114), (0, 0), (0, 0), (0, 0), (0, 0), (0, 0), (0, 0)] [] rfl rfl (Or.inl ⟨_, _, rfl, by decide, rfl, by omega, by omega⟩) (by omega) (Nat.le_of_ble_eq_true rfl) dX8_either4_16 rfl (Nat.le_of_ble_eq_true rfl) (by omega) (loc1 := [(2, 69), (0, 111), (0, 114), (0, 0), (0, 0), (0, 0), (0, 0), (0, 0), (0, 0)]) rfl ?_
  refine sp_isWd hn D1 ?_
  refine wp_if_eq (tgt := 48) dX8_either4_19 (by decide) (fun _ => ?_) (fun h => absurd h (by decide))
  refine wp_iload_n dX8_either4_48 rfl rfl ?_
  refine wp_iret rfl dX8_either4_49 ?_
  exact k _ _ (F1) D1
set_option maxRecDepth 20000 in
set_option maxHeartbeats 4000000 in
theorem lqd_either4 {l : Launch} {g : Gw} {n : Nat} (hn : 90 ≤ n) {t : Nat} {f : Nat → Int} {z : Int} {e : Int → Int} {d : Nat} (hd : 2 ≤ d) {M0 : Mm} {Q : Option Wd → Mm → Prop} {p : Nat} {o v : Int} {u2 : Wd} (hD : DJm M0 t f z p o e) (k : ∀ M' w, Fr VMr M0 M' → DJm M' t f z p o e → Q (some (0, w)) M') : Wp l g d 0 0 n m_X8_either4 5 [] [(2, 69), (0, v), u2] M0 Q := by
  refine wp_aload_n dX8_either4_5 rfl rfl ?_
  refine wp_bipush dX8_either4_6 (by decide) (by decide) ?_
  refine wp_bipush dX8_either4_8 (by decide) (by decide) ?_
  refine wp_iconst dX8_either4_10 (by decide) ?_
  refine wp_iconst dX8_either4_11 (by decide) ?_
  refine wp_iconst dX8_either4_12 (by decide) ?_
  refine wp_iconst dX8_either4_13 (by decide) ?_
  refine wp_iconst dX8_either4_14 (by decide) ?_
  refine wp_iconst dX8_either4_15 (by decide) ?_
  refine wp_callV0 (d' := d - 1) cv_RX8_200 69 rfl [(0, 111), (0, 114), (0, 0), (0, 0), (0, 0), (0, 0), (0, 0), (0, 0)] [] rfl rfl (Or.inl ⟨_, _, rfl, by decide, rfl, by omega, by omega⟩) (by omega) (Nat.le_of_ble_eq_true rfl) dX8_either4_16 rfl (Nat.le_of_ble_eq_true rfl) (by omega) (loc1 := [(2, 69), (0, 111), (0, 114), (0, 0), (0, 0), (0, 0), (0, 0), (0, 0), (0, 0)]) rfl ?_
  refine sp_isWd hn hD ?_
  refine wp_if_eq (tgt := 48) dX8_either4_19 (by decide) (fun _ => ?_) (fun h => absurd h (by decide))
  refine wp_iload_n dX8_either4_48 rfl rfl ?_
  refine wp_iret rfl dX8_either4_49 ?_
  exact k _ _ ((Fr.rf : Fr VMr M0 M0)) hD
set_option maxRecDepth 20000 in
set_option maxHeartbeats 4000000 in
theorem cmd_atom5 {l : Launch} {g : Gw} {n : Nat} (hn : 90 ≤ n) {t : Nat} {f : Nat → Int} {z : Int} {e : Int → Int} : CMd' l g n t f z e m_X8_atom5 [(9, 0)] 6 := by
  intro d M0 Q p o hd hD k
  refine wp_iconst dX8_atom5_0 (by decide) ?_
  refine wp_istore_n (loc' := [(2, 69), (0, 0)]) dX8_atom5_1 rfl (Nat.le_of_ble_eq_true rfl) rfl ?_
  refine wp_aload_n dX8_atom5_2 rfl rfl ?_
  refine wp_bipush dX8_atom5_3 (by decide) (by decide) ?_
  refine wp_callV0 (d' := d - 1) cv_RX8_222 69 rfl [(0, 45)] [] rfl rfl (Or.inl ⟨_, _, rfl, by decide, rfl, by omega, by omega⟩) (by omega) (Nat.le_of_ble_eq_true rfl) dX8_atom5_5 rfl (Nat.le_of_ble_eq_true rfl) (by omega) (loc1 := [(2, 69), (0, 45)]) rfl ?_
  refine sp_isSd hn hD ?_
  refine wp_if_eq (tgt := 19) dX8_atom5_8 (by decide) (fun _ => ?_) (fun h => absurd h (by decide))
  refine wp_aload_n dX8_atom5_19 rfl rfl ?_
  refine wp_bipush dX8_atom5_20 (by decide) (by decide) ?_
  refine wp_callV0 (d' := d - 1) cv_RX8_222 69 rfl [(0, 40)] [] rfl rfl (Or.inl ⟨_, _, rfl, by decide, rfl, by omega, by omega⟩) (by omega) (Nat.le_of_ble_eq_true rfl) dX8_atom5_22 rfl (Nat.le_of_ble_eq_true rfl) (by omega) (loc1 := [(2, 69), (0, 40)]) rfl ?_
  refine sp_isSd hn hD ?_
  refine wp_if_eq (tgt := 36) dX8_atom5_25 (by decide) (fun _ => ?_) (fun h => absurd h (by decide))
  refine wp_aload_n dX8_atom5_36 rfl rfl ?_
  refine wp_get 69 rfl fl_RX8_181 rfl ⟨by omega, by omega⟩ dX8_atom5_37 rfl (v := 1) (hD.2.2.1) ?_
  refine wp_if_ne (tgt := 64) dX8_atom5_40 (by decide) (fun _ => ?_) (fun h => absurd h (by decide))
  refine wp_aload_n dX8_atom5_64 rfl rfl ?_
  refine wp_get 69 rfl fl_RX8_181 rfl ⟨by omega, by omega⟩ dX8_atom5_65 rfl (v := 1) (hD.2.2.1) ?_
  refine wp_if_ne (tgt := 98) dX8_atom5_68 (by decide) (fun _ => ?_) (fun h => absurd h (by decide))
  refine wp_aload_n dX8_atom5_98 rfl rfl ?_
  refine wp_callV0 (d' := d - 1) cv_RX8_194 69 rfl [] [] rfl rfl (Or.inl ⟨_, _, rfl, by decide, rfl, by omega, by omega⟩) (by omega) (Nat.le_of_ble_eq_true rfl) dX8_atom5_99 rfl (Nat.le_of_ble_eq_true rfl) (by omega) (loc1 := [(2, 69)]) rfl ?_
  refine sp_failmD hn hD ?_
  refine wp_iload_n dX8_atom5_102 rfl rfl ?_
  refine wp_iret rfl dX8_atom5_103 ?_
  exact k _ _ ((Fr.rf : Fr VMr M0 M0)) hD
set_option maxRecDepth 20000 in
set_option maxHeartbeats 4000000 in
theorem cmd_term5 {l : Launch} {g : Gw} {n : Nat} (hn : 90 ≤ n) {t : Nat} {f : Nat → Int} {z : Int} {e : Int → Int} : CMd' l g n t f z e m_X8_term5 [(9, 0)] 7 := by
  intro d M0 Q p o hd hD k
  refine wp_aload_n dX8_term5_0 rfl rfl ?_
  refine wp_callV0 (d' := d - 1) cv_RX8_233 69 rfl [] [] rfl rfl (Or.inl ⟨_, _, rfl, by decide, rfl, by omega, by omega⟩) (by omega) (Nat.le_of_ble_eq_true rfl) dX8_term5_1 rfl (Nat.le_of_ble_eq_true rfl) (by omega) (loc1 := [(2, 69), (9, 0)]) rfl ?_
  refine (cmd_atom5 hn) _ _ _ _ _ (by omega) hD (fun M1 w1 f1 D1 => ?_)
  have F1 := ((Fr.rf : Fr VMr M0 M0)).tr f1
  refine wp_istore_n (loc' := [(2, 69), (0, w1)]) dX8_term5_4 rfl (Nat.le_of_ble_eq_true rfl) rfl ?_
  refine wp_aload_n dX8_term5_5 rfl rfl ?_
  refine wp_bipush dX8_term5_6 (by decide) (by decide) ?_
  refine wp_callV0 (d' := d - 1) cv_RX8_222 69 rfl [(0, 42)] [] rfl rfl (Or.inl ⟨_, _, rfl, by decide, rfl, by omega, by omega⟩) (by omega) (Nat.le_of_ble_eq_true rfl) dX8_term5_8 rfl (Nat.le_of_ble_eq_true rfl) (by omega) (loc1 := [(2, 69), (0, 42)]) rfl ?_
  refine sp_isSd hn D1 ?_
  refine wp_if_eq (tgt := 28) dX8_term5_11 (by decide) (fun _ => ?_) (fun h => absurd h (by decide))
  refine wp_iload_n dX8_term5_28 rfl rfl ?_
  refine wp_iret rfl dX8_term5_29 ?_
  exact k _ _ (F1) D1
set_option maxRecDepth 20000 in
set_option maxHeartbeats 4000000 in
theorem lqd_term5 {l : Launch} {g : Gw} {n : Nat} (hn : 90 ≤ n) {t : Nat} {f : Nat → Int} {z : Int} {e : Int → Int} {d : Nat} (hd : 2 ≤ d) {M0 : Mm} {Q : Option Wd → Mm → Prop} {p : Nat} {o v : Int} (hD : DJm M0 t f z p o e) (k : ∀ M' w, Fr VMr M0 M' → DJm M' t f z p o e → Q (some (0, w)) M') : Wp l g d 0 0 n m_X8_term5 5 [] [(2, 69), (0, v)] M0 Q := by
  refine wp_aload_n dX8_term5_5 rfl rfl ?_
  refine wp_bipush dX8_term5_6 (by decide) (by decide) ?_
  refine wp_callV0 (d' := d - 1) cv_RX8_222 69 rfl [(0, 42)] [] rfl rfl (Or.inl ⟨_, _, rfl, by decide, rfl, by omega, by omega⟩) (by omega) (Nat.le_of_ble_eq_true rfl) dX8_term5_8 rfl (Nat.le_of_ble_eq_true rfl) (by omega) (loc1 := [(2, 69), (0, 42)]) rfl ?_
  refine sp_isSd hn hD ?_
  refine wp_if_eq (tgt := 28) dX8_term5_11 (by decide) (fun _ => ?_) (fun h => absurd h (by decide))
  refine wp_iload_n dX8_term5_28 rfl rfl ?_
  refine wp_iret rfl dX8_term5_29 ?_
  exact k _ _ ((Fr.rf : Fr VMr M0 M0)) hD
set_option maxRecDepth 20000 in
set_option maxHeartbeats 4000000 in
theorem cmd_added5 {l : Launch} {g : Gw} {n : Nat} (hn : 90 ≤ n) {t : Nat} {f : Nat → Int} {z : Int} {e : Int → Int} : CMd' l g n t f z e m_X8_added5 [(9, 0), (9, 0), (9, 0)] 8 := by
  intro d M0 Q p o hd hD k
  refine wp_aload_n dX8_added5_0 rfl rfl ?_
  refine wp_callV0 (d' := d - 1) cv_RX8_236 69 rfl [] [] rfl rfl (Or.inl ⟨_, _, rfl, by decide, rfl, by omega, by omega⟩) (by omega) (Nat.le_of_ble_eq_true rfl) dX8_added5_1 rfl (Nat.le_of_ble_eq_true rfl) (by omega) (loc1 := [(2, 69), (9, 0)]) rfl ?_
  refine (cmd_term5 hn) _ _ _ _ _ (by omega) hD (fun M1 w1 f1 D1 => ?_)
  have F1 := ((Fr.rf : Fr VMr M0 M0)).tr f1
  refine wp_istore_n (loc' := [(2, 69), (0, w1), (9, 0), (9, 0)]) dX8_added5_4 rfl (Nat.le_of_ble_eq_true rfl) rfl ?_
  refine wp_aload_n dX8_added5_5 rfl rfl ?_
  refine wp_bipush dX8_added5_6 (by decide) (by decide) ?_
  refine wp_callV0 (d' := d - 1) cv_RX8_222 69 rfl [(0, 43)] [] rfl rfl (Or.inl ⟨_, _, rfl, by decide, rfl, by omega, by omega⟩) (by omega) (Nat.le_of_ble_eq_true rfl) dX8_added5_8 rfl (Nat.le_of_ble_eq_true rfl) (by omega) (loc1 := [(2, 69), (0, 43)]) rfl ?_
  refine sp_isSd hn D1 ?_
  refine wp_if_ne (tgt := 23) dX8_added5_11 (by decide) (fun h => absurd h (by decide)) (fun _ => ?_)
  refine wp_aload_n dX8_added5_14 rfl rfl ?_
  refine wp_bipush dX8_added5_15 (by decide) (by decide) ?_
  refine wp_callV0 (d' := d - 1) cv_RX8_222 69 rfl [(0, 45)] [] rfl rfl (Or.inl ⟨_, _, rfl, by decide, rfl, by omega, by omega⟩) (by omega) (Nat.le_of_ble_eq_true rfl) dX8_added5_17 rfl (Nat.le_of_ble_eq_true rfl) (by omega) (loc1 := [(2, 69), (0, 45)]) rfl ?_
  refine sp_isSd hn D1 ?_
  refine wp_if_eq (tgt := 66) dX8_added5_20 (by decide) (fun _ => ?_) (fun h => absurd h (by decide))
  refine wp_iload_n dX8_added5_66 rfl rfl ?_
  refine wp_iret rfl dX8_added5_67 ?_
  exact k _ _ (F1) D1
set_option maxRecDepth 20000 in
set_option maxHeartbeats 4000000 in
theorem lqd_added5 {l : Launch} {g : Gw} {n : Nat} (hn : 90 ≤ n) {t : Nat} {f : Nat → Int} {z : Int} {e : Int → Int} {d : Nat} (hd : 2 ≤ d) {M0 : Mm} {Q : Option Wd → Mm → Prop} {p : Nat} {o v : Int} {u2 : Wd} {u3 : Wd} (hD : DJm M0 t f z p o e) (k : ∀ M' w, Fr VMr M0 M' → DJm M' t f z p o e → Q (some (0, w)) M') : Wp l g d 0 0 n m_X8_added5 5 [] [(2, 69), (0, v), u2, u3] M0 Q := by
  refine wp_aload_n dX8_added5_5 rfl rfl ?_
  refine wp_bipush dX8_added5_6 (by decide) (by decide) ?_
  refine wp_callV0 (d' := d - 1) cv_RX8_222 69 rfl [(0, 43)] [] rfl rfl (Or.inl ⟨_, _, rfl, by decide, rfl, by omega, by omega⟩) (by omega) (Nat.le_of_ble_eq_true rfl) dX8_added5_8 rfl (Nat.le_of_ble_eq_true rfl) (by omega) (loc1 := [(2, 69), (0, 43)]) rfl ?_
  refine sp_isSd hn hD ?_
  refine wp_if_ne (tgt := 23) dX8_added5_11 (by decide) (fun h => absurd h (by decide)) (fun _ => ?_)
  refine wp_aload_n dX8_added5_14 rfl rfl ?_
  refine wp_bipush dX8_added5_15 (by decide) (by decide) ?_
  refine wp_callV0 (d' := d - 1) cv_RX8_222 69 rfl [(0, 45)] [] rfl rfl (Or.inl ⟨_, _, rfl, by decide, rfl, by omega, by omega⟩) (by omega) (Nat.le_of_ble_eq_true rfl) dX8_added5_17 rfl (Nat.le_of_ble_eq_true rfl) (by omega) (loc1 := [(2, 69), (0, 45)]) rfl ?_
  refine sp_isSd hn hD ?_
  refine wp_if_eq (tgt := 66) dX8_added5_20 (by decide) (fun _ => ?_) (fun h => absurd h (by decide))
  refine wp_iload_n dX8_added5_66 rfl rfl ?_
  refine wp_iret rfl dX8_added5_67 ?_
  exact k _ _ ((Fr.rf : Fr VMr M0 M0)) hD
set_option maxRecDepth 20000 in
set_option maxHeartbeats 4000000 in
theorem cmd_not5 {l : Launch} {g : Gw} {n : Nat} (hn : 90 ≤ n) {t : Nat} {f : Nat → Int} {z : Int} {e : Int → Int} : CMd' l g n t f z e m_X8_not5 [(9, 0), (9, 0), (9, 0)] 9 := by
  intro d M0 Q p o hd hD k
  refine wp_aload_n dX8_not5_0 rfl rfl ?_
  refine wp_bipush dX8_not5_1 (by decide) (by decide) ?_
  refine wp_bipush dX8_not5_3 (by decide) (by decide) ?_
  refine wp_bipush dX8_not5_5 (by decide) (by decide) ?_
  refine wp_iconst dX8_not5_7 (by decide) ?_
  refine wp_iconst dX8_not5_8 (by decide) ?_
  refine wp_iconst dX8_not5_9 (by decide) ?_
  refine wp_iconst dX8_not5_10 (by decide) ?_
  refine wp_iconst dX8_not5_11 (by decide) ?_
  refine wp_callV0 (d' := d - 1) cv_RX8_200 69 rfl [(0, 110), (0, 111), (0, 116), (0, 0), (0, 0), (0, 0), (0, 0), (0, 0)] [] rfl rfl (Or.inl ⟨_, _, rfl, by decide, rfl, by omega, by omega⟩) (by omega) (Nat.le_of_ble_eq_true rfl) dX8_not5_12 rfl (Nat.le_of_ble_eq_true rfl) (by omega) (loc1 := [(2, 69), (0, 110), (0, 111), (0, 116), (0, 0), (0, 0), (0, 0), (0, 0), (0, 0)]) rfl ?_
  refine sp_isWd hn hD ?_
  refine wp_if_eq (tgt := 25) dX8_not5_15 (by decide) (fun _ => ?_) (fun h => absurd h (by decide))
  refine wp_aload_n dX8_not5_25 rfl rfl ?_
  refine wp_callV0 (d' := d - 1) cv_RX8_241 69 rfl [] [] rfl rfl (Or.inl ⟨_, _, rfl, by decide, rfl, by omega, by omega⟩) (by omega) (Nat.le_of_ble_eq_true rfl) dX8_not5_26 rfl (Nat.le_of_ble_eq_true rfl) (by omega) (loc1 := [(2, 69), (9, 0), (9, 0), (9, 0)]) rfl ?_
  refine (cmd_added5 hn) _ _ _ _ _ (by omega) hD (fun M2 w2 f2 D2 => ?_)
  have F2 := ((Fr.rf : Fr VMr M0 M0)).tr f2
  refine wp_istore_n (loc' := [(2, 69), (0, w2), (9, 0), (9, 0)]) dX8_not5_29 rfl (Nat.le_of_ble_eq_true rfl) rfl ?_
  refine wp_aload_n dX8_not5_30 rfl rfl ?_
  refine wp_bipush dX8_not5_31 (by decide) (by decide) ?_
  refine wp_callV0 (d' := d - 1) cv_RX8_222 69 rfl [(0, 60)] [] rfl rfl (Or.inl ⟨_, _, rfl, by decide, rfl, by omega, by omega⟩) (by omega) (Nat.le_of_ble_eq_true rfl) dX8_not5_33 rfl (Nat.le_of_ble_eq_true rfl) (by omega) (loc1 := [(2, 69), (0, 60)]) rfl ?_
  refine sp_isSd hn D2 ?_
  refine wp_if_ne (tgt := 50) dX8_not5_36 (by decide) (fun h => absurd h (by decide)) (fun _ => ?_)
  refine wp_aload_n dX8_not5_39 rfl rfl ?_
  refine wp_bipush dX8_not5_40 (by decide) (by decide) ?_
  refine wp_callV0 (d' := d - 1) cv_RX8_222 69 rfl [(0, 61)] [] rfl rfl (Or.inl ⟨_, _, rfl, by decide, rfl, by omega, by omega⟩) (by omega) (Nat.le_of_ble_eq_true rfl) dX8_not5_42 rfl (Nat.le_of_ble_eq_true rfl) (by omega) (loc1 := [(2, 69), (0, 61)]) rfl ?_
  refine sp_isSd hn D2 ?_
  refine wp_if_ne (tgt := 50) dX8_not5_45 (by decide) (fun h => absurd h (by decide)) (fun _ => ?_)
  refine wp_iload_n dX8_not5_48 rfl rfl ?_
  refine wp_iret rfl dX8_not5_49 ?_
  exact k _ _ (F2) D2
set_option maxRecDepth 20000 in
set_option maxHeartbeats 4000000 in
theorem cmd_both5 {l : Launch} {g : Gw} {n : Nat} (hn : 90 ≤ n) {t : Nat} {f : Nat → Int} {z : Int} {e : Int → Int} : CMd' l g n t f z e m_X8_both5 [(9, 0), (9, 0)] 10 := by
  intro d M0 Q p o hd hD k
  refine wp_aload_n dX8_both5_0 rfl rfl ?_
  refine wp_callV0 (d' := d - 1) cv_RX8_246 69 rfl [] [] rfl rfl (Or.inl ⟨_, _, rfl, by decide, rfl, by omega, by omega⟩) (by omega) (Nat.le_of_ble_eq_true rfl) dX8_both5_1 rfl (Nat.le_of_ble_eq_true rfl) (by omega) (loc1 := [(2, 69), (9, 0), (9, 0), (9, 0)]) rfl ?_
  refine (cmd_not5 hn) _ _ _ _ _ (by omega) hD (fun M1 w1 f1 D1 => ?_)
  have F1 := ((Fr.rf : Fr VMr M0 M0)).tr f1
  refine wp_istore_n (loc' := [(2, 69), (0, w1), (9, 0)]) dX8_both5_4 rfl (Nat.le_of_ble_eq_true rfl) rfl ?_
  refine wp_aload_n dX8_both5_5 rfl rfl ?_
  refine wp_bipush dX8_both5_6 (by decide) (by decide) ?_
  refine wp_bipush dX8_both5_8 (by decide) (by decide) ?_
  refine wp_bipush dX8_both5_10 (by decide) (by decide) ?_
  refine wp_iconst dX8_both5_12 (by decide) ?_
  refine wp_iconst dX8_both5_13 (by decide) ?_
  refine wp_iconst dX8_both5_14 (by decide) ?_
  refine wp_iconst dX8_both5_15 (by decide) ?_
  refine wp_iconst dX8_both5_16 (by decide) ?_
  refine wp_callV0 (d' := d - 1) cv_RX8_200 69 rfl [(0, 97), (0, 110), (0, 100), (0, 0), (0, 0), (0, 0), (0, 0), (0, 0)] [] rfl rfl (Or.inl ⟨_, _, rfl, by decide, rfl, by omega, by omega⟩) (by omega) (Nat.le_of_ble_eq_true rfl) dX8_both5_17 rfl (Nat.le_of_ble_eq_true rfl) (by omega) (loc1 := [(2, 69), (0, 97), (0, 110), (0, 100), (0, 0), (0, 0), (0, 0), (0, 0), (0, 0)]) rfl ?_
  refine sp_isWd hn D1 ?_
  refine wp_if_eq (tgt := 49) dX8_both5_20 (by decide) (fun _ => ?_) (fun h => absurd h (by decide))
  refine wp_iload_n dX8_both5_49 rfl rfl ?_
  refine wp_iret rfl dX8_both5_50 ?_
  exact k _ _ (F1) D1
set_option maxRecDepth 20000 in
set_option maxHeartbeats 4000000 in
theorem lqd_both5 {l : Launch} {g : Gw} {n : Nat} (hn : 90 ≤ n) {t : Nat} {f : Nat → Int} {z : Int} {e : Int → Int} {d : Nat} (hd : 2 ≤ d) {M0 : Mm} {Q : Option Wd → Mm → Prop} {p : Nat} {o v : Int} {u2 : Wd} (hD : DJm M0 t f z p o e) (k : ∀ M' w, Fr VMr M0 M' → DJm M' t f z p o e → Q (some (0, w)) M') : Wp l g d 0 0 n m_X8_both5 5 [] [(2, 69), (0, v), u2] M0 Q := by
  refine wp_aload_n dX8_both5_5 rfl rfl ?_
  refine wp_bipush dX8_both5_6 (by decide) (by decide) ?_
  refine wp_bipush dX8_both5_8 (by decide) (by decide) ?_
  refine wp_bipush dX8_both5_10 (by decide) (by decide) ?_
  refine wp_iconst dX8_both5_12 (by decide) ?_
  refine wp_iconst dX8_both5_13 (by decide) ?_
  refine wp_iconst dX8_both5_14 (by decide) ?_
  refine wp_iconst dX8_both5_15 (by decide) ?_
  refine wp_iconst dX8_both5_16 (by decide) ?_
  refine wp_callV0 (d' := d - 1) cv_RX8_200 69 rfl [(0, 97), (0, 110), (0, 100), (0, 0), (0, 0), (0, 0), (0, 0), (0, 0)] [] rfl rfl (Or.inl ⟨_, _, rfl, by decide, rfl, by omega, by omega⟩) (by omega) (Nat.le_of_ble_eq_true rfl) dX8_both5_17 rfl (Nat.le_of_ble_eq_true rfl) (by omega) (loc1 := [(2, 69), (0, 97), (0, 110), (0, 100), (0, 0), (0, 0), (0, 0), (0, 0), (0, 0)]) rfl ?_
  refine sp_isWd hn hD ?_
  refine wp_if_eq (tgt := 49) dX8_both5_20 (by decide) (fun _ => ?_) (fun h => absurd h (by decide))
  refine wp_iload_n dX8_both5_49 rfl rfl ?_
  refine wp_iret rfl dX8_both5_50 ?_
  exact k _ _ ((Fr.rf : Fr VMr M0 M0)) hD
set_option maxRecDepth 20000 in
set_option maxHeartbeats 4000000 in
theorem cmd_either5 {l : Launch} {g : Gw} {n : Nat} (hn : 90 ≤ n) {t : Nat} {f : Nat → Int} {z : Int} {e : Int → Int} : CMd' l g n t f z e m_X8_either5 [(9, 0), (9, 0)] 11 := by
  intro d M0 Q p o hd hD k
  refine wp_aload_n dX8_either5_0 rfl rfl ?_
  refine wp_callV0 (d' := d - 1) cv_RX8_249 69 rfl [] [] rfl rfl (Or.inl ⟨_, _, rfl, by decide, rfl, by omega, by omega⟩) (by omega) (Nat.le_of_ble_eq_true rfl) dX8_either5_1 rfl (Nat.le_of_ble_eq_true rfl) (by omega) (loc1 := [(2, 69), (9, 0), (9, 0)]) rfl ?_
  refine (cmd_both5 hn) _ _ _ _ _ (by omega) hD (fun M1 w1 f1 D1 => ?_)
  have F1 := ((Fr.rf : Fr VMr M0 M0)).tr f1
  refine wp_istore_n (loc' := [(2, 69), (0, w1), (9, 0)]) dX8_either5_4 rfl (Nat.le_of_ble_eq_true rfl) rfl ?_
  refine wp_aload_n dX8_either5_5 rfl rfl ?_
  refine wp_bipush dX8_either5_6 (by decide) (by decide) ?_
  refine wp_bipush dX8_either5_8 (by decide) (by decide) ?_
  refine wp_iconst dX8_either5_10 (by decide) ?_
  refine wp_iconst dX8_either5_11 (by decide) ?_
  refine wp_iconst dX8_either5_12 (by decide) ?_
  refine wp_iconst dX8_either5_13 (by decide) ?_
  refine wp_iconst dX8_either5_14 (by decide) ?_
  refine wp_iconst dX8_either5_15 (by decide) ?_
  refine wp_callV0 (d' := d - 1) cv_RX8_200 69 rfl [(0, 111), (0, 114), (0, 0), (0, 0), (0, 0), (0, 0), (0, 0), (0, 0)] [] rfl rfl (Or.inl ⟨_, _, rfl, by decide, rfl, by omega, by omega⟩) (by omega) (Nat.le_of_ble_eq_true rfl) dX8_either5_16 rfl (Nat.le_of_ble_eq_true rfl) (by omega) (loc1 := [(2, 69), (0, 111), (0, 114), (0, 0), (0, 0), (0, 0), (0, 0), (0, 0), (0, 0)]) rfl ?_
  refine sp_isWd hn D1 ?_
  refine wp_if_eq (tgt := 48) dX8_either5_19 (by decide) (fun _ => ?_) (fun h => absurd h (by decide))
  refine wp_iload_n dX8_either5_48 rfl rfl ?_
  refine wp_iret rfl dX8_either5_49 ?_
  exact k _ _ (F1) D1
set_option maxRecDepth 20000 in
set_option maxHeartbeats 4000000 in
theorem lqd_either5 {l : Launch} {g : Gw} {n : Nat} (hn : 90 ≤ n) {t : Nat} {f : Nat → Int} {z : Int} {e : Int → Int} {d : Nat} (hd : 2 ≤ d) {M0 : Mm} {Q : Option Wd → Mm → Prop} {p : Nat} {o v : Int} {u2 : Wd} (hD : DJm M0 t f z p o e) (k : ∀ M' w, Fr VMr M0 M' → DJm M' t f z p o e → Q (some (0, w)) M') : Wp l g d 0 0 n m_X8_either5 5 [] [(2, 69), (0, v), u2] M0 Q := by
  refine wp_aload_n dX8_either5_5 rfl rfl ?_
  refine wp_bipush dX8_either5_6 (by decide) (by decide) ?_
  refine wp_bipush dX8_either5_8 (by decide) (by decide) ?_
  refine wp_iconst dX8_either5_10 (by decide) ?_
  refine wp_iconst dX8_either5_11 (by decide) ?_
  refine wp_iconst dX8_either5_12 (by decide) ?_
  refine wp_iconst dX8_either5_13 (by decide) ?_
  refine wp_iconst dX8_either5_14 (by decide) ?_
  refine wp_iconst dX8_either5_15 (by decide) ?_
  refine wp_callV0 (d' := d - 1) cv_RX8_200 69 rfl [(0, 111), (0, 114), (0, 0), (0, 0), (0, 0), (0, 0), (0, 0), (0, 0)] [] rfl rfl (Or.inl ⟨_, _, rfl, by decide, rfl, by omega, by omega⟩) (by omega) (Nat.le_of_ble_eq_true rfl) dX8_either5_16 rfl (Nat.le_of_ble_eq_true rfl) (by omega) (loc1 := [(2, 69), (0, 111), (0, 114), (0, 0), (0, 0), (0, 0), (0, 0), (0, 0), (0, 0)]) rfl ?_
  refine sp_isWd hn hD ?_
  refine wp_if_eq (tgt := 48) dX8_either5_19 (by decide) (fun _ => ?_) (fun h => absurd h (by decide))
  refine wp_iload_n dX8_either5_48 rfl rfl ?_
  refine wp_iret rfl dX8_either5_49 ?_
  exact k _ _ ((Fr.rf : Fr VMr M0 M0)) hD
