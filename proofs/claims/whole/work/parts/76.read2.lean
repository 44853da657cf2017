/-! ===== the class's reader: what is open, levels ===== -/
theorem CMr.up {l : Launch} {g : Gw} {n : Nat} {f : Nat → Int} {z : Int} {T : Nat} {μ : Md} {ls : List Wd} {B B' : Nat} {o : Int} {P : Nat → PR} (h : CMr l g n f z T μ ls B o P) (hb : B ≤ B') : CMr l g n f z T μ ls B' o P :=
  fun d M Q x c hd => h d M Q x c (Nat.le_trans hb hd)
theorem CMd.up {l : Launch} {g : Gw} {n : Nat} {f : Nat → Int} {z : Int} {T : Nat} {μ : Md} {ls : List Wd} {B B' : Nat} (h : CMd l g n f z T μ ls B) (hb : B ≤ B') : CMd l g n f z T μ ls B' :=
  fun d M Q x c hd => h d M Q x c (Nat.le_trans hb hd)
set_option maxRecDepth 20000 in
set_option maxHeartbeats 4000000 in
theorem ct_One0 {l : Launch} {g : Gw} {n : Nat} {T : Nat} (hT : isT T) (hn : 60 ≤ n) {f : Nat → Int} {z : Int} {B : Nat} (hB18 : 18 ≤ B) (hB : BT f z) {o : Int} (ho : o = 5) : CMr l g n f z T m_X2_readOne [] (B + 1) o (oneP f z none) := by
  intro d M0 Q x c hd hJ hx hC k
  have hb := hT.b
  have hz1 := hJ.1.2.2.2.2
  refine wp_aload_n dX2_readOne_0 rfl rfl ?_
  refine wp_get 23 rfl fl_RX2_67 rfl ⟨by omega, by omega⟩ dX2_readOne_1 rfl (v := (lxT f z x)) (hJ.2.2.1.2.2.1) ?_
  refine wp_iconst dX2_readOne_4 (by decide) ?_
  refine wp_icmp_ne (tgt := 26) dX2_readOne_5 (by decide) (fun h5 => ?_) (fun h5 => ?_)
  · refine wp_aload_n dX2_readOne_26 rfl rfl ?_
    refine wp_get 23 rfl fl_RX2_67 rfl ⟨by omega, by omega⟩ dX2_readOne_27 rfl (v := (lxT f z x)) (hJ.2.2.1.2.2.1) ?_
    refine wp_sipush dX2_readOne_30 (by decide) (by decide) ?_
    refine wp_icmp_lt (tgt := 70) dX2_readOne_33 (by decide) (fun h33 => ?_) (fun h33 => ?_)
    · refine wp_aload_n dX2_readOne_70 rfl rfl ?_
      refine wp_get 23 rfl fl_RX2_67 rfl ⟨by omega, by omega⟩ dX2_readOne_71 rfl (v := (lxT f z x)) (hJ.2.2.1.2.2.1) ?_
      refine wp_bipush dX2_readOne_74 (by decide) (by decide) ?_
      refine wp_icmp_ne (tgt := 116) dX2_readOne_76 (by decide) (fun h76 => ?_) (fun h76 => ?_)
      · refine wp_aload_n dX2_readOne_116 rfl rfl ?_
        refine wp_get 23 rfl fl_RX2_67 rfl ⟨by omega, by omega⟩ dX2_readOne_117 rfl (v := (lxT f z x)) (hJ.2.2.1.2.2.1) ?_
        refine wp_bipush dX2_readOne_120 (by decide) (by decide) ?_
        refine wp_icmp_ne (tgt := 159) dX2_readOne_122 (by decide) (fun h122 => ?_) (fun h122 => ?_)
        · refine wp_aload_n dX2_readOne_159 rfl rfl ?_
          refine wp_callV0 (d' := d - 1) cv_RX2_70 23 rfl [] [] rfl rfl (Or.inl ⟨_, _, rfl, by decide, rfl, by omega, by omega⟩) (by omega) (Nat.le_of_ble_eq_true rfl) dX2_readOne_160 rfl (Nat.le_of_ble_eq_true rfl) (by omega) (loc1 := [(2, 23)]) rfl ?_
          refine sp_fail hT hn hJ (fun M1 D1 f1 => ?_)
          have F1 := ((Fr.rf : Fr (VJ T) M0 M0)).tr f1
          refine wp_vret rfl dX2_readOne_163 ?_
          have e : oneP f z none x = .inl (lxA f z x) := (if_neg h5).trans ((if_neg (by omega)).trans ((if_neg h76).trans (if_neg h122)))
          rw [e] at k
          exact k _ ⟨F1, D1⟩
        · refine wp_aload_n dX2_readOne_125 rfl rfl ?_
          refine wp_callV0 (d' := d - 1) cv_RX2_85 23 rfl [] [] rfl rfl (Or.inl ⟨_, _, rfl, by decide, rfl, by omega, by omega⟩) (by omega) (Nat.le_of_ble_eq_true rfl) dX2_readOne_126 rfl (Nat.le_of_ble_eq_true rfl) (by omega) (loc1 := [(2, 23)]) rfl ?_
          refine sp_opensF hT hn (by omega) hJ ho (fun M2 D2 f2 => ?_)
          have F2 := ((Fr.rf : Fr (VJ T) M0 M0)).tr f2
          refine wp_if_eq (tgt := 159) dX2_readOne_129 (by decide) (fun _ => ?_) (fun h => absurd h (by decide))
          refine wp_aload_n dX2_readOne_159 rfl rfl ?_
          refine wp_callV0 (d' := d - 1) cv_RX2_70 23 rfl [] [] rfl rfl (Or.inl ⟨_, _, rfl, by decide, rfl, by omega, by omega⟩) (by omega) (Nat.le_of_ble_eq_true rfl) dX2_readOne_160 rfl (Nat.le_of_ble_eq_true rfl) (by omega) (loc1 := [(2, 23)]) rfl ?_
          refine sp_failD hT hn D2 (fun M3 D3 f3 => ?_)
          have F3 := (F2).tr f3
          refine wp_vret rfl dX2_readOne_163 ?_
          have e : oneP f z none x = .inl (lxA f z x) := (if_neg h5).trans ((if_neg (by omega)).trans ((if_neg h76).trans (if_pos h122)))
          rw [e] at k
          exact k _ ⟨F3, D3⟩
      · refine wp_aload_n dX2_readOne_79 rfl rfl ?_
        refine wp_callV0 (d' := d - 1) cv_RX2_85 23 rfl [] [] rfl rfl (Or.inl ⟨_, _, rfl, by decide, rfl, by omega, by omega⟩) (by omega) (Nat.le_of_ble_eq_true rfl) dX2_readOne_80 rfl (Nat.le_of_ble_eq_true rfl) (by omega) (loc1 := [(2, 23)]) rfl ?_
        refine sp_opensF hT hn (by omega) hJ ho (fun M4 D4 f4 => ?_)
        have F4 := ((Fr.rf : Fr (VJ T) M0 M0)).tr f4
        refine wp_if_eq (tgt := 116) dX2_readOne_83 (by decide) (fun _ => ?_) (fun h => absurd h (by decide))
        refine wp_aload_n dX2_readOne_116 rfl rfl ?_
        refine wp_get 23 rfl fl_RX2_67 rfl ⟨by omega, by omega⟩ dX2_readOne_117 rfl (v := 1) (D4.2.2.1) ?_
        refine wp_bipush dX2_readOne_120 (by decide) (by decide) ?_
        refine wp_icmp_ne (tgt := 159) dX2_readOne_122 (by decide) (fun _ => ?_) (fun h => absurd h (by decide))
        refine wp_aload_n dX2_readOne_159 rfl rfl ?_
        refine wp_callV0 (d' := d - 1) cv_RX2_70 23 rfl [] [] rfl rfl (Or.inl ⟨_, _, rfl, by decide, rfl, by omega, by omega⟩) (by omega) (Nat.le_of_ble_eq_true rfl) dX2_readOne_160 rfl (Nat.le_of_ble_eq_true rfl) (by omega) (loc1 := [(2, 23)]) rfl ?_
        refine sp_failD hT hn D4 (fun M5 D5 f5 => ?_)
        have F5 := (F4).tr f5
        refine wp_vret rfl dX2_readOne_163 ?_
        have e : oneP f z none x = .inl (lxA f z x) := (if_neg h5).trans ((if_neg (by omega)).trans (if_pos h76))
        rw [e] at k
        exact k _ ⟨F5, D5⟩
    · refine wp_aload_n dX2_readOne_36 rfl rfl ?_
      refine wp_get 23 rfl fl_RX2_67 rfl ⟨by omega, by omega⟩ dX2_readOne_37 rfl (v := (lxT f z x)) (hJ.2.2.1.2.2.1) ?_
      refine wp_sipush dX2_readOne_40 (by decide) (by decide) ?_
      refine wp_icmp_ge (tgt := 70) dX2_readOne_43 (by decide) (fun h43 => ?_) (fun h43 => ?_)
      · refine wp_aload_n dX2_readOne_70 rfl rfl ?_
        refine wp_get 23 rfl fl_RX2_67 rfl ⟨by omega, by omega⟩ dX2_readOne_71 rfl (v := (lxT f z x)) (hJ.2.2.1.2.2.1) ?_
        refine wp_bipush dX2_readOne_74 (by decide) (by decide) ?_
        refine wp_icmp_ne (tgt := 116) dX2_readOne_76 (by decide) (fun h76 => ?_) (fun h76 => ?_)
        · refine wp_aload_n dX2_readOne_116 rfl rfl ?_
          refine wp_get 23 rfl fl_RX2_67 rfl ⟨by omega, by omega⟩ dX2_readOne_117 rfl (v := (lxT f z x)) (hJ.2.2.1.2.2.1) ?_
          refine wp_bipush dX2_readOne_120 (by decide) (by decide) ?_
          refine wp_icmp_ne (tgt := 159) dX2_readOne_122 (by decide) (fun h122 => ?_) (fun h122 => ?_)
          · refine wp_aload_n dX2_readOne_159 rfl rfl ?_
            refine wp_callV0 (d' := d - 1) cv_RX2_70 23 rfl [] [] rfl rfl (Or.inl ⟨_, _, rfl, by decide, rfl, by omega, by omega⟩) (by omega) (Nat.le_of_ble_eq_true rfl) dX2_readOne_160 rfl (Nat.le_of_ble_eq_true rfl) (by omega) (loc1 := [(2, 23)]) rfl ?_
            refine sp_fail hT hn hJ (fun M6 D6 f6 => ?_)
            have F6 := ((Fr.rf : Fr (VJ T) M0 M0)).tr f6
            refine wp_vret rfl dX2_readOne_163 ?_
            have e : oneP f z none x = .inl (lxA f z x) := (if_neg h5).trans ((if_neg (by omega)).trans ((if_neg h76).trans (if_neg h122)))
            rw [e] at k
            exact k _ ⟨F6, D6⟩
          · refine wp_aload_n dX2_readOne_125 rfl rfl ?_
            refine wp_callV0 (d' := d - 1) cv_RX2_85 23 rfl [] [] rfl rfl (Or.inl ⟨_, _, rfl, by decide, rfl, by omega, by omega⟩) (by omega) (Nat.le_of_ble_eq_true rfl) dX2_readOne_126 rfl (Nat.le_of_ble_eq_true rfl) (by omega) (loc1 := [(2, 23)]) rfl ?_
            refine sp_opensF hT hn (by omega) hJ ho (fun M7 D7 f7 => ?_)
            have F7 := ((Fr.rf : Fr (VJ T) M0 M0)).tr f7
            refine wp_if_eq (tgt := 159) dX2_readOne_129 (by decide) (fun _ => ?_) (fun h => absurd h (by decide))
            refine wp_aload_n dX2_readOne_159 rfl rfl ?_
            refine wp_callV0 (d' := d - 1) cv_RX2_70 23 rfl [] [] rfl rfl (Or.inl ⟨_, _, rfl, by decide, rfl, by omega, by omega⟩) (by omega) (Nat.le_of_ble_eq_true rfl) dX2_readOne_160 rfl (Nat.le_of_ble_eq_true rfl) (by omega) (loc1 := [(2, 23)]) rfl ?_
            refine sp_failD hT hn D7 (fun M8 D8 f8 => ?_)
            have F8 := (F7).tr f8
            refine wp_vret rfl dX2_readOne_163 ?_
            have e : oneP f z none x = .inl (lxA f z x) := (if_neg h5).trans ((if_neg (by omega)).trans ((if_neg h76).trans (if_pos h122)))
            rw [e] at k
            exact k _ ⟨F8, D8⟩
        · refine wp_aload_n dX2_readOne_79 rfl rfl ?_
          refine wp_callV0 (d' := d - 1) cv_RX2_85 23 rfl [] [] rfl rfl (Or.inl ⟨_, _, rfl, by decide, rfl, by omega, by omega⟩) (by omega) (Nat.le_of_ble_eq_true rfl) dX2_readOne_80 rfl (Nat.le_of_ble_eq_true rfl) (by omega) (loc1 := [(2, 23)]) rfl ?_
          refine sp_opensF hT hn (by omega) hJ ho (fun M9 D9 f9 => ?_)
          have F9 := ((Fr.rf : Fr (VJ T) M0 M0)).tr f9
          refine wp_if_eq (tgt := 116) dX2_readOne_83 (by decide) (fun _ => ?_) (fun h => absurd h (by decide))
          refine wp_aload_n dX2_readOne_116 rfl rfl ?_
          refine wp_get 23 rfl fl_RX2_67 rfl ⟨by omega, by omega⟩ dX2_readOne_117 rfl (v := 1) (D9.2.2.1) ?_
          refine wp_bipush dX2_readOne_120 (by decide) (by decide) ?_
          refine wp_icmp_ne (tgt := 159) dX2_readOne_122 (by decide) (fun _ => ?_) (fun h => absurd h (by decide))
          refine wp_aload_n dX2_readOne_159 rfl rfl ?_
          refine wp_callV0 (d' := d - 1) cv_RX2_70 23 rfl [] [] rfl rfl (Or.inl ⟨_, _, rfl, by decide, rfl, by omega, by omega⟩) (by omega) (Nat.le_of_ble_eq_true rfl) dX2_readOne_160 rfl (Nat.le_of_ble_eq_true rfl) (by omega) (loc1 := [(2, 23)]) rfl ?_
          refine sp_failD hT hn D9 (fun M10 D10 f10 => ?_)
          have F10 := (F9).tr f10
          refine wp_vret rfl dX2_readOne_163 ?_
          have e : oneP f z none x = .inl (lxA f z x) := (if_neg h5).trans ((if_neg (by omega)).trans (if_pos h76))
          rw [e] at k
          exact k _ ⟨F10, D10⟩
      · refine wp_aload_n dX2_readOne_46 rfl rfl ?_
        refine wp_get 23 rfl fl_RX2_33 rfl ⟨by omega, by omega⟩ dX2_readOne_47 rfl (v := (T : Int)) (hJ.2.1) ?_
        refine wp_iconst dX2_readOne_50 (by decide) ?_
        refine wp_aload_n dX2_readOne_51 rfl rfl ?_
        refine wp_get 23 rfl fl_RX2_67 rfl ⟨by omega, by omega⟩ dX2_readOne_52 rfl (v := (lxT f z x)) (hJ.2.2.1.2.2.1) ?_
        refine wp_sipush dX2_readOne_55 (by decide) (by decide) ?_
        refine wp_isub dX2_readOne_58 (by omega) ?_
        refine wp_isub dX2_readOne_59 (by omega) ?_
        refine wp_callV0 (d' := d - 1) cv_RX2_76 T rfl [(0, ((-1) - ((lxT f z x) - 262)))] [] rfl rfl (Or.inl ⟨_, _, hT.k0, by decide, rfl, by omega, by omega⟩) (by omega) (Nat.le_of_ble_eq_true rfl) dX2_readOne_60 rfl (Nat.le_of_ble_eq_true rfl) (by omega) (loc1 := [(2, (T : Int)), (0, ((-1) - ((lxT f z x) - 262)))]) rfl ?_
        refine sp_write hT hn hJ (by have := hC; have := lxA_le (f := f) hx; have h9 := lxN_le (f := f) hx; have := h9.2.2 (by omega); omega) ((-1) - ((lxT f z x) - 262)) (fun M11 J11 f11 => ?_)
        have F11 := ((Fr.rf : Fr (VJ T) M0 M0)).tr f11
        have C11 : ((c ++ [((-1) - ((lxT f z x) - 262))])).length ≤ x + 1 := by rw [List.length_append]; have := hC; show _ + 1 ≤ x + 1; omega
        refine wp_aload_n dX2_readOne_63 rfl rfl ?_
        refine wp_callV0 (d' := d - 1) cv_RX2_51 23 rfl [] [] rfl rfl (Or.inl ⟨_, _, rfl, by decide, rfl, by omega, by omega⟩) (by omega) (Nat.le_of_ble_eq_true rfl) dX2_readOne_64 rfl (Nat.le_of_ble_eq_true rfl) (by omega) (loc1 := [(2, 23), (9, 0)]) rfl ?_
        refine sp_step hn (J11).1 (by omega) hB (J11).2.2.1.2.1 (lxN_le hx).1 (fun M12 f12 l12 => ?_)
        have J12 := (J11).step hT f12 l12
        have F12 := (F11).tr (f12.mono VR36.j)
        have X12 := lxN_le (f := f) hx
        have Y12 := lxA_le (f := f) hx
        have C12 : ((c ++ [((-1) - ((lxT f z x) - 262))])).length ≤ (lxN f z x) := by have := C11; have := X12.2.2 (by omega); omega
        refine wp_goto (tgt := 163) dX2_readOne_67 (by decide) ?_
        refine wp_vret rfl dX2_readOne_163 ?_
        have e : oneP f z none x = .inr (lxN f z x, [-1 - (lxT f z x - 262)], fun e => e (-1 - (lxT f z x - 262))) := (if_neg h5).trans (if_pos ⟨by omega, by omega⟩)
        rw [e] at k
        exact k _ ⟨F12, J12⟩
  · refine wp_aload_n dX2_readOne_8 rfl rfl ?_
    refine wp_get 23 rfl fl_RX2_33 rfl ⟨by omega, by omega⟩ dX2_readOne_9 rfl (v := (T : Int)) (hJ.2.1) ?_
    refine wp_aload_n dX2_readOne_12 rfl rfl ?_
    refine wp_get 23 rfl fl_RX2_98 rfl ⟨by omega, by omega⟩ dX2_readOne_13 rfl (v := (lxV f z x)) (hJ.2.2.1.2.2.2 h5) ?_
    refine wp_callV0 (d' := d - 1) cv_RX2_76 T rfl [(0, (lxV f z x))] [] rfl rfl (Or.inl ⟨_, _, hT.k0, by decide, rfl, by omega, by omega⟩) (by omega) (Nat.le_of_ble_eq_true rfl) dX2_readOne_16 rfl (Nat.le_of_ble_eq_true rfl) (by omega) (loc1 := [(2, (T : Int)), (0, (lxV f z x))]) rfl ?_
    refine sp_write hT hn hJ (by have := hC; have := lxA_le (f := f) hx; have h9 := lxN_le (f := f) hx; have := h9.2.2 (by omega); omega) (lxV f z x) (fun M13 J13 f13 => ?_)
    have F13 := ((Fr.rf : Fr (VJ T) M0 M0)).tr f13
    have C13 : ((c ++ [(lxV f z x)])).length ≤ x + 1 := by rw [List.length_append]; have := hC; show _ + 1 ≤ x + 1; omega
    refine wp_aload_n dX2_readOne_19 rfl rfl ?_
    refine wp_callV0 (d' := d - 1) cv_RX2_51 23 rfl [] [] rfl rfl (Or.inl ⟨_, _, rfl, by decide, rfl, by omega, by omega⟩) (by omega) (Nat.le_of_ble_eq_true rfl) dX2_readOne_20 rfl (Nat.le_of_ble_eq_true rfl) (by omega) (loc1 := [(2, 23), (9, 0)]) rfl ?_
    refine sp_step hn (J13).1 (by omega) hB (J13).2.2.1.2.1 (lxN_le hx).1 (fun M14 f14 l14 => ?_)
    have J14 := (J13).step hT f14 l14
    have F14 := (F13).tr (f14.mono VR36.j)
    have X14 := lxN_le (f := f) hx
    have Y14 := lxA_le (f := f) hx
    have C14 : ((c ++ [(lxV f z x)])).length ≤ (lxN f z x) := by have := C13; have := X14.2.2 (by omega); omega
    refine wp_goto (tgt := 163) dX2_readOne_23 (by decide) ?_
    refine wp_vret rfl dX2_readOne_163 ?_
    have e : oneP f z none x = .inr (lxN f z x, [lxV f z x], fun _ => lxV f z x) := if_pos h5
    rw [e] at k
    exact k _ ⟨F14, J14⟩
set_option maxRecDepth 20000 in
set_option maxHeartbeats 4000000 in
theorem ct_One1 {l : Launch} {g : Gw} {n : Nat} {T : Nat} (hT : isT T) (hn : 60 ≤ n) {f : Nat → Int} {z : Int} {B : Nat} (hB18 : 18 ≤ B) (hB : BT f z) {o : Int} (ho : 0 ≤ o ∧ o < 5) {q : P3} (hq : OK3 z q) (hs1 : CMr l g n f z T m_X2_readOne [] B (o + 1) q.1) (hs3 : CMr l g n f z T m_X2_readOr [(9, 0)] B (o + 1) q.2.2) : CMr l g n f z T m_X2_readOne [] (B + 1) o (oneP f z (some q)) := by
  intro d M0 Q x c hd hJ hx hC k
  have hb := hT.b
  have hz1 := hJ.1.2.2.2.2
  refine wp_aload_n dX2_readOne_0 rfl rfl ?_
  refine wp_get 23 rfl fl_RX2_67 rfl ⟨by omega, by omega⟩ dX2_readOne_1 rfl (v := (lxT f z x)) (hJ.2.2.1.2.2.1) ?_
  refine wp_iconst dX2_readOne_4 (by decide) ?_
  refine wp_icmp_ne (tgt := 26) dX2_readOne_5 (by decide) (fun h5 => ?_) (fun h5 => ?_)
  · refine wp_aload_n dX2_readOne_26 rfl rfl ?_
    refine wp_get 23 rfl fl_RX2_67 rfl ⟨by omega, by omega⟩ dX2_readOne_27 rfl (v := (lxT f z x)) (hJ.2.2.1.2.2.1) ?_
    refine wp_sipush dX2_readOne_30 (by decide) (by decide) ?_
    refine wp_icmp_lt (tgt := 70) dX2_readOne_33 (by decide) (fun h33 => ?_) (fun h33 => ?_)
    · refine wp_aload_n dX2_readOne_70 rfl rfl ?_
      refine wp_get 23 rfl fl_RX2_67 rfl ⟨by omega, by omega⟩ dX2_readOne_71 rfl (v := (lxT f z x)) (hJ.2.2.1.2.2.1) ?_
      refine wp_bipush dX2_readOne_74 (by decide) (by decide) ?_
      refine wp_icmp_ne (tgt := 116) dX2_readOne_76 (by decide) (fun h76 => ?_) (fun h76 => ?_)
      · refine wp_aload_n dX2_readOne_116 rfl rfl ?_
        refine wp_get 23 rfl fl_RX2_67 rfl ⟨by omega, by omega⟩ dX2_readOne_117 rfl (v := (lxT f z x)) (hJ.2.2.1.2.2.1) ?_
        refine wp_bipush dX2_readOne_120 (by decide) (by decide) ?_
        refine wp_icmp_ne (tgt := 159) dX2_readOne_122 (by decide) (fun h122 => ?_) (fun h122 => ?_)
        · refine wp_aload_n dX2_readOne_159 rfl rfl ?_
          refine wp_callV0 (d' := d - 1) cv_RX2_70 23 rfl [] [] rfl rfl (Or.inl ⟨_, _, rfl, by decide, rfl, by omega, by omega⟩) (by omega) (Nat.le_of_ble_eq_true rfl) dX2_readOne_160 rfl (Nat.le_of_ble_eq_true rfl) (by omega) (loc1 := [(2, 23)]) rfl ?_
          refine sp_fail hT hn hJ (fun M1 D1 f1 => ?_)
          have F1 := ((Fr.rf : Fr (VJ T) M0 M0)).tr f1
          refine wp_vret rfl dX2_readOne_163 ?_
          have e : oneP f z (some q) x = .inl (lxA f z x) := (if_neg h5).trans ((if_neg (by omega)).trans ((if_neg h76).trans (if_neg h122)))
          rw [e] at k
          exact k _ ⟨F1, D1⟩
        · refine wp_aload_n dX2_readOne_125 rfl rfl ?_
          refine wp_callV0 (d' := d - 1) cv_RX2_85 23 rfl [] [] rfl rfl (Or.inl ⟨_, _, rfl, by decide, rfl, by omega, by omega⟩) (by omega) (Nat.le_of_ble_eq_true rfl) dX2_readOne_126 rfl (Nat.le_of_ble_eq_true rfl) (by omega) (loc1 := [(2, 23)]) rfl ?_
          refine sp_opens hT hn (by omega) hJ ho (fun M2 J2 f2 => ?_)
          have F2 := ((Fr.rf : Fr (VJ T) M0 M0)).tr f2
          refine wp_if_eq (tgt := 159) dX2_readOne_129 (by decide) (fun h => absurd h (by decide)) (fun _ => ?_)
          refine wp_aload_n dX2_readOne_132 rfl rfl ?_
          refine wp_callV0 (d' := d - 1) cv_RX2_51 23 rfl [] [] rfl rfl (Or.inl ⟨_, _, rfl, by decide, rfl, by omega, by omega⟩) (by omega) (Nat.le_of_ble_eq_true rfl) dX2_readOne_133 rfl (Nat.le_of_ble_eq_true rfl) (by omega) (loc1 := [(2, 23), (9, 0)]) rfl ?_
          refine sp_step hn (J2).1 (by omega) hB (J2).2.2.1.2.1 (lxN_le hx).1 (fun M3 f3 l3 => ?_)
          have J3 := (J2).step hT f3 l3
          have F3 := (F2).tr (f3.mono VR36.j)
          have X3 := lxN_le (f := f) hx
          have Y3 := lxA_le (f := f) hx
          have C3 : (c).length + 1 ≤ (lxN f z x) := by have := hC; have := X3.2.2 (by omega); omega
          refine wp_aload_n dX2_readOne_136 rfl rfl ?_
          refine wp_callV0 (d' := d - 1) cv_RX2_58 23 rfl [] [] rfl rfl (Or.inl ⟨_, _, rfl, by decide, rfl, by omega, by omega⟩) (by omega) (Nat.le_of_ble_eq_true rfl) dX2_readOne_137 rfl (Nat.le_of_ble_eq_true rfl) (by omega) (loc1 := [(2, 23), (9, 0)]) rfl ?_
          refine hs3 _ _ _ _ _ (by omega) J3 X3.1 (by have := C3; omega) (fun M4 q4 => ?_)
          obtain ⟨f4, q4⟩ := q4
          have F4 := (F3).tr f4
          have b4 := hq.2.2 _ X3.1
          generalize r4 : q.2.2 (lxN f z x) = w4 at q4 b4
          rcases w4 with p4 | ⟨y4, c4, v4⟩
          · have D4 : DJ M4 f z T p4 (o + 1) := q4
            refine wp_aload_n dX2_readOne_140 rfl rfl ?_
            refine wp_dup dX2_readOne_141 (Or.inr rfl) ?_
            refine wp_get 23 rfl fl_RX2_45 rfl ⟨by omega, by omega⟩ dX2_readOne_142 rfl (v := (o + 1)) (D4.2.2.2.1) ?_
            refine wp_iconst dX2_readOne_145 (by decide) ?_
            refine wp_isub dX2_readOne_146 (by omega) ?_
            refine wp_puti 23 rfl fl_RX2_45 rfl ⟨by omega, by omega⟩ dX2_readOne_147 rfl rfl ?_
            refine wp_aload_n dX2_readOne_150 rfl rfl ?_
            refine wp_bipush dX2_readOne_151 (by decide) (by decide) ?_
            refine wp_callV0 (d' := d - 1) cv_RX2_54 23 rfl [(0, 41)] [] rfl rfl (Or.inl ⟨_, _, rfl, by decide, rfl, by omega, by omega⟩) (by omega) (Nat.le_of_ble_eq_true rfl) dX2_readOne_153 rfl (Nat.le_of_ble_eq_true rfl) (by omega) (loc1 := [(2, 23), (0, 41)]) rfl ?_
            have J5 := (D4).opn (show ((o + 1) - 1) = o by omega)
            have B5 : Fr (VJ T) M0 (mu M4 23 7 ((o + 1) - 1)) := (F4).tr (fr7.mono VR.j)
            generalize (mu M4 23 7 ((o + 1) - 1)) = N5 at J5 B5 ⊢
            refine sp_wantD hT hn (by omega) J5 (by decide) (fun M6 D6 f6 => ?_)
            have F6 := (B5).tr f6
            refine wp_goto (tgt := 163) dX2_readOne_156 (by decide) ?_
            refine wp_vret rfl dX2_readOne_163 ?_
            have e : oneP f z (some q) x = pbd (q.2.2 (lxN f z x)) (fun y c v => if lxT f z y = 41 then .inr (lxN f z y, c, v) else .inl (lxA f z y)) := (if_neg h5).trans ((if_neg (by omega)).trans ((if_neg h76).trans (if_pos h122)))
            rw [e, r4] at k
            exact k _ ⟨F6, D6⟩
          · have J4 : RJ M4 f z T y4 (c ++ c4) (o + 1) := q4
            obtain ⟨b4, B4, _⟩ : (lxN f z x) + c4.length ≤ y4 ∧ (y4 : Int) ≤ z ∧ _ := b4
            have C4 : ((c ++ c4)).length + 1 ≤ y4 := by rw [List.length_append]; have := C3; omega
            refine wp_aload_n dX2_readOne_140 rfl rfl ?_
            refine wp_dup dX2_readOne_141 (Or.inr rfl) ?_
            refine wp_get 23 rfl fl_RX2_45 rfl ⟨by omega, by omega⟩ dX2_readOne_142 rfl (v := (o + 1)) (J4.2.2.2.1) ?_
            refine wp_iconst dX2_readOne_145 (by decide) ?_
            refine wp_isub dX2_readOne_146 (by omega) ?_
            refine wp_puti 23 rfl fl_RX2_45 rfl ⟨by omega, by omega⟩ dX2_readOne_147 rfl rfl ?_
            refine wp_aload_n dX2_readOne_150 rfl rfl ?_
            refine wp_bipush dX2_readOne_151 (by decide) (by decide) ?_
            refine wp_callV0 (d' := d - 1) cv_RX2_54 23 rfl [(0, 41)] [] rfl rfl (Or.inl ⟨_, _, rfl, by decide, rfl, by omega, by omega⟩) (by omega) (Nat.le_of_ble_eq_true rfl) dX2_readOne_153 rfl (Nat.le_of_ble_eq_true rfl) (by omega) (loc1 := [(2, 23), (0, 41)]) rfl ?_
            have J7 := (J4).opn hT (show ((o + 1) - 1) = o by omega)
            have B7 : Fr (VJ T) M0 (mu M4 23 7 ((o + 1) - 1)) := (F4).tr (fr7.mono VR.j)
            generalize (mu M4 23 7 ((o + 1) - 1)) = N7 at J7 B7 ⊢
            refine sp_want hT hn (by omega) hB J7 B4 41 (fun t8 M8 J8 f8 => ?_) (fun t8 M8 D8 f8 => ?_)
            · have F8 := (B7).tr f8
              have X8 := lxN_le (f := f) B4
              have Y8 := lxA_le (f := f) B4
              have C8 : ((c ++ c4)).length + 2 ≤ (lxN f z y4) := by have := C4; have := X8.2.2 (by omega); omega
              refine wp_goto (tgt := 163) dX2_readOne_156 (by decide) ?_
              refine wp_vret rfl dX2_readOne_163 ?_
              have e : oneP f z (some q) x = pbd (q.2.2 (lxN f z x)) (fun y c v => if lxT f z y = 41 then .inr (lxN f z y, c, v) else .inl (lxA f z y)) := (if_neg h5).trans ((if_neg (by omega)).trans ((if_neg h76).trans (if_pos h122)))
              rw [e, r4] at k
              replace k : ∀ M', PoJ M0 f z T o c (if lxT f z y4 = 41 then .inr (lxN f z y4, c4, v4) else .inl (lxA f z y4)) M' → Q none M' := k
              rw [if_pos t8] at k
              exact k _ ⟨F8, J8⟩
            · have F8 := (B7).tr f8
              refine wp_goto (tgt := 163) dX2_readOne_156 (by decide) ?_
              refine wp_vret rfl dX2_readOne_163 ?_
              have e : oneP f z (some q) x = pbd (q.2.2 (lxN f z x)) (fun y c v => if lxT f z y = 41 then .inr (lxN f z y, c, v) else .inl (lxA f z y)) := (if_neg h5).trans ((if_neg (by omega)).trans ((if_neg h76).trans (if_pos h122)))
              rw [e, r4] at k
              replace k : ∀ M', PoJ M0 f z T o c (if lxT f z y4 = 41 then .inr (lxN f z y4, c4, v4) else .inl (lxA f z y4)) M' → Q none M' := k
              rw [if_neg t8] at k
              exact k _ ⟨F8, D8⟩
      · refine wp_aload_n dX2_readOne_79 rfl rfl ?_
        refine wp_callV0 (d' := d - 1) cv_RX2_85 23 rfl [] [] rfl rfl (Or.inl ⟨_, _, rfl, by decide, rfl, by omega, by omega⟩) (by omega) (Nat.le_of_ble_eq_true rfl) dX2_readOne_80 rfl (Nat.le_of_ble_eq_true rfl) (by omega) (loc1 := [(2, 23)]) rfl ?_
        refine sp_opens hT hn (by omega) hJ ho (fun M9 J9 f9 => ?_)
        have F9 := ((Fr.rf : Fr (VJ T) M0 M0)).tr f9
        refine wp_if_eq (tgt := 116) dX2_readOne_83 (by decide) (fun h => absurd h (by decide)) (fun _ => ?_)
        refine wp_aload_n dX2_readOne_86 rfl rfl ?_
        refine wp_callV0 (d' := d - 1) cv_RX2_51 23 rfl [] [] rfl rfl (Or.inl ⟨_, _, rfl, by decide, rfl, by omega, by omega⟩) (by omega) (Nat.le_of_ble_eq_true rfl) dX2_readOne_87 rfl (Nat.le_of_ble_eq_true rfl) (by omega) (loc1 := [(2, 23), (9, 0)]) rfl ?_
        refine sp_step hn (J9).1 (by omega) hB (J9).2.2.1.2.1 (lxN_le hx).1 (fun M10 f10 l10 => ?_)
        have J10 := (J9).step hT f10 l10
        have F10 := (F9).tr (f10.mono VR36.j)
        have X10 := lxN_le (f := f) hx
        have Y10 := lxA_le (f := f) hx
        have C10 : (c).length + 1 ≤ (lxN f z x) := by have := hC; have := X10.2.2 (by omega); omega
        refine wp_aload_n dX2_readOne_90 rfl rfl ?_
        refine wp_callV0 (d' := d - 1) cv_RX2_95 23 rfl [] [] rfl rfl (Or.inl ⟨_, _, rfl, by decide, rfl, by omega, by omega⟩) (by omega) (Nat.le_of_ble_eq_true rfl) dX2_readOne_91 rfl (Nat.le_of_ble_eq_true rfl) (by omega) (loc1 := [(2, 23)]) rfl ?_
        refine hs1 _ _ _ _ _ (by omega) J10 X10.1 (by have := C10; omega) (fun M11 q11 => ?_)
        obtain ⟨f11, q11⟩ := q11
        have F11 := (F10).tr f11
        have b11 := hq.1 _ X10.1
        generalize r11 : q.1 (lxN f z x) = w11 at q11 b11
        rcases w11 with p11 | ⟨y11, c11, v11⟩
        · have D11 : DJ M11 f z T p11 (o + 1) := q11
          refine wp_aload_n dX2_readOne_94 rfl rfl ?_
          refine wp_dup dX2_readOne_95 (Or.inr rfl) ?_
          refine wp_get 23 rfl fl_RX2_45 rfl ⟨by omega, by omega⟩ dX2_readOne_96 rfl (v := (o + 1)) (D11.2.2.2.1) ?_
          refine wp_iconst dX2_readOne_99 (by decide) ?_
          refine wp_isub dX2_readOne_100 (by omega) ?_
          refine wp_puti 23 rfl fl_RX2_45 rfl ⟨by omega, by omega⟩ dX2_readOne_101 rfl rfl ?_
          refine wp_aload_n dX2_readOne_104 rfl rfl ?_
          refine wp_get 23 rfl fl_RX2_33 rfl ⟨by omega, by omega⟩ dX2_readOne_105 rfl (v := (T : Int)) (D11.2.1) ?_
          refine wp_bipush dX2_readOne_108 (by decide) (by decide) ?_
          refine wp_callV0 (d' := d - 1) cv_RX2_76 T rfl [(0, (-15))] [] rfl rfl (Or.inl ⟨_, _, hT.k0, by decide, rfl, by omega, by omega⟩) (by omega) (Nat.le_of_ble_eq_true rfl) dX2_readOne_110 rfl (Nat.le_of_ble_eq_true rfl) (by omega) (loc1 := [(2, (T : Int)), (0, (-15))]) rfl ?_
          have J12 := (D11).opn (show ((o + 1) - 1) = o by omega)
          have B12 : Fr (VJ T) M0 (mu M11 23 7 ((o + 1) - 1)) := (F11).tr (fr7.mono VR.j)
          generalize (mu M11 23 7 ((o + 1) - 1)) = N12 at J12 B12 ⊢
          refine sp_writeD hT hn J12 (-15) (fun M13 D13 f13 => ?_)
          have F13 := (B12).tr f13
          refine wp_goto (tgt := 163) dX2_readOne_113 (by decide) ?_
          refine wp_vret rfl dX2_readOne_163 ?_
          have e : oneP f z (some q) x = pbd (q.1 (lxN f z x)) (fun y c v => .inr (y, c ++ [-15], fun e => wrap (-(v e)))) := (if_neg h5).trans ((if_neg (by omega)).trans (if_pos h76))
          rw [e, r11] at k
          exact k _ ⟨F13, D13⟩
        · have J11 : RJ M11 f z T y11 (c ++ c11) (o + 1) := q11
          obtain ⟨b11, B11, _⟩ : (lxN f z x) + c11.length ≤ y11 ∧ (y11 : Int) ≤ z ∧ _ := b11
          have C11 : ((c ++ c11)).length + 1 ≤ y11 := by rw [List.length_append]; have := C10; omega
          refine wp_aload_n dX2_readOne_94 rfl rfl ?_
          refine wp_dup dX2_readOne_95 (Or.inr rfl) ?_
          refine wp_get 23 rfl fl_RX2_45 rfl ⟨by omega, by omega⟩ dX2_readOne_96 rfl (v := (o + 1)) (J11.2.2.2.1) ?_
          refine wp_iconst dX2_readOne_99 (by decide) ?_
          refine wp_isub dX2_readOne_100 (by omega) ?_
          refine wp_puti 23 rfl fl_RX2_45 rfl ⟨by omega, by omega⟩ dX2_readOne_101 rfl rfl ?_
          refine wp_aload_n dX2_readOne_104 rfl rfl ?_
          refine wp_get 23 rfl fl_RX2_33 rfl ⟨by omega, by omega⟩ dX2_readOne_105 rfl (v := (T : Int)) (J11.2.1) ?_
          refine wp_bipush dX2_readOne_108 (by decide) (by decide) ?_
          refine wp_callV0 (d' := d - 1) cv_RX2_76 T rfl [(0, (-15))] [] rfl rfl (Or.inl ⟨_, _, hT.k0, by decide, rfl, by omega, by omega⟩) (by omega) (Nat.le_of_ble_eq_true rfl) dX2_readOne_110 rfl (Nat.le_of_ble_eq_true rfl) (by omega) (loc1 := [(2, (T : Int)), (0, (-15))]) rfl ?_
          have J14 := (J11).opn hT (show ((o + 1) - 1) = o by omega)
          have B14 : Fr (VJ T) M0 (mu M11 23 7 ((o + 1) - 1)) := (F11).tr (fr7.mono VR.j)
          generalize (mu M11 23 7 ((o + 1) - 1)) = N14 at J14 B14 ⊢
          refine sp_write hT hn J14 (by have := C11; have := B11; omega) (-15) (fun M15 J15 f15 => ?_)
          have F15 := (B14).tr f15
          have C15 : (((c ++ c11) ++ [(-15)])).length ≤ y11 := by rw [List.length_append]; have := C11; show _ + 1 ≤ y11; omega
          refine wp_goto (tgt := 163) dX2_readOne_113 (by decide) ?_
          refine wp_vret rfl dX2_readOne_163 ?_
          have e : oneP f z (some q) x = pbd (q.1 (lxN f z x)) (fun y c v => .inr (y, c ++ [-15], fun e => wrap (-(v e)))) := (if_neg h5).trans ((if_neg (by omega)).trans (if_pos h76))
          rw [e, r11] at k
          refine k _ ⟨F15, ?_⟩
          show RJ _ f z T y11 (c ++ (c11 ++ [-15])) o
          have := J15
          simpa [List.append_assoc] using this
    · refine wp_aload_n dX2_readOne_36 rfl rfl ?_
      refine wp_get 23 rfl fl_RX2_67 rfl ⟨by omega, by omega⟩ dX2_readOne_37 rfl (v := (lxT f z x)) (hJ.2.2.1.2.2.1) ?_
      refine wp_sipush dX2_readOne_40 (by decide) (by decide) ?_
      refine wp_icmp_ge (tgt := 70) dX2_readOne_43 (by decide) (fun h43 => ?_) (fun h43 => ?_)
      · refine wp_aload_n dX2_readOne_70 rfl rfl ?_
        refine wp_get 23 rfl fl_RX2_67 rfl ⟨by omega, by omega⟩ dX2_readOne_71 rfl (v := (lxT f z x)) (hJ.2.2.1.2.2.1) ?_
        refine wp_bipush dX2_readOne_74 (by decide) (by decide) ?_
        refine wp_icmp_ne (tgt := 116) dX2_readOne_76 (by decide) (fun h76 => ?_) (fun h76 => ?_)
        · refine wp_aload_n dX2_readOne_116 rfl rfl ?_
          refine wp_get 23 rfl fl_RX2_67 rfl ⟨by omega, by omega⟩ dX2_readOne_117 rfl (v := (lxT f z x)) (hJ.2.2.1.2.2.1) ?_
          refine wp_bipush dX2_readOne_120 (by decide) (by decide) ?_
          refine wp_icmp_ne (tgt := 159) dX2_readOne_122 (by decide) (fun h122 => ?_) (fun h122 => ?_)
          · refine wp_aload_n dX2_readOne_159 rfl rfl ?_
            refine wp_callV0 (d' := d - 1) cv_RX2_70 23 rfl [] [] rfl rfl (Or.inl ⟨_, _, rfl, by decide, rfl, by omega, by omega⟩) (by omega) (Nat.le_of_ble_eq_true rfl) dX2_readOne_160 rfl (Nat.le_of_ble_eq_true rfl) (by omega) (loc1 := [(2, 23)]) rfl ?_
            refine sp_fail hT hn hJ (fun M16 D16 f16 => ?_)
            have F16 := ((Fr.rf : Fr (VJ T) M0 M0)).tr f16
            refine wp_vret rfl dX2_readOne_163 ?_
            have e : oneP f z (some q) x = .inl (lxA f z x) := (if_neg h5).trans ((if_neg (by omega)).trans ((if_neg h76).trans (if_neg h122)))
            rw [e] at k
            exact k _ ⟨F16, D16⟩
          · refine wp_aload_n dX2_readOne_125 rfl rfl ?_
            refine wp_callV0 (d' := d - 1) cv_RX2_85 23 rfl [] [] rfl rfl (Or.inl ⟨_, _, rfl, by decide, rfl, by omega, by omega⟩) (by omega) (Nat.le_of_ble_eq_true rfl) dX2_readOne_126 rfl (Nat.le_of_ble_eq_true rfl) (by omega) (loc1 := [(2, 23)]) rfl ?_
            refine sp_opens hT hn (by omega) hJ ho (fun M17 J17 f17 => ?_)
            have F17 := ((Fr.rf : Fr (VJ T) M0 M0)).tr f17
            refine wp_if_eq (tgt := 159) dX2_readOne_129 (by decide) (fun h => absurd h (by decide)) (fun _ => ?_)
            refine wp_aload_n dX2_readOne_132 rfl rfl ?_
            refine wp_callV0 (d' := d - 1) cv_RX2_51 23 rfl [] [] rfl rfl (Or.inl ⟨_, _, rfl, by decide, rfl, by omega, by omega⟩) (by omega) (Nat.le_of_ble_eq_true rfl) dX2_readOne_133 rfl (Nat.le_of_ble_eq_true rfl) (by omega) (loc1 := [(2, 23), (9, 0)]) rfl ?_
            refine sp_step hn (J17).1 (by omega) hB (J17).2.2.1.2.1 (lxN_le hx).1 (fun M18 f18 l18 => ?_)
            have J18 := (J17).step hT f18 l18
            have F18 := (F17).tr (f18.mono VR36.j)
            have X18 := lxN_le (f := f) hx
            have Y18 := lxA_le (f := f) hx
            have C18 : (c).length + 1 ≤ (lxN f z x) := by have := hC; have := X18.2.2 (by omega); omega
            refine wp_aload_n dX2_readOne_136 rfl rfl ?_
            refine wp_callV0 (d' := d - 1) cv_RX2_58 23 rfl [] [] rfl rfl (Or.inl ⟨_, _, rfl, by decide, rfl, by omega, by omega⟩) (by omega) (Nat.le_of_ble_eq_true rfl) dX2_readOne_137 rfl (Nat.le_of_ble_eq_true rfl) (by omega) (loc1 := [(2, 23), (9, 0)]) rfl ?_
            refine hs3 _ _ _ _ _ (by omega) J18 X18.1 (by have := C18; omega) (fun M19 q19 => ?_)
            obtain ⟨f19, q19⟩ := q19
            have F19 := (F18).tr f19
            have b19 := hq.2.2 _ X18.1
            generalize r19 : q.2.2 (lxN f z x) = w19 at q19 b19
            rcases w19 with p19 | ⟨y19, c19, v19⟩
            · have D19 : DJ M19 f z T p19 (o + 1) := q19
              refine wp_aload_n dX2_readOne_140 rfl rfl ?_
              refine wp_dup dX2_readOne_141 (Or.inr rfl) ?_
              refine wp_get 23 rfl fl_RX2_45 rfl ⟨by omega, by omega⟩ dX2_readOne_142 rfl (v := (o + 1)) (D19.2.2.2.1) ?_
              refine wp_iconst dX2_readOne_145 (by decide) ?_
              refine wp_isub dX2_readOne_146 (by omega) ?_
              refine wp_puti 23 rfl fl_RX2_45 rfl ⟨by omega, by omega⟩ dX2_readOne_147 rfl rfl ?_
              refine wp_aload_n dX2_readOne_150 rfl rfl ?_
              refine wp_bipush dX2_readOne_151 (by decide) (by decide) ?_
              refine wp_callV0 (d' := d - 1) cv_RX2_54 23 rfl [(0, 41)] [] rfl rfl (Or.inl ⟨_, _, rfl, by decide, rfl, by omega, by omega⟩) (by omega) (Nat.le_of_ble_eq_true rfl) dX2_readOne_153 rfl (Nat.le_of_ble_eq_true rfl) (by omega) (loc1 := [(2, 23), (0, 41)]) rfl ?_
              have J20 := (D19).opn (show ((o + 1) - 1) = o by omega)
              have B20 : Fr (VJ T) M0 (mu M19 23 7 ((o + 1) - 1)) := (F19).tr (fr7.mono VR.j)
              generalize (mu M19 23 7 ((o + 1) - 1)) = N20 at J20 B20 ⊢
              refine sp_wantD hT hn (by omega) J20 (by decide) (fun M21 D21 f21 => ?_)
              have F21 := (B20).tr f21
              refine wp_goto (tgt := 163) dX2_readOne_156 (by decide) ?_
              refine wp_vret rfl dX2_readOne_163 ?_
              have e : oneP f z (some q) x = pbd (q.2.2 (lxN f z x)) (fun y c v => if lxT f z y = 41 then .inr (lxN f z y, c, v) else .inl (lxA f z y)) := (if_neg h5).trans ((if_neg (by omega)).trans ((if_neg h76).trans (if_pos h122)))
              rw [e, r19] at k
              exact k _ ⟨F21, D21⟩
            · have J19 : RJ M19 f z T y19 (c ++ c19) (o + 1) := q19
              obtain ⟨b19, B19, _⟩ : (lxN f z x) + c19.length ≤ y19 ∧ (y19 : Int) ≤ z ∧ _ := b19
              have C19 : ((c ++ c19)).length + 1 ≤ y19 := by rw [List.length_append]; have := C18; omega
              refine wp_aload_n dX2_readOne_140 rfl rfl ?_
              refine wp_dup dX2_readOne_141 (Or.inr rfl) ?_
              refine wp_get 23 rfl fl_RX2_45 rfl ⟨by omega, by omega⟩ dX2_readOne_142 rfl (v := (o + 1)) (J19.2.2.2.1) ?_
              refine wp_iconst dX2_readOne_145 (by decide) ?_
              refine wp_isub dX2_readOne_146 (by omega) ?_
              refine wp_puti 23 rfl fl_RX2_45 rfl ⟨by omega, by omega⟩ dX2_readOne_147 rfl rfl ?_
              refine wp_aload_n dX2_readOne_150 rfl rfl ?_
              refine wp_bipush dX2_readOne_151 (by decide) (by decide) ?_
              refine wp_callV0 (d' := d - 1) cv_RX2_54 23 rfl [(0, 41)] [] rfl rfl (Or.inl ⟨_, _, rfl, by decide, rfl, by omega, by omega⟩) (by omega) (Nat.le_of_ble_eq_true rfl) dX2_readOne_153 rfl (Nat.le_of_ble_eq_true rfl) (by omega) (loc1 := [(2, 23), (0, 41)]) rfl ?_
              have J22 := (J19).opn hT (show ((o + 1) - 1) = o by omega)
              have B22 : Fr (VJ T) M0 (mu M19 23 7 ((o + 1) - 1)) := (F19).tr (fr7.mono VR.j)
              generalize (mu M19 23 7 ((o + 1) - 1)) = N22 at J22 B22 ⊢
              refine sp_want hT hn (by omega) hB J22 B19 41 (fun t23 M23 J23 f23 => ?_) (fun t23 M23 D23 f23 => ?_)
              · have F23 := (B22).tr f23
                have X23 := lxN_le (f := f) B19
                have Y23 := lxA_le (f := f) B19
                have C23 : ((c ++ c19)).length + 2 ≤ (lxN f z y19) := by have := C19; have := X23.2.2 (by omega); omega
                refine wp_goto (tgt := 163) dX2_readOne_156 (by decide) ?_
                refine wp_vret rfl dX2_readOne_163 ?_
                have e : oneP f z (some q) x = pbd (q.2.2 (lxN f z x)) (fun y c v => if lxT f z y = 41 then .inr (lxN f z y, c, v) else .inl (lxA f z y)) := (if_neg h5).trans ((if_neg (by omega)).trans ((if_neg h76).trans (if_pos h122)))
                rw [e, r19] at k
                replace k : ∀ M', PoJ M0 f z T o c (if lxT f z y19 = 41 then .inr (lxN f z y19, c19, v19) else .inl (lxA f z y19)) M' → Q none M' := k
                rw [if_pos t23] at k
                exact k _ ⟨F23, J23⟩
              · have F23 := (B22).tr f23
                refine wp_goto (tgt := 163) dX2_readOne_156 (by decide) ?_
                refine wp_vret rfl dX2_readOne_163 ?_
                have e : oneP f z (some q) x = pbd (q.2.2 (lxN f z x)) (fun y c v => if lxT f z y = 41 then .inr (lxN f z y, c, v) else .inl (lxA f z y)) := (if_neg h5).trans ((if_neg (by omega)).trans ((if_neg h76).trans (if_pos h122)))
                rw [e, r19] at k
                replace k : ∀ M', PoJ M0 f z T o c (if lxT f z y19 = 41 then .inr (lxN f z y19, c19, v19) else .inl (lxA f z y19)) M' → Q none M' := k
                rw [if_neg t23] at k
                exact k _ ⟨F23, D23⟩
        · refine wp_aload_n dX2_readOne_79 rfl rfl ?_
          refine wp_callV0 (d' := d - 1) cv_RX2_85 23 rfl [] [] rfl rfl (Or.inl ⟨_, _, rfl, by decide, rfl, by omega, by omega⟩) (by omega) (Nat.le_of_ble_eq_true rfl) dX2_readOne_80 rfl (Nat.le_of_ble_eq_true rfl) (by omega) (loc1 := [(2, 23)]) rfl ?_
          refine sp_opens hT hn (by omega) hJ ho (fun M24 J24 f24 => ?_)
          have F24 := ((Fr.rf : Fr (VJ T) M0 M0)).tr f24
          refine wp_if_eq (tgt := 116) dX2_readOne_83 (by decide) (fun h => absurd h (by decide)) (fun _ => ?_)
          refine wp_aload_n dX2_readOne_86 rfl rfl ?_
          refine wp_callV0 (d' := d - 1) cv_RX2_51 23 rfl [] [] rfl rfl (Or.inl ⟨_, _, rfl, by decide, rfl, by omega, by omega⟩) (by omega) (Nat.le_of_ble_eq_true rfl) dX2_readOne_87 rfl (Nat.le_of_ble_eq_true rfl) (by omega) (loc1 := [(2, 23), (9, 0)]) rfl ?_
          refine sp_step hn (J24).1 (by omega) hB (J24).2.2.1.2.1 (lxN_le hx).1 (fun M25 f25 l25 => ?_)
          have J25 := (J24).step hT f25 l25
          have F25 := (F24).tr (f25.mono VR36.j)
          have X25 := lxN_le (f := f) hx
          have Y25 := lxA_le (f := f) hx
          have C25 : (c).length + 1 ≤ (lxN f z x) := by have := hC; have := X25.2.2 (by omega); omega
          refine wp_aload_n dX2_readOne_90 rfl rfl ?_
          refine wp_callV0 (d' := d - 1) cv_RX2_95 23 rfl [] [] rfl rfl (Or.inl ⟨_, _, rfl, by decide, rfl, by omega, by omega⟩) (by omega) (Nat.le_of_ble_eq_true rfl) dX2_readOne_91 rfl (Nat.le_of_ble_eq_true rfl) (by omega) (loc1 := [(2, 23)]) rfl ?_
          refine hs1 _ _ _ _ _ (by omega) J25 X25.1 (by have := C25; omega) (fun M26 q26 => ?_)
          obtain ⟨f26, q26⟩ := q26
          have F26 := (F25).tr f26
          have b26 := hq.1 _ X25.1
          generalize r26 : q.1 (lxN f z x) = w26 at q26 b26
          rcases w26 with p26 | ⟨y26, c26, v26⟩
          · have D26 : DJ M26 f z T p26 (o + 1) := q26
            refine wp_aload_n dX2_readOne_94 rfl rfl ?_
            refine wp_dup dX2_readOne_95 (Or.inr rfl) ?_
            refine wp_get 23 rfl fl_RX2_45 rfl ⟨by omega, by omega⟩ dX2_readOne_96 rfl (v := (o + 1)) (D26.2.2.2.1) ?_
            refine wp_iconst dX2_readOne_99 (by decide) ?_
            refine wp_isub dX2_readOne_100 (by omega) ?_
            refine wp_puti 23 rfl fl_RX2_45 rfl ⟨by omega, by omega⟩ dX2_readOne_101 rfl rfl ?_
            refine wp_aload_n dX2_readOne_104 rfl rfl ?_
            refine wp_get 23 rfl fl_RX2_33 rfl ⟨by omega, by omega⟩ dX2_readOne_105 rfl (v := (T : Int)) (D26.2.1) ?_
            refine wp_bipush dX2_readOne_108 (by decide) (by decide) ?_
            refine wp_callV0 (d' := d - 1) cv_RX2_76 T rfl [(0, (-15))] [] rfl rfl (Or.inl ⟨_, _, hT.k0, by decide, rfl, by omega, by omega⟩) (by omega) (Nat.le_of_ble_eq_true rfl) dX2_readOne_110 rfl (Nat.le_of_ble_eq_true rfl) (by omega) (loc1 := [(2, (T : Int)), (0, (-15))]) rfl ?_
            have J27 := (D26).opn (show ((o + 1) - 1) = o by omega)
            have B27 : Fr (VJ T) M0 (mu M26 23 7 ((o + 1) - 1)) := (F26).tr (fr7.mono VR.j)
            generalize (mu M26 23 7 ((o + 1) - 1)) = N27 at J27 B27 ⊢
            refine sp_writeD hT hn J27 (-15) (fun M28 D28 f28 => ?_)
            have F28 := (B27).tr f28
            refine wp_goto (tgt := 163) dX2_readOne_113 (by decide) ?_
            refine wp_vret rfl dX2_readOne_163 ?_
            have e : oneP f z (some q) x = pbd (q.1 (lxN f z x)) (fun y c v => .inr (y, c ++ [-15], fun e => wrap (-(v e)))) := (if_neg h5).trans ((if_neg (by omega)).trans (if_pos h76))
            rw [e, r26] at k
            exact k _ ⟨F28, D28⟩
          · have J26 : RJ M26 f z T y26 (c ++ c26) (o + 1) := q26
            obtain ⟨b26, B26, _⟩ : (lxN f z x) + c26.length ≤ y26 ∧ (y26 : Int) ≤ z ∧ _ := b26
            have C26 : ((c ++ c26)).length + 1 ≤ y26 := by rw [List.length_append]; have := C25; omega
            refine wp_aload_n dX2_readOne_94 rfl rfl ?_
            refine wp_dup dX2_readOne_95 (Or.inr rfl) ?_
            refine wp_get 23 rfl fl_RX2_45 rfl ⟨by omega, by omega⟩ dX2_readOne_96 rfl (v := (o + 1)) (J26.2.2.2.1) ?_
            refine wp_iconst dX2_readOne_99 (by decide) ?_
            refine wp_isub dX2_readOne_100 (by omega) ?_
            refine wp_puti 23 rfl fl_RX2_45 rfl ⟨by omega, by omega⟩ dX2_readOne_101 rfl rfl ?_
            refine wp_aload_n dX2_readOne_104 rfl rfl ?_
            refine wp_get 23 rfl fl_RX2_33 rfl ⟨by omega, by omega⟩ dX2_readOne_105 rfl (v := (T : Int)) (J26.2.1) ?_
            refine wp_bipush dX2_readOne_108 (by decide) (by decide) ?_
            refine wp_callV0 (d' := d - 1) cv_RX2_76 T rfl [(0, (-15))] [] rfl rfl (Or.inl ⟨_, _, hT.k0, by decide, rfl, by omega, by omega⟩) (by omega) (Nat.le_of_ble_eq_true rfl) dX2_readOne_110 rfl (Nat.le_of_ble_eq_true rfl) (by omega) (loc1 := [(2, (T : Int)), (0, (-15))]) rfl ?_
            have J29 := (J26).opn hT (show ((o + 1) - 1) = o by omega)
            have B29 : Fr (VJ T) M0 (mu M26 23 7 ((o + 1) - 1)) := (F26).tr (fr7.mono VR.j)
            generalize (mu M26 23 7 ((o + 1) - 1)) = N29 at J29 B29 ⊢
            refine sp_write hT hn J29 (by have := C26; have := B26; omega) (-15) (fun M30 J30 f30 => ?_)
            have F30 := (B29).tr f30
            have C30 : (((c ++ c26) ++ [(-15)])).length ≤ y26 := by rw [List.length_append]; have := C26; show _ + 1 ≤ y26; omega
            refine wp_goto (tgt := 163) dX2_readOne_113 (by decide) ?_
            refine wp_vret rfl dX2_readOne_163 ?_
            have e : oneP f z (some q) x = pbd (q.1 (lxN f z x)) (fun y c v => .inr (y, c ++ [-15], fun e => wrap (-(v e)))) := (if_neg h5).trans ((if_neg (by omega)).trans (if_pos h76))
            rw [e, r26] at k
            refine k _ ⟨F30, ?_⟩
            show RJ _ f z T y26 (c ++ (c26 ++ [-15])) o
            have := J30
            simpa [List.append_assoc] using this
      · refine wp_aload_n dX2_readOne_46 rfl rfl ?_
        refine wp_get 23 rfl fl_RX2_33 rfl ⟨by omega, by omega⟩ dX2_readOne_47 rfl (v := (T : Int)) (hJ.2.1) ?_
        refine wp_iconst dX2_readOne_50 (by decide) ?_
        refine wp_aload_n dX2_readOne_51 rfl rfl ?_
        refine wp_get 23 rfl fl_RX2_67 rfl ⟨by omega, by omega⟩ dX2_readOne_52 rfl (v := (lxT f z x)) (hJ.2.2.1.2.2.1) ?_
        refine wp_sipush dX2_readOne_55 (by decide) (by decide) ?_
        refine wp_isub dX2_readOne_58 (by omega) ?_
        refine wp_isub dX2_readOne_59 (by omega) ?_
        refine wp_callV0 (d' := d - 1) cv_RX2_76 T rfl [(0, ((-1) - ((lxT f z x) - 262)))] [] rfl rfl (Or.inl ⟨_, _, hT.k0, by decide, rfl, by omega, by omega⟩) (by omega) (Nat.le_of_ble_eq_true rfl) dX2_readOne_60 rfl (Nat.le_of_ble_eq_true rfl) (by omega) (loc1 := [(2, (T : Int)), (0, ((-1) - ((lxT f z x) - 262)))]) rfl ?_
        refine sp_write hT hn hJ (by have := hC; have := lxA_le (f := f) hx; have h9 := lxN_le (f := f) hx; have := h9.2.2 (by omega); omega) ((-1) - ((lxT f z x) - 262)) (fun M31 J31 f31 => ?_)
        have F31 := ((Fr.rf : Fr (VJ T) M0 M0)).tr f31
        have C31 : ((c ++ [((-1) - ((lxT f z x) - 262))])).length ≤ x + 1 := by rw [List.length_append]; have := hC; show _ + 1 ≤ x + 1; omega
        refine wp_aload_n dX2_readOne_63 rfl rfl ?_
        refine wp_callV0 (d' := d - 1) cv_RX2_51 23 rfl [] [] rfl rfl (Or.inl ⟨_, _, rfl, by decide, rfl, by omega, by omega⟩) (by omega) (Nat.le_of_ble_eq_true rfl) dX2_readOne_64 rfl (Nat.le_of_ble_eq_true rfl) (by omega) (loc1 := [(2, 23), (9, 0)]) rfl ?_
        refine sp_step hn (J31).1 (by omega) hB (J31).2.2.1.2.1 (lxN_le hx).1 (fun M32 f32 l32 => ?_)
        have J32 := (J31).step hT f32 l32
        have F32 := (F31).tr (f32.mono VR36.j)
        have X32 := lxN_le (f := f) hx
        have Y32 := lxA_le (f := f) hx
        have C32 : ((c ++ [((-1) - ((lxT f z x) - 262))])).length ≤ (lxN f z x) := by have := C31; have := X32.2.2 (by omega); omega
        refine wp_goto (tgt := 163) dX2_readOne_67 (by decide) ?_
        refine wp_vret rfl dX2_readOne_163 ?_
        have e : oneP f z (some q) x = .inr (lxN f z x, [-1 - (lxT f z x - 262)], fun e => e (-1 - (lxT f z x - 262))) := (if_neg h5).trans (if_pos ⟨by omega, by omega⟩)
        rw [e] at k
        exact k _ ⟨F32, J32⟩
  · refine wp_aload_n dX2_readOne_8 rfl rfl ?_
    refine wp_get 23 rfl fl_RX2_33 rfl ⟨by omega, by omega⟩ dX2_readOne_9 rfl (v := (T : Int)) (hJ.2.1) ?_
    refine wp_aload_n dX2_readOne_12 rfl rfl ?_
    refine wp_get 23 rfl fl_RX2_98 rfl ⟨by omega, by omega⟩ dX2_readOne_13 rfl (v := (lxV f z x)) (hJ.2.2.1.2.2.2 h5) ?_
    refine wp_callV0 (d' := d - 1) cv_RX2_76 T rfl [(0, (lxV f z x))] [] rfl rfl (Or.inl ⟨_, _, hT.k0, by decide, rfl, by omega, by omega⟩) (by omega) (Nat.le_of_ble_eq_true rfl) dX2_readOne_16 rfl (Nat.le_of_ble_eq_true rfl) (by omega) (loc1 := [(2, (T : Int)), (0, (lxV f z x))]) rfl ?_
    refine sp_write hT hn hJ (by have := hC; have := lxA_le (f := f) hx; have h9 := lxN_le (f := f) hx; have := h9.2.2 (by omega); omega) (lxV f z x) (fun M33 J33 f33 => ?_)
    have F33 := ((Fr.rf : Fr (VJ T) M0 M0)).tr f33
    have C33 : ((c ++ [(lxV f z x)])).length ≤ x + 1 := by rw [List.length_append]; have := hC; show _ + 1 ≤ x + 1; omega
    refine wp_aload_n dX2_readOne_19 rfl rfl ?_
    refine wp_callV0 (d' := d - 1) cv_RX2_51 23 rfl [] [] rfl rfl (Or.inl ⟨_, _, rfl, by decide, rfl, by omega, by omega⟩) (by omega) (Nat.le_of_ble_eq_true rfl) dX2_readOne_20 rfl (Nat.le_of_ble_eq_true rfl) (by omega) (loc1 := [(2, 23), (9, 0)]) rfl ?_
    refine sp_step hn (J33).1 (by omega) hB (J33).2.2.1.2.1 (lxN_le hx).1 (fun M34 f34 l34 => ?_)
    have J34 := (J33).step hT f34 l34
    have F34 := (F33).tr (f34.mono VR36.j)
    have X34 := lxN_le (f := f) hx
    have Y34 := lxA_le (f := f) hx
    have C34 : ((c ++ [(lxV f z x)])).length ≤ (lxN f z x) := by have := C33; have := X34.2.2 (by omega); omega
    refine wp_goto (tgt := 163) dX2_readOne_23 (by decide) ?_
    refine wp_vret rfl dX2_readOne_163 ?_
    have e : oneP f z (some q) x = .inr (lxN f z x, [lxV f z x], fun _ => lxV f z x) := if_pos h5
    rw [e] at k
    exact k _ ⟨F34, J34⟩
set_option maxRecDepth 20000 in
set_option maxHeartbeats 4000000 in
theorem ct_Not0 {l : Launch} {g : Gw} {n : Nat} {T : Nat} (hT : isT T) (hn : 60 ≤ n) {f : Nat → Int} {z : Int} {B : Nat} (hB18 : 18 ≤ B) (hB : BT f z) {o : Int} (ho : o = 5) {cmp : Nat → PR} (hqc : ∀ x : Nat, (x : Int) ≤ z → PQ z x (cmp x)) (hc : CMr l g n f z T m_X2_readCompared [(9, 0)] B o cmp) : CMr l g n f z T m_X2_readNot [] (B + 1) o (notP f z none cmp) := by
  intro d M0 Q x c hd hJ hx hC k
  have hb := hT.b
  have hz1 := hJ.1.2.2.2.2
  refine wp_aload_n dX2_readNot_0 rfl rfl ?_
  refine wp_get 23 rfl fl_RX2_67 rfl ⟨by omega, by omega⟩ dX2_readNot_1 rfl (v := (lxT f z x)) (hJ.2.2.1.2.2.1) ?_
  refine wp_sipush dX2_readNot_4 (by decide) (by decide) ?_
  refine wp_icmp_eq (tgt := 17) dX2_readNot_7 (by decide) (fun h7 => ?_) (fun h7 => ?_)
  · refine wp_aload_n dX2_readNot_17 rfl rfl ?_
    refine wp_callV0 (d' := d - 1) cv_RX2_85 23 rfl [] [] rfl rfl (Or.inl ⟨_, _, rfl, by decide, rfl, by omega, by omega⟩) (by omega) (Nat.le_of_ble_eq_true rfl) dX2_readNot_18 rfl (Nat.le_of_ble_eq_true rfl) (by omega) (loc1 := [(2, 23)]) rfl ?_
    refine sp_opensF hT hn (by omega) hJ ho (fun M1 D1 f1 => ?_)
    have F1 := ((Fr.rf : Fr (VJ T) M0 M0)).tr f1
    refine wp_if_eq (tgt := 51) dX2_readNot_21 (by decide) (fun _ => ?_) (fun h => absurd h (by decide))
    refine wp_vret rfl dX2_readNot_51 ?_
    have e : notP f z none cmp x = .inl (lxA f z x) := if_pos h7
    rw [e] at k
    exact k _ ⟨F1, D1⟩
  · refine wp_aload_n dX2_readNot_10 rfl rfl ?_
    refine wp_callV0 (d' := d - 1) cv_RX2_82 23 rfl [] [] rfl rfl (Or.inl ⟨_, _, rfl, by decide, rfl, by omega, by omega⟩) (by omega) (Nat.le_of_ble_eq_true rfl) dX2_readNot_11 rfl (Nat.le_of_ble_eq_true rfl) (by omega) (loc1 := [(2, 23), (9, 0)]) rfl ?_
    refine hc _ _ _ _ _ (by omega) hJ hx (by have := hC; omega) (fun M2 q2 => ?_)
    obtain ⟨f2, q2⟩ := q2
    have F2 := ((Fr.rf : Fr (VJ T) M0 M0)).tr f2
    have b2 := hqc _ hx
    generalize r2 : cmp x = w2 at q2 b2
    rcases w2 with p2 | ⟨y2, c2, v2⟩
    · have D2 : DJ M2 f z T p2 o := q2
      refine wp_goto (tgt := 51) dX2_readNot_14 (by decide) ?_
      refine wp_vret rfl dX2_readNot_51 ?_
      have e : notP f z none cmp x = cmp x := if_neg h7
      rw [e, r2] at k
      exact k _ ⟨F2, D2⟩
    · have J2 : RJ M2 f z T y2 (c ++ c2) o := q2
      obtain ⟨b2, B2, _⟩ : x + c2.length ≤ y2 ∧ (y2 : Int) ≤ z ∧ _ := b2
      have C2 : ((c ++ c2)).length ≤ y2 := by rw [List.length_append]; have := hC; omega
      refine wp_goto (tgt := 51) dX2_readNot_14 (by decide) ?_
      refine wp_vret rfl dX2_readNot_51 ?_
      have e : notP f z none cmp x = cmp x := if_neg h7
      rw [e, r2] at k
      exact k _ ⟨F2, J2⟩
set_option maxRecDepth 20000 in
set_option maxHeartbeats 4000000 in
theorem ct_Not1 {l : Launch} {g : Gw} {n : Nat} {T : Nat} (hT : isT T) (hn : 60 ≤ n) {f : Nat → Int} {z : Int} {B : Nat} (hB18 : 18 ≤ B) (hB : BT f z) {o : Int} (ho : 0 ≤ o ∧ o < 5) {q : P3} (hq : OK3 z q) (hs2 : CMr l g n f z T m_X2_readNot [] B (o + 1) q.2.1) {cmp : Nat → PR} (hqc : ∀ x : Nat, (x : Int) ≤ z → PQ z x (cmp x)) (hc : CMr l g n f z T m_X2_readCompared [(9, 0)] B o cmp) : CMr l g n f z T m_X2_readNot [] (B + 1) o (notP f z (some q) cmp) := by
  intro d M0 Q x c hd hJ hx hC k
  have hb := hT.b
  have hz1 := hJ.1.2.2.2.2
  refine wp_aload_n dX2_readNot_0 rfl rfl ?_
  refine wp_get 23 rfl fl_RX2_67 rfl ⟨by omega, by omega⟩ dX2_readNot_1 rfl (v := (lxT f z x)) (hJ.2.2.1.2.2.1) ?_
  refine wp_sipush dX2_readNot_4 (by decide) (by decide) ?_
  refine wp_icmp_eq (tgt := 17) dX2_readNot_7 (by decide) (fun h7 => ?_) (fun h7 => ?_)
  · refine wp_aload_n dX2_readNot_17 rfl rfl ?_
    refine wp_callV0 (d' := d - 1) cv_RX2_85 23 rfl [] [] rfl rfl (Or.inl ⟨_, _, rfl, by decide, rfl, by omega, by omega⟩) (by omega) (Nat.le_of_ble_eq_true rfl) dX2_readNot_18 rfl (Nat.le_of_ble_eq_true rfl) (by omega) (loc1 := [(2, 23)]) rfl ?_
    refine sp_opens hT hn (by omega) hJ ho (fun M1 J1 f1 => ?_)
    have F1 := ((Fr.rf : Fr (VJ T) M0 M0)).tr f1
    refine wp_if_eq (tgt := 51) dX2_readNot_21 (by decide) (fun h => absurd h (by decide)) (fun _ => ?_)
    refine wp_aload_n dX2_readNot_24 rfl rfl ?_
    refine wp_callV0 (d' := d - 1) cv_RX2_51 23 rfl [] [] rfl rfl (Or.inl ⟨_, _, rfl, by decide, rfl, by omega, by omega⟩) (by omega) (Nat.le_of_ble_eq_true rfl) dX2_readNot_25 rfl (Nat.le_of_ble_eq_true rfl) (by omega) (loc1 := [(2, 23), (9, 0)]) rfl ?_
    refine sp_step hn (J1).1 (by omega) hB (J1).2.2.1.2.1 (lxN_le hx).1 (fun M2 f2 l2 => ?_)
    have J2 := (J1).step hT f2 l2
    have F2 := (F1).tr (f2.mono VR36.j)
    have X2 := lxN_le (f := f) hx
    have Y2 := lxA_le (f := f) hx
    have C2 : (c).length + 1 ≤ (lxN f z x) := by have := hC; have := X2.2.2 (by omega); omega
    refine wp_aload_n dX2_readNot_28 rfl rfl ?_
    refine wp_callV0 (d' := d - 1) cv_RX2_79 23 rfl [] [] rfl rfl (Or.inl ⟨_, _, rfl, by decide, rfl, by omega, by omega⟩) (by omega) (Nat.le_of_ble_eq_true rfl) dX2_readNot_29 rfl (Nat.le_of_ble_eq_true rfl) (by omega) (loc1 := [(2, 23)]) rfl ?_
    refine hs2 _ _ _ _ _ (by omega) J2 X2.1 (by have := C2; omega) (fun M3 q3 => ?_)
    obtain ⟨f3, q3⟩ := q3
    have F3 := (F2).tr f3
    have b3 := hq.2.1 _ X2.1
    generalize r3 : q.2.1 (lxN f z x) = w3 at q3 b3
    rcases w3 with p3 | ⟨y3, c3, v3⟩
    · have D3 : DJ M3 f z T p3 (o + 1) := q3
      refine wp_aload_n dX2_readNot_32 rfl rfl ?_
      refine wp_dup dX2_readNot_33 (Or.inr rfl) ?_
      refine wp_get 23 rfl fl_RX2_45 rfl ⟨by omega, by omega⟩ dX2_readNot_34 rfl (v := (o + 1)) (D3.2.2.2.1) ?_
      refine wp_iconst dX2_readNot_37 (by decide) ?_
      refine wp_isub dX2_readNot_38 (by omega) ?_
      refine wp_puti 23 rfl fl_RX2_45 rfl ⟨by omega, by omega⟩ dX2_readNot_39 rfl rfl ?_
      refine wp_aload_n dX2_readNot_42 rfl rfl ?_
      refine wp_get 23 rfl fl_RX2_33 rfl ⟨by omega, by omega⟩ dX2_readNot_43 rfl (v := (T : Int)) (D3.2.1) ?_
      refine wp_bipush dX2_readNot_46 (by decide) (by decide) ?_
      refine wp_callV0 (d' := d - 1) cv_RX2_76 T rfl [(0, (-9))] [] rfl rfl (Or.inl ⟨_, _, hT.k0, by decide, rfl, by omega, by omega⟩) (by omega) (Nat.le_of_ble_eq_true rfl) dX2_readNot_48 rfl (Nat.le_of_ble_eq_true rfl) (by omega) (loc1 := [(2, (T : Int)), (0, (-9))]) rfl ?_
      have J4 := (D3).opn (show ((o + 1) - 1) = o by omega)
      have B4 : Fr (VJ T) M0 (mu M3 23 7 ((o + 1) - 1)) := (F3).tr (fr7.mono VR.j)
      generalize (mu M3 23 7 ((o + 1) - 1)) = N4 at J4 B4 ⊢
      refine sp_writeD hT hn J4 (-9) (fun M5 D5 f5 => ?_)
      have F5 := (B4).tr f5
      refine wp_vret rfl dX2_readNot_51 ?_
      have e : notP f z (some q) cmp x = pbd (q.2.1 (lxN f z x)) (fun y c v => .inr (y, c ++ [-9], fun e => if v e = 0 then 1 else 0)) := if_pos h7
      rw [e, r3] at k
      exact k _ ⟨F5, D5⟩
    · have J3 : RJ M3 f z T y3 (c ++ c3) (o + 1) := q3
      obtain ⟨b3, B3, _⟩ : (lxN f z x) + c3.length ≤ y3 ∧ (y3 : Int) ≤ z ∧ _ := b3
      have C3 : ((c ++ c3)).length + 1 ≤ y3 := by rw [List.length_append]; have := C2; omega
      refine wp_aload_n dX2_readNot_32 rfl rfl ?_
      refine wp_dup dX2_readNot_33 (Or.inr rfl) ?_
      refine wp_get 23 rfl fl_RX2_45 rfl ⟨by omega, by omega⟩ dX2_readNot_34 rfl (v := (o + 1)) (J3.2.2.2.1) ?_
      refine wp_iconst dX2_readNot_37 (by decide) ?_
      refine wp_isub dX2_readNot_38 (by omega) ?_
      refine wp_puti 23 rfl fl_RX2_45 rfl ⟨by omega, by omega⟩ dX2_readNot_39 rfl rfl ?_
      refine wp_aload_n dX2_readNot_42 rfl rfl ?_
      refine wp_get 23 rfl fl_RX2_33 rfl ⟨by omega, by omega⟩ dX2_readNot_43 rfl (v := (T : Int)) (J3.2.1) ?_
      refine wp_bipush dX2_readNot_46 (by decide) (by decide) ?_
      refine wp_callV0 (d' := d - 1) cv_RX2_76 T rfl [(0, (-9))] [] rfl rfl (Or.inl ⟨_, _, hT.k0, by decide, rfl, by omega, by omega⟩) (by omega) (Nat.le_of_ble_eq_true rfl) dX2_readNot_48 rfl (Nat.le_of_ble_eq_true rfl) (by omega) (loc1 := [(2, (T : Int)), (0, (-9))]) rfl ?_
      have J6 := (J3).opn hT (show ((o + 1) - 1) = o by omega)
      have B6 : Fr (VJ T) M0 (mu M3 23 7 ((o + 1) - 1)) := (F3).tr (fr7.mono VR.j)
      generalize (mu M3 23 7 ((o + 1) - 1)) = N6 at J6 B6 ⊢
      refine sp_write hT hn J6 (by have := C3; have := B3; omega) (-9) (fun M7 J7 f7 => ?_)
      have F7 := (B6).tr f7
      have C7 : (((c ++ c3) ++ [(-9)])).length ≤ y3 := by rw [List.length_append]; have := C3; show _ + 1 ≤ y3; omega
      refine wp_vret rfl dX2_readNot_51 ?_
      have e : notP f z (some q) cmp x = pbd (q.2.1 (lxN f z x)) (fun y c v => .inr (y, c ++ [-9], fun e => if v e = 0 then 1 else 0)) := if_pos h7
      rw [e, r3] at k
      refine k _ ⟨F7, ?_⟩
      show RJ _ f z T y3 (c ++ (c3 ++ [-9])) o
      have := J7
      simpa [List.append_assoc] using this
  · refine wp_aload_n dX2_readNot_10 rfl rfl ?_
    refine wp_callV0 (d' := d - 1) cv_RX2_82 23 rfl [] [] rfl rfl (Or.inl ⟨_, _, rfl, by decide, rfl, by omega, by omega⟩) (by omega) (Nat.le_of_ble_eq_true rfl) dX2_readNot_11 rfl (Nat.le_of_ble_eq_true rfl) (by omega) (loc1 := [(2, 23), (9, 0)]) rfl ?_
    refine hc _ _ _ _ _ (by omega) hJ hx (by have := hC; omega) (fun M8 q8 => ?_)
    obtain ⟨f8, q8⟩ := q8
    have F8 := ((Fr.rf : Fr (VJ T) M0 M0)).tr f8
    have b8 := hqc _ hx
    generalize r8 : cmp x = w8 at q8 b8
    rcases w8 with p8 | ⟨y8, c8, v8⟩
    · have D8 : DJ M8 f z T p8 o := q8
      refine wp_goto (tgt := 51) dX2_readNot_14 (by decide) ?_
      refine wp_vret rfl dX2_readNot_51 ?_
      have e : notP f z (some q) cmp x = cmp x := if_neg h7
      rw [e, r8] at k
      exact k _ ⟨F8, D8⟩
    · have J8 : RJ M8 f z T y8 (c ++ c8) o := q8
      obtain ⟨b8, B8, _⟩ : x + c8.length ≤ y8 ∧ (y8 : Int) ≤ z ∧ _ := b8
      have C8 : ((c ++ c8)).length ≤ y8 := by rw [List.length_append]; have := hC; omega
      refine wp_goto (tgt := 51) dX2_readNot_14 (by decide) ?_
      refine wp_vret rfl dX2_readNot_51 ?_
      have e : notP f z (some q) cmp x = cmp x := if_neg h7
      rw [e, r8] at k
      exact k _ ⟨F8, J8⟩
theorem ct_cmp {l : Launch} {g : Gw} {n : Nat} {T : Nat} (hT : isT T) (hn : 60 ≤ n) {f : Nat → Int} {z : Int} (hB : BT f z) {B : Nat} (hB18 : 18 ≤ B) {o : Int} {one : Nat → PR} (h : CMr l g n f z T m_X2_readOne [] B o one) (hq : ∀ x : Nat, (x : Int) ≤ z → PQ z x (one x)) : CMr l g n f z T m_X2_readCompared [(9, 0)] (B + 3) o (cmpP f z one) :=
  ct_Compared hT hn (by omega) hB (ct_Sum hT hn (by omega) hB (ct_Term hT hn (by omega) hB h ((ctd_One hT hn).up (by omega)) hq) ((ctd_Term hT hn).up (by omega)) (PQ_gB op2T hq)) ((ctd_Sum hT hn).up (by omega)) (PQ_gB op2S (PQ_gB op2T hq))
theorem ct_or {l : Launch} {g : Gw} {n : Nat} {T : Nat} (hT : isT T) (hn : 60 ≤ n) {f : Nat → Int} {z : Int} (hB : BT f z) {B : Nat} (hB18 : 18 ≤ B) {o : Int} {nt : Nat → PR} (h : CMr l g n f z T m_X2_readNot [] B o nt) (hq : ∀ x : Nat, (x : Int) ≤ z → PQ z x (nt x)) : CMr l g n f z T m_X2_readOr [(9, 0)] (B + 2) o (gBn f z opO 160 (gBn f z opA 160 nt)) :=
  ct_Or hT hn (by omega) hB (ct_And hT hn (by omega) hB h ((ctd_Not hT hn).up (by omega)) hq) ((ctd_And hT hn).up (by omega)) (PQ_gB op2A hq)
/-- the three at a level -/
def LV3 (l : Launch) (g : Gw) (n : Nat) (f : Nat → Int) (z : Int) (T B : Nat) (o : Int) (q : P3) : Prop := CMr l g n f z T m_X2_readOne [] B o q.1 ∧ CMr l g n f z T m_X2_readNot [] (B + 4) o q.2.1 ∧ CMr l g n f z T m_X2_readOr [(9, 0)] (B + 6) o q.2.2
theorem ct_lv0 {l : Launch} {g : Gw} {n : Nat} {T : Nat} (hT : isT T) (hn : 60 ≤ n) {f : Nat → Int} {z : Int} (hB : BT f z) : LV3 l g n f z T 19 5 (bld f z none) := by
  have h1 := ct_One0 (l := l) (g := g) hT hn (B := 18) (by omega) hB (o := 5) rfl
  have q1 := PQ_one (f := f) (z := z) (o := none) (fun q h => by cases h)
  have h2 := ct_Not0 hT hn (B := 22) (by omega) hB (o := 5) rfl (PQ_cmp q1) (ct_cmp hT hn hB (by omega) h1 q1)
  exact ⟨h1, h2, ct_or hT hn hB (by omega) h2 (PQ_not (fun q h => by cases h) (PQ_cmp q1))⟩
theorem ct_lv1 {l : Launch} {g : Gw} {n : Nat} {T : Nat} (hT : isT T) (hn : 60 ≤ n) {f : Nat → Int} {z : Int} (hB : BT f z) {B : Nat} (hB18 : 18 ≤ B) {o : Int} (ho : 0 ≤ o ∧ o < 5) {q : P3} (hq : OK3 z q) (h : LV3 l g n f z T B (o + 1) q) : LV3 l g n f z T (B + 7) o (bld f z (some q)) := by
  have h1 := ct_One1 hT hn (B := B + 6) (by omega) hB ho hq (h.1.up (by omega)) h.2.2
  have hq' : ∀ r, some q = some r → OK3 z r := fun r e => by cases e; exact hq
  have q1 := PQ_one (f := f) (z := z) hq'
  have h2 := ct_Not1 hT hn (B := B + 10) (by omega) hB ho hq (h.2.1.up (by omega)) (PQ_cmp q1) (ct_cmp hT hn hB (by omega) h1 q1)
  exact ⟨h1, h2, ct_or hT hn hB (by omega) h2 (PQ_not hq' (PQ_cmp q1))⟩
theorem ct_lv {l : Launch} {g : Gw} {n : Nat} {T : Nat} (hT : isT T) (hn : 60 ≤ n) {f : Nat → Int} {z : Int} (hB : BT f z) : LV3 l g n f z T 54 0 (lv f z 5) :=
  ct_lv1 hT hn hB (by omega) (o := 0) (by omega) (OK3_lv 4) (ct_lv1 hT hn hB (by omega) (o := 1) (by omega) (OK3_lv 3) (ct_lv1 hT hn hB (by omega) (o := 2) (by omega) (OK3_lv 2) (ct_lv1 hT hn hB (by omega) (o := 3) (by omega) (OK3_lv 1) (ct_lv1 hT hn hB (by omega) (o := 4) (by omega) (OK3_lv 0) (ct_lv0 hT hn hB)))))
/-! ===== a whole text ===== -/
def VE (T i j : Nat) : Prop := (i = 23 ∧ 1 ≤ j) ∨ (i = T ∧ j = 2) ∨ i = T + 1 ∨ i = T + 2
theorem VJ.e {T : Nat} : ∀ i j, VJ T i j → VE T i j := by
  intro i j h
  unfold VJ at h
  unfold VE
  omega
theorem VE.sr {M M' : Mm} {T : Nat} (hT : isT T) (h : Fr (VE T) M M') (hR : SRr M) : SRr M' := by
  refine hR.of (fun q hq => h _ _ ?_)
  have hall : ∀ q ∈ srK, ∀ T ∈ [27, 31, 35, 39, 43, 47], ¬ ((q.1 = 23 ∧ 1 ≤ q.2.1) ∨ (q.1 = T ∧ q.2.1 = 2) ∨ q.1 = T + 1 ∨ q.1 = T + 2) := by decide +kernel
  refine hall q hq T ?_
  rcases hT with rfl | rfl | rfl | rfl | rfl | rfl <;> decide
def VE2 (T i j : Nat) : Prop := i = T + 2
theorem VE2.e {T : Nat} : ∀ i j, VE2 T i j → VE T i j := fun i j h => Or.inr (Or.inr (Or.inr h))
theorem TP.frE {M M' : Mm} {f : Nat → Int} {z : Int} {T : Nat} (hT : isT T) (h : TP M f z) (g : Fr (VE2 T) M M') : TP M' f z := by
  obtain ⟨h1, h2, h3, h4, h5⟩ := h
  have hb := hT.b
  exact ⟨VE.sr hT (g.mono VE2.e) h1, (funext fun j => g 24 j (by unfold VE2; omega)).trans h2, (g 23 1 (by unfold VE2; omega)).trans h3, h4, h5⟩
theorem RJ.frE {M M' : Mm} {f : Nat → Int} {z : Int} {T x : Nat} {c : List Int} {o : Int} (h : RJ M f z T x c o) (hT : isT T) (g : Fr (VE2 T) M M') : RJ M' f z T x c o := by
  obtain ⟨a, b, ⟨q1, q2, q3, q4⟩, d, r, k⟩ := h
  have hb := hT.b
  have e : ∀ j, M' 23 j = M 23 j := fun j => g 23 j (by unfold VE2; omega)
  exact ⟨a.frE hT g, (e 2).trans b, ⟨(e 3).trans q1, (e 4).trans q2, (e 5).trans q3, fun h => (e 6).trans (q4 h)⟩, (e 7).trans d, (e 8).trans r, (g T 2 (by unfold VE2; omega)).trans k.1, fun i hi => (g (T + 1) i (by unfold VE2; omega)).trans (k.2 i hi)⟩
theorem DJ.frE {M M' : Mm} {f : Nat → Int} {z : Int} {T p : Nat} {o : Int} (h : DJ M f z T p o) (hT : isT T) (g : Fr (VE2 T) M M') : DJ M' f z T p o := by
  obtain ⟨a, b, q, d, r⟩ := h
  have hb := hT.b
  have e : ∀ j, M' 23 j = M 23 j := fun j => g 23 j (by unfold VE2; omega)
  exact ⟨a.frE hT g, (e 2).trans b, (e 5).trans q, (e 7).trans d, (e 8).trans r⟩
/-- a text's three parts as they are written -/
def TXC (M : Mm) (T : Nat) (q : (List Int × Vl) × (List Int × Vl) × (List Int × Vl)) : Prop := CD M T (q.1.1 ++ q.2.1.1 ++ q.2.2.1) ∧ M (T + 2) 0 = (q.1.1.length : Int) ∧ M (T + 2) 1 = ((q.1.1 ++ q.2.1.1).length : Int) ∧ M (T + 2) 2 = ((q.1.1 ++ q.2.1.1 ++ q.2.2.1).length : Int)
set_option maxRecDepth 20000 in
set_option maxHeartbeats 4000000 in
theorem sp_endPart_0 {l : Launch} {g : Gw} {d n : Nat} {M : Mm} {Q : Option Wd → Mm → Prop} {T : Nat} (hT : isT T) (hn : 60 ≤ n) {f : Nat → Int} {z : Int} {x : Nat} {c : List Int} {o : Int} (hJ : RJ M f z T x c o) (k : ∀ M', RJ M' f z T x c o → M' (T + 2) 0 = (c.length : Int) → (∀ j, j ≠ 0 → M' (T + 2) j = M (T + 2) j) → Fr (VE2 T) M M' → Q none M') : Wp l g d 0 0 n m_X5_endPart 0 [] [(2, (T : Int)), (0, 0)] M Q := by
  have hR := hJ.1.1
  have hb := hT.b
  refine wp_iload_n dX5_endPart_0 rfl rfl ?_
  refine wp_if_lt (tgt := 19) dX5_endPart_1 (by decide) (fun h => absurd h (by decide)) (fun _ => ?_)
  refine wp_iload_n dX5_endPart_4 rfl rfl ?_
  refine wp_iconst dX5_endPart_5 (by decide) ?_
  refine wp_icmp_ge (tgt := 19) dX5_endPart_6 (by decide) (fun h => absurd h (by decide)) (fun _ => ?_)
  refine wp_aload_n dX5_endPart_9 rfl rfl ?_
  refine wp_get T rfl fl_RX5_15 hT.k0 ⟨by omega, by omega⟩ dX5_endPart_10 rfl (v := ((T + 2 : Nat) : Int)) (hT.q1 hR) ?_
  refine wp_iload_n dX5_endPart_13 rfl rfl ?_
  refine wp_aload_n dX5_endPart_14 rfl rfl ?_
  refine wp_get T rfl fl_RX5_21 hT.k0 ⟨by omega, by omega⟩ dX5_endPart_15 rfl (v := (M T 2)) (rfl) ?_
  refine wp_iast (T + 2) rfl hT.k2 ⟨by omega, by omega⟩ ⟨by omega, by omega⟩ dX5_endPart_18 (jn := 0) rfl ?_
  refine wp_vret rfl dX5_endPart_19 ?_
  have f1 : Fr (VE2 T) M (mu M (T + 2) 0 (M T 2)) := Fr.rf.put rfl
  exact k _ (hJ.frE hT f1) ((mu_self _ _ _ _).trans hJ.2.2.2.2.2.1) (fun j hj => mu_nj _ _ _ hj) f1
set_option maxRecDepth 20000 in
set_option maxHeartbeats 4000000 in
theorem sp_endPartD_0 {l : Launch} {g : Gw} {d n : Nat} {M : Mm} {Q : Option Wd → Mm → Prop} {T : Nat} (hT : isT T) (hn : 60 ≤ n) {f : Nat → Int} {z : Int} {p : Nat} {o : Int} (hD : DJ M f z T p o) (k : ∀ M', DJ M' f z T p o → Fr (VE2 T) M M' → Q none M') : Wp l g d 0 0 n m_X5_endPart 0 [] [(2, (T : Int)), (0, 0)] M Q := by
  have hR := hD.1.1
  have hb := hT.b
  refine wp_iload_n dX5_endPart_0 rfl rfl ?_
  refine wp_if_lt (tgt := 19) dX5_endPart_1 (by decide) (fun h => absurd h (by decide)) (fun _ => ?_)
  refine wp_iload_n dX5_endPart_4 rfl rfl ?_
  refine wp_iconst dX5_endPart_5 (by decide) ?_
  refine wp_icmp_ge (tgt := 19) dX5_endPart_6 (by decide) (fun h => absurd h (by decide)) (fun _ => ?_)
  refine wp_aload_n dX5_endPart_9 rfl rfl ?_
  refine wp_get T rfl fl_RX5_15 hT.k0 ⟨by omega, by omega⟩ dX5_endPart_10 rfl (v := ((T + 2 : Nat) : Int)) (hT.q1 hR) ?_
  refine wp_iload_n dX5_endPart_13 rfl rfl ?_
  refine wp_aload_n dX5_endPart_14 rfl rfl ?_
  refine wp_get T rfl fl_RX5_21 hT.k0 ⟨by omega, by omega⟩ dX5_endPart_15 rfl (v := (M T 2)) (rfl) ?_
  refine wp_iast (T + 2) rfl hT.k2 ⟨by omega, by omega⟩ ⟨by omega, by omega⟩ dX5_endPart_18 (jn := 0) rfl ?_
  refine wp_vret rfl dX5_endPart_19 ?_
  have f1 : Fr (VE2 T) M (mu M (T + 2) 0 (M T 2)) := Fr.rf.put rfl
  exact k _ (hD.frE hT f1) f1
set_option maxRecDepth 20000 in
set_option maxHeartbeats 4000000 in
theorem sp_endPart_1 {l : Launch} {g : Gw} {d n : Nat} {M : Mm} {Q : Option Wd → Mm → Prop} {T : Nat} (hT : isT T) (hn : 60 ≤ n) {f : Nat → Int} {z : Int} {x : Nat} {c : List Int} {o : Int} (hJ : RJ M f z T x c o) (k : ∀ M', RJ M' f z T x c o → M' (T + 2) 1 = (c.length : Int) → (∀ j, j ≠ 1 → M' (T + 2) j = M (T + 2) j) → Fr (VE2 T) M M' → Q none M') : Wp l g d 0 0 n m_X5_endPart 0 [] [(2, (T : Int)), (0, 1)] M Q := by
  have hR := hJ.1.1
  have hb := hT.b
  refine wp_iload_n dX5_endPart_0 rfl rfl ?_
  refine wp_if_lt (tgt := 19) dX5_endPart_1 (by decide) (fun h => absurd h (by decide)) (fun _ => ?_)
  refine wp_iload_n dX5_endPart_4 rfl rfl ?_
  refine wp_iconst dX5_endPart_5 (by decide) ?_
  refine wp_icmp_ge (tgt := 19) dX5_endPart_6 (by decide) (fun h => absurd h (by decide)) (fun _ => ?_)
  refine wp_aload_n dX5_endPart_9 rfl rfl ?_
  refine wp_get T rfl fl_RX5_15 hT.k0 ⟨by omega, by omega⟩ dX5_endPart_10 rfl (v := ((T + 2 : Nat) : Int)) (hT.q1 hR) ?_
  refine wp_iload_n dX5_endPart_13 rfl rfl ?_
  refine wp_aload_n dX5_endPart_14 rfl rfl ?_
  refine wp_get T rfl fl_RX5_21 hT.k0 ⟨by omega, by omega⟩ dX5_endPart_15 rfl (v := (M T 2)) (rfl) ?_
  refine wp_iast (T + 2) rfl hT.k2 ⟨by omega, by omega⟩ ⟨by omega, by omega⟩ dX5_endPart_18 (jn := 1) rfl ?_
  refine wp_vret rfl dX5_endPart_19 ?_
  have f1 : Fr (VE2 T) M (mu M (T + 2) 1 (M T 2)) := Fr.rf.put rfl
  exact k _ (hJ.frE hT f1) ((mu_self _ _ _ _).trans hJ.2.2.2.2.2.1) (fun j hj => mu_nj _ _ _ hj) f1
set_option maxRecDepth 20000 in
set_option maxHeartbeats 4000000 in
theorem sp_endPartD_1 {l : Launch} {g : Gw} {d n : Nat} {M : Mm} {Q : Option Wd → Mm → Prop} {T : Nat} (hT : isT T) (hn : 60 ≤ n) {f : Nat → Int} {z : Int} {p : Nat} {o : Int} (hD : DJ M f z T p o) (k : ∀ M', DJ M' f z T p o → Fr (VE2 T) M M' → Q none M') : Wp l g d 0 0 n m_X5_endPart 0 [] [(2, (T : Int)), (0, 1)] M Q := by
  have hR := hD.1.1
  have hb := hT.b
  refine wp_iload_n dX5_endPart_0 rfl rfl ?_
  refine wp_if_lt (tgt := 19) dX5_endPart_1 (by decide) (fun h => absurd h (by decide)) (fun _ => ?_)
  refine wp_iload_n dX5_endPart_4 rfl rfl ?_
  refine wp_iconst dX5_endPart_5 (by decide) ?_
  refine wp_icmp_ge (tgt := 19) dX5_endPart_6 (by decide) (fun h => absurd h (by decide)) (fun _ => ?_)
  refine wp_aload_n dX5_endPart_9 rfl rfl ?_
  refine wp_get T rfl fl_RX5_15 hT.k0 ⟨by omega, by omega⟩ dX5_endPart_10 rfl (v := ((T + 2 : Nat) : Int)) (hT.q1 hR) ?_
  refine wp_iload_n dX5_endPart_13 rfl rfl ?_
  refine wp_aload_n dX5_endPart_14 rfl rfl ?_
  refine wp_get T rfl fl_RX5_21 hT.k0 ⟨by omega, by omega⟩ dX5_endPart_15 rfl (v := (M T 2)) (rfl) ?_
  refine wp_iast (T + 2) rfl hT.k2 ⟨by omega, by omega⟩ ⟨by omega, by omega⟩ dX5_endPart_18 (jn := 1) rfl ?_
  refine wp_vret rfl dX5_endPart_19 ?_
  have f1 : Fr (VE2 T) M (mu M (T + 2) 1 (M T 2)) := Fr.rf.put rfl
  exact k _ (hD.frE hT f1) f1
set_option maxRecDepth 20000 in
set_option maxHeartbeats 4000000 in
theorem sp_endPart_2 {l : Launch} {g : Gw} {d n : Nat} {M : Mm} {Q : Option Wd → Mm → Prop} {T : Nat} (hT : isT T) (hn : 60 ≤ n) {f : Nat → Int} {z : Int} {x : Nat} {c : List Int} {o : Int} (hJ : RJ M f z T x c o) (k : ∀ M', RJ M' f z T x c o → M' (T + 2) 2 = (c.length : Int) → (∀ j, j ≠ 2 → M' (T + 2) j = M (T + 2) j) → Fr (VE2 T) M M' → Q none M') : Wp l g d 0 0 n m_X5_endPart 0 [] [(2, (T : Int)), (0, 2)] M Q := by
  have hR := hJ.1.1
  have hb := hT.b
  refine wp_iload_n dX5_endPart_0 rfl rfl ?_
  refine wp_if_lt (tgt := 19) dX5_endPart_1 (by decide) (fun h => absurd h (by decide)) (fun _ => ?_)
  refine wp_iload_n dX5_endPart_4 rfl rfl ?_
  refine wp_iconst dX5_endPart_5 (by decide) ?_
  refine wp_icmp_ge (tgt := 19) dX5_endPart_6 (by decide) (fun h => absurd h (by decide)) (fun _ => ?_)
  refine wp_aload_n dX5_endPart_9 rfl rfl ?_
  refine wp_get T rfl fl_RX5_15 hT.k0 ⟨by omega, by omega⟩ dX5_endPart_10 rfl (v := ((T + 2 : Nat) : Int)) (hT.q1 hR) ?_
  refine wp_iload_n dX5_endPart_13 rfl rfl ?_
  refine wp_aload_n dX5_endPart_14 rfl rfl ?_
  refine wp_get T rfl fl_RX5_21 hT.k0 ⟨by omega, by omega⟩ dX5_endPart_15 rfl (v := (M T 2)) (rfl) ?_
  refine wp_iast (T + 2) rfl hT.k2 ⟨by omega, by omega⟩ ⟨by omega, by omega⟩ dX5_endPart_18 (jn := 2) rfl ?_
  refine wp_vret rfl dX5_endPart_19 ?_
  have f1 : Fr (VE2 T) M (mu M (T + 2) 2 (M T 2)) := Fr.rf.put rfl
  exact k _ (hJ.frE hT f1) ((mu_self _ _ _ _).trans hJ.2.2.2.2.2.1) (fun j hj => mu_nj _ _ _ hj) f1
set_option maxRecDepth 20000 in
set_option maxHeartbeats 4000000 in
theorem sp_endPartD_2 {l : Launch} {g : Gw} {d n : Nat} {M : Mm} {Q : Option Wd → Mm → Prop} {T : Nat} (hT : isT T) (hn : 60 ≤ n) {f : Nat → Int} {z : Int} {p : Nat} {o : Int} (hD : DJ M f z T p o) (k : ∀ M', DJ M' f z T p o → Fr (VE2 T) M M' → Q none M') : Wp l g d 0 0 n m_X5_endPart 0 [] [(2, (T : Int)), (0, 2)] M Q := by
  have hR := hD.1.1
  have hb := hT.b
  refine wp_iload_n dX5_endPart_0 rfl rfl ?_
  refine wp_if_lt (tgt := 19) dX5_endPart_1 (by decide) (fun h => absurd h (by decide)) (fun _ => ?_)
  refine wp_iload_n dX5_endPart_4 rfl rfl ?_
  refine wp_iconst dX5_endPart_5 (by decide) ?_
  refine wp_icmp_ge (tgt := 19) dX5_endPart_6 (by decide) (fun h => absurd h (by decide)) (fun _ => ?_)
  refine wp_aload_n dX5_endPart_9 rfl rfl ?_
  refine wp_get T rfl fl_RX5_15 hT.k0 ⟨by omega, by omega⟩ dX5_endPart_10 rfl (v := ((T + 2 : Nat) : Int)) (hT.q1 hR) ?_
  refine wp_iload_n dX5_endPart_13 rfl rfl ?_
  refine wp_aload_n dX5_endPart_14 rfl rfl ?_
  refine wp_get T rfl fl_RX5_21 hT.k0 ⟨by omega, by omega⟩ dX5_endPart_15 rfl (v := (M T 2)) (rfl) ?_
  refine wp_iast (T + 2) rfl hT.k2 ⟨by omega, by omega⟩ ⟨by omega, by omega⟩ dX5_endPart_18 (jn := 2) rfl ?_
  refine wp_vret rfl dX5_endPart_19 ?_
  have f1 : Fr (VE2 T) M (mu M (T + 2) 2 (M T 2)) := Fr.rf.put rfl
  exact k _ (hD.frE hT f1) f1
