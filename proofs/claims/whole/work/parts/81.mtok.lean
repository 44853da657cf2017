/-! ===== the model's reader: a token; what it is ===== -/
def LXn (M : Mm) (f : Nat → Int) (z : Int) (x : Nat) : Prop := M 69 23 = (lxA f z x : Int) ∧ (M 69 22 ≠ 4 → M 69 21 = (lxN f z x : Int)) ∧ tokR f z x (M 69 22) (M 69 24)
theorem skp_all {P : Int → Bool} {f : Nat → Int} {z : Int} : ∀ (m x i : Nat), x ≤ i → i < skp P f z m x → P (ltA f z (i : Int)) = true
  | 0, x, i, h1, h2 => by
    have : i < x := h2
    omega
  | m + 1, x, i, h1, h2 => by
    by_cases c : P (ltA f z (x : Int)) = true
    · have e : skp P f z (m + 1) x = skp P f z m (x + 1) := if_pos c
      rw [e] at h2
      by_cases q : i = x
      · rw [q]; exact c
      · exact skp_all m (x + 1) i (by omega) h2
    · have e : skp P f z (m + 1) x = x := if_neg c
      rw [e] at h2
      omega
set_option maxRecDepth 20000 in
set_option maxHeartbeats 4000000 in
theorem sp_next {l : Launch} {g : Gw} {d n : Nat} {M : Mm} {Q : Option Wd → Mm → Prop} (hn : 90 ≤ n) (hd : 3 ≤ d) {t : Nat} {f : Nat → Int} {z : Int} (hB : BT f z) (hP : TPm M t f z) {x : Nat} (hx : M 69 21 = (x : Int)) (hx0 : (x : Int) ≤ z) (kk : ∀ M', Fr VM1 M M' → LXn M' f z x → Q none M') : Wp l g d 0 0 n m_X8_next 0 [] [(2, 69), (9, 0), (9, 0)] M Q := by
  obtain ⟨hR, h19, ht6, h20, hz0, hz1, h70⟩ := id hP
  refine lm_blank hn (by omega) 160 x M Q (by omega) hx0 hP hx (fun M1 f1 hx1 => ?_)
  have hP1 := hP.fr (f1.mono VM1.r)
  have hR1 := hP1.1
  have hxz : ((lxA f z x : Nat) : Int) ≤ z := (lxA_le (f := f) hx0).1
  replace hx1 : M1 69 21 = ((lxA f z x : Nat) : Int) := hx1
  refine wp_aload_n dX8_next_39 rfl rfl ?_
  refine wp_aload_n dX8_next_40 rfl rfl ?_
  refine wp_get 69 rfl fl_RX8_155 rfl ⟨by omega, by omega⟩ dX8_next_41 rfl (v := ((lxA f z x : Nat) : Int)) (hx1) ?_
  refine wp_puti 69 rfl fl_RX8_161 rfl ⟨by omega, by omega⟩ dX8_next_44 rfl rfl ?_
  refine wp_aload_n dX8_next_47 rfl rfl ?_
  refine wp_aload_n dX8_next_48 rfl rfl ?_
  refine wp_get 69 rfl fl_RX8_155 rfl ⟨by omega, by omega⟩ dX8_next_49 rfl (v := ((lxA f z x : Nat) : Int)) (hx1) ?_
  refine wp_callV0 (d' := d - 1) cv_RX8_158 69 rfl [(0, ((lxA f z x : Nat) : Int))] [] rfl rfl (Or.inl ⟨_, _, rfl, by decide, rfl, by omega, by omega⟩) (by omega) (Nat.le_of_ble_eq_true rfl) dX8_next_52 rfl (Nat.le_of_ble_eq_true rfl) (by omega) (loc1 := [(2, 69), (0, ((lxA f z x : Nat) : Int))]) rfl ?_
  refine sp_byteAt hn (hP1.fr ((show Fr VM1 M1 (mu M1 69 23 ((lxA f z x : Nat) : Int)) from ((Fr.rf : Fr VM1 M1 M1).put ⟨rfl, by omega, by omega⟩)).mono VM1.r)) (lxA f z x) (by omega) ?_
  have hc0 := ltA_r hB ((lxA f z x : Nat) : Int)
  refine wp_istore_n (loc' := [(2, 69), (0, (ltA f z ((lxA f z x : Nat) : Int))), (9, 0)]) dX8_next_55 rfl (Nat.le_of_ble_eq_true rfl) rfl ?_
  refine wp_aload_n dX8_next_56 rfl rfl ?_
  refine wp_iconst dX8_next_57 (by decide) ?_
  refine wp_puti 69 rfl fl_RX8_164 rfl ⟨by omega, by omega⟩ dX8_next_58 rfl rfl ?_
  refine wp_iload_n dX8_next_61 rfl rfl ?_
  refine wp_if_ge (tgt := 81) dX8_next_62 (by decide) (fun h62 => ?_) (fun h62 => ?_)
  · have hne : (ltA f z ((lxA f z x : Nat) : Int)) ≠ -1 := by omega
    refine wp_iload_n dX8_next_81 rfl rfl ?_
    refine wp_i2l dX8_next_82 ?_
    refine wp_ldc2 (x := 97) dX8_next_83 kl_RX8_167 (by decide) (wr_l (by omega)) ?_
    refine wp_ldc2 (x := 122) dX8_next_86 kl_RX8_169 (by decide) (wr_l (by omega)) ?_
    refine wp_callS0 (d' := d - 1) cs_RX8_91 [(1, (ltA f z ((lxA f z x : Nat) : Int))), (1, 97), (1, 122)] [] rfl rfl (Nat.le_of_ble_eq_true rfl) dX8_next_89 rfl (Nat.le_of_ble_eq_true rfl) (by omega) (loc1 := [(1, (ltA f z ((lxA f z x : Nat) : Int))), (9, 0), (1, 97), (9, 0), (1, 122), (9, 0)]) rfl ?_
    refine sp_in (ltA f z ((lxA f z x : Nat) : Int)) 97 122 (fun hL => ?_) (fun hL => ?_)
    · refine wp_if_eq (tgt := 134) dX8_next_92 (by decide) (fun h => absurd h (by decide)) (fun _ => ?_)
      refine wp_aload_n dX8_next_95 rfl rfl ?_
      refine wp_iconst dX8_next_96 (by decide) ?_
      refine wp_puti 69 rfl fl_RX8_164 rfl ⟨by omega, by omega⟩ dX8_next_97 rfl rfl ?_
      have f2 : Fr VM1 M1 (mu (mu (mu M1 69 23 ((lxA f z x : Nat) : Int)) 69 22 4) 69 22 1) := ((((Fr.rf : Fr VM1 M1 M1).put ⟨rfl, by omega, by omega⟩).put ⟨rfl, by omega, by omega⟩).put ⟨rfl, by omega, by omega⟩)
      have hb : ltr (ltA f z ((lxA f z x : Nat) : Int)) = true := decide_eq_true hL
      refine lm_ltr hn (by omega) 160 (lxA f z x) _ Q (by omega) hxz (hP1.fr (f2.mono VM1.r)) (show _ from hx1) (fun M3 f3 a3 => kk M3 (f1.tr (f2.tr (f3.mono VM21.q))) ⟨(f3 69 23 (by unfold VM21; omega)).trans rfl, fun _ => a3.trans (by unfold lxN; rw [if_neg hne, if_pos hb]), Or.inr (Or.inl ⟨(f3 69 22 (by unfold VM21; omega)).trans rfl, hne, hb⟩)⟩)
    · refine wp_if_eq (tgt := 134) dX8_next_92 (by decide) (fun _ => ?_) (fun h => absurd h (by decide))
      refine wp_iload_n dX8_next_134 rfl rfl ?_
      refine wp_i2l dX8_next_135 ?_
      refine wp_ldc2 (x := 48) dX8_next_136 kl_RX8_171 (by decide) (wr_l (by omega)) ?_
      refine wp_ldc2 (x := 57) dX8_next_139 kl_RX8_173 (by decide) (wr_l (by omega)) ?_
      refine wp_callS0 (d' := d - 1) cs_RX8_91 [(1, (ltA f z ((lxA f z x : Nat) : Int))), (1, 48), (1, 57)] [] rfl rfl (Nat.le_of_ble_eq_true rfl) dX8_next_142 rfl (Nat.le_of_ble_eq_true rfl) (by omega) (loc1 := [(1, (ltA f z ((lxA f z x : Nat) : Int))), (9, 0), (1, 48), (9, 0), (1, 57), (9, 0)]) rfl ?_
      refine sp_in (ltA f z ((lxA f z x : Nat) : Int)) 48 57 (fun hD => ?_) (fun hD => ?_)
      · refine wp_if_eq (tgt := 252) dX8_next_145 (by decide) (fun h => absurd h (by decide)) (fun _ => ?_)
        refine wp_aload_n dX8_next_148 rfl rfl ?_
        refine wp_iconst dX8_next_149 (by decide) ?_
        refine wp_puti 69 rfl fl_RX8_164 rfl ⟨by omega, by omega⟩ dX8_next_150 rfl rfl ?_
        refine wp_aload_n dX8_next_153 rfl rfl ?_
        refine wp_lconst (v := 0) dX8_next_154 (by decide) (by decide) ?_
        refine wp_putl 69 rfl fl_RX8_175 rfl ⟨by omega, by omega⟩ dX8_next_155 rfl rfl (by omega) ?_
        refine wp_iconst dX8_next_158 (by decide) ?_
        refine wp_istore_n (loc' := [(2, 69), (0, (ltA f z ((lxA f z x : Nat) : Int))), (0, 0)]) dX8_next_159 rfl (Nat.le_of_ble_eq_true rfl) rfl ?_
        have f2 : Fr VM1 M1 (mu (mu (mu (mu M1 69 23 ((lxA f z x : Nat) : Int)) 69 22 4) 69 22 2) 69 24 0) := (((((Fr.rf : Fr VM1 M1 M1).put ⟨rfl, by omega, by omega⟩).put ⟨rfl, by omega, by omega⟩).put ⟨rfl, by omega, by omega⟩).put ⟨rfl, by omega, by omega⟩)
        have hb : dgt (ltA f z ((lxA f z x : Nat) : Int)) = true := decide_eq_true hD
        have hL1 : ¬ ltr (ltA f z ((lxA f z x : Nat) : Int)) = true := by rw [show ltr (ltA f z ((lxA f z x : Nat) : Int)) = false from decide_eq_false hL]; decide
        refine lm_num hn (by omega) 160 (lxA f z x) 0 0 0 _ Q (by omega) hxz (by omega) (hP1.fr (f2.mono VM1.r)) (show _ from hx1) rfl ⟨by omega, by omega, fun _ => ⟨rfl, by decide⟩⟩ (fun M3 w f3 a21 a24 hI => ?_)
        have t22 : M3 69 22 = 2 := (f3 69 22 (by unfold VM24; omega)).trans rfl
        have t23 : M3 69 23 = ((lxA f z x : Nat) : Int) := (f3 69 23 (by unfold VM24; omega)).trans rfl
        have F3 := f1.tr (f2.tr (f3.mono VM24.q))
        have hR3 := VMr.sr (F3.mono VM1.r) hR
        rw [Nat.zero_add] at hI ⊢
        have hle := nmr_le (f := f) 160 (lxA f z x) 0 hxz
        refine wp_aload_n dX8_next_235 rfl rfl ?_
        refine wp_iload_n dX8_next_236 rfl rfl ?_
        refine wp_iconst dX8_next_237 (by decide) ?_
        refine wp_icmp_le (tgt := 245) dX8_next_238 (by decide) (fun h238 => ?_) (fun h238 => ?_)
        · refine wp_iconst dX8_next_245 (by decide) ?_
          refine wp_puti 69 rfl fl_RX8_164 rfl ⟨by omega, by omega⟩ dX8_next_246 rfl rfl ?_
          refine wp_goto (tgt := 321) dX8_next_249 (by decide) ?_
          refine wp_vret rfl dX8_next_321 ?_
          refine kk _ (F3.put ⟨rfl, by omega, by omega⟩) ⟨t23, fun _ => a21.trans (by unfold lxN; rw [if_neg hne, if_neg hL1, if_pos hb]), ?_⟩
          refine Or.inr (Or.inr (Or.inl ⟨rfl, ?_, a24.trans (hI.2.2 (by omega)).1⟩))
          unfold lxT
          rw [if_neg hne, if_neg hL1, if_pos hb, if_neg (by omega)]
        · refine wp_iconst dX8_next_241 (by decide) ?_
          refine wp_goto (tgt := 246) dX8_next_242 (by decide) ?_
          refine wp_puti 69 rfl fl_RX8_164 rfl ⟨by omega, by omega⟩ dX8_next_246 rfl rfl ?_
          refine wp_goto (tgt := 321) dX8_next_249 (by decide) ?_
          refine wp_vret rfl dX8_next_321 ?_
          refine kk _ (F3.put ⟨rfl, by omega, by omega⟩) ⟨t23, fun _ => a21.trans (by unfold lxN; rw [if_neg hne, if_neg hL1, if_pos hb]), ?_⟩
          refine Or.inr (Or.inr (Or.inr (Or.inr ⟨rfl, ?_⟩)))
          unfold lxT
          rw [if_neg hne, if_neg hL1, if_pos hb, if_pos (by omega)]
      · refine wp_if_eq (tgt := 252) dX8_next_145 (by decide) (fun _ => ?_) (fun h => absurd h (by decide))
        refine wp_iload_n dX8_next_252 rfl rfl ?_
        refine wp_bipush dX8_next_253 (by decide) (by decide) ?_
        refine wp_icmp_eq (tgt := 300) dX8_next_255 (by decide) (fun h255 => ?_) (fun h255 => ?_)
        · refine wp_aload_n dX8_next_300 rfl rfl ?_
          refine wp_iconst dX8_next_301 (by decide) ?_
          refine wp_puti 69 rfl fl_RX8_164 rfl ⟨by omega, by omega⟩ dX8_next_302 rfl rfl ?_
          refine wp_aload_n dX8_next_305 rfl rfl ?_
          refine wp_iload_n dX8_next_306 rfl rfl ?_
          refine wp_i2l dX8_next_307 ?_
          refine wp_putl 69 rfl fl_RX8_175 rfl ⟨by omega, by omega⟩ dX8_next_308 rfl rfl (by omega) ?_
          refine wp_aload_n dX8_next_311 rfl rfl ?_
          refine wp_dup dX8_next_312 (Or.inr rfl) ?_
          refine wp_get 69 rfl fl_RX8_155 rfl ⟨by omega, by omega⟩ dX8_next_313 rfl (v := ((lxA f z x : Nat) : Int)) (hx1) ?_
          refine wp_iconst dX8_next_316 (by decide) ?_
          refine wp_iadd dX8_next_317 (by omega) ?_
          refine wp_puti 69 rfl fl_RX8_155 rfl ⟨by omega, by omega⟩ dX8_next_318 rfl rfl ?_
          refine wp_vret rfl dX8_next_321 ?_
          have f2 : Fr VM1 M1 (mu (mu (mu (mu (mu M1 69 23 ((lxA f z x : Nat) : Int)) 69 22 4) 69 22 3) 69 24 (ltA f z ((lxA f z x : Nat) : Int))) 69 21 (((lxA f z x : Nat) : Int) + 1)) := ((((((Fr.rf : Fr VM1 M1 M1).put ⟨rfl, by omega, by omega⟩).put ⟨rfl, by omega, by omega⟩).put ⟨rfl, by omega, by omega⟩).put ⟨rfl, by omega, by omega⟩).put ⟨rfl, by omega, by omega⟩)
          have hL1 : ¬ ltr (ltA f z ((lxA f z x : Nat) : Int)) = true := by rw [show ltr (ltA f z ((lxA f z x : Nat) : Int)) = false from decide_eq_false hL]; decide
          have hD1 : ¬ dgt (ltA f z ((lxA f z x : Nat) : Int)) = true := by rw [show dgt (ltA f z ((lxA f z x : Nat) : Int)) = false from decide_eq_false hD]; decide
          have hG : sgnC (ltA f z ((lxA f z x : Nat) : Int)) = true := decide_eq_true (by omega)
          have eT : lxT f z x = (ltA f z ((lxA f z x : Nat) : Int)) := by unfold lxT; rw [if_neg hne, if_neg hL1, if_neg hD1, if_pos hG]
          refine kk _ (f1.tr f2) ⟨rfl, fun _ => ?_, Or.inr (Or.inr (Or.inr (Or.inl ⟨rfl, eT.symm, by rw [eT]; exact hG⟩)))⟩
          show ((lxA f z x : Nat) : Int) + 1 = _
          unfold lxN
          rw [if_neg hne, if_neg hL1, if_neg hD1]
          omega
        · refine wp_iload_n dX8_next_258 rfl rfl ?_
          refine wp_bipush dX8_next_259 (by decide) (by decide) ?_
          refine wp_icmp_eq (tgt := 300) dX8_next_261 (by decide) (fun h261 => ?_) (fun h261 => ?_)
          · refine wp_aload_n dX8_next_300 rfl rfl ?_
            refine wp_iconst dX8_next_301 (by decide) ?_
            refine wp_puti 69 rfl fl_RX8_164 rfl ⟨by omega, by omega⟩ dX8_next_302 rfl rfl ?_
            refine wp_aload_n dX8_next_305 rfl rfl ?_
            refine wp_iload_n dX8_next_306 rfl rfl ?_
            refine wp_i2l dX8_next_307 ?_
            refine wp_putl 69 rfl fl_RX8_175 rfl ⟨by omega, by omega⟩ dX8_next_308 rfl rfl (by omega) ?_
            refine wp_aload_n dX8_next_311 rfl rfl ?_
            refine wp_dup dX8_next_312 (Or.inr rfl) ?_
            refine wp_get 69 rfl fl_RX8_155 rfl ⟨by omega, by omega⟩ dX8_next_313 rfl (v := ((lxA f z x : Nat) : Int)) (hx1) ?_
            refine wp_iconst dX8_next_316 (by decide) ?_
            refine wp_iadd dX8_next_317 (by omega) ?_
            refine wp_puti 69 rfl fl_RX8_155 rfl ⟨by omega, by omega⟩ dX8_next_318 rfl rfl ?_
            refine wp_vret rfl dX8_next_321 ?_
            have f2 : Fr VM1 M1 (mu (mu (mu (mu (mu M1 69 23 ((lxA f z x : Nat) : Int)) 69 22 4) 69 22 3) 69 24 (ltA f z ((lxA f z x : Nat) : Int))) 69 21 (((lxA f z x : Nat) : Int) + 1)) := ((((((Fr.rf : Fr VM1 M1 M1).put ⟨rfl, by omega, by omega⟩).put ⟨rfl, by omega, by omega⟩).put ⟨rfl, by omega, by omega⟩).put ⟨rfl, by omega, by omega⟩).put ⟨rfl, by omega, by omega⟩)
            have hL1 : ¬ ltr (ltA f z ((lxA f z x : Nat) : Int)) = true := by rw [show ltr (ltA f z ((lxA f z x : Nat) : Int)) = false from decide_eq_false hL]; decide
            have hD1 : ¬ dgt (ltA f z ((lxA f z x : Nat) : Int)) = true := by rw [show dgt (ltA f z ((lxA f z x : Nat) : Int)) = false from decide_eq_false hD]; decide
            have hG : sgnC (ltA f z ((lxA f z x : Nat) : Int)) = true := decide_eq_true (by omega)
            have eT : lxT f z x = (ltA f z ((lxA f z x : Nat) : Int)) := by unfold lxT; rw [if_neg hne, if_neg hL1, if_neg hD1, if_pos hG]
            refine kk _ (f1.tr f2) ⟨rfl, fun _ => ?_, Or.inr (Or.inr (Or.inr (Or.inl ⟨rfl, eT.symm, by rw [eT]; exact hG⟩)))⟩
            show ((lxA f z x : Nat) : Int) + 1 = _
            unfold lxN
            rw [if_neg hne, if_neg hL1, if_neg hD1]
            omega
          · refine wp_iload_n dX8_next_264 rfl rfl ?_
            refine wp_bipush dX8_next_265 (by decide) (by decide) ?_
            refine wp_icmp_eq (tgt := 300) dX8_next_267 (by decide) (fun h267 => ?_) (fun h267 => ?_)
            · refine wp_aload_n dX8_next_300 rfl rfl ?_
              refine wp_iconst dX8_next_301 (by decide) ?_
              refine wp_puti 69 rfl fl_RX8_164 rfl ⟨by omega, by omega⟩ dX8_next_302 rfl rfl ?_
              refine wp_aload_n dX8_next_305 rfl rfl ?_
              refine wp_iload_n dX8_next_306 rfl rfl ?_
              refine wp_i2l dX8_next_307 ?_
              refine wp_putl 69 rfl fl_RX8_175 rfl ⟨by omega, by omega⟩ dX8_next_308 rfl rfl (by omega) ?_
              refine wp_aload_n dX8_next_311 rfl rfl ?_
              refine wp_dup dX8_next_312 (Or.inr rfl) ?_
              refine wp_get 69 rfl fl_RX8_155 rfl ⟨by omega, by omega⟩ dX8_next_313 rfl (v := ((lxA f z x : Nat) : Int)) (hx1) ?_
              refine wp_iconst dX8_next_316 (by decide) ?_
              refine wp_iadd dX8_next_317 (by omega) ?_
              refine wp_puti 69 rfl fl_RX8_155 rfl ⟨by omega, by omega⟩ dX8_next_318 rfl rfl ?_
              refine wp_vret rfl dX8_next_321 ?_
              have f2 : Fr VM1 M1 (mu (mu (mu (mu (mu M1 69 23 ((lxA f z x : Nat) : Int)) 69 22 4) 69 22 3) 69 24 (ltA f z ((lxA f z x : Nat) : Int))) 69 21 (((lxA f z x : Nat) : Int) + 1)) := ((((((Fr.rf : Fr VM1 M1 M1).put ⟨rfl, by omega, by omega⟩).put ⟨rfl, by omega, by omega⟩).put ⟨rfl, by omega, by omega⟩).put ⟨rfl, by omega, by omega⟩).put ⟨rfl, by omega, by omega⟩)
              have hL1 : ¬ ltr (ltA f z ((lxA f z x : Nat) : Int)) = true := by rw [show ltr (ltA f z ((lxA f z x : Nat) : Int)) = false from decide_eq_false hL]; decide
              have hD1 : ¬ dgt (ltA f z ((lxA f z x : Nat) : Int)) = true := by rw [show dgt (ltA f z ((lxA f z x : Nat) : Int)) = false from decide_eq_false hD]; decide
              have hG : sgnC (ltA f z ((lxA f z x : Nat) : Int)) = true := decide_eq_true (by omega)
              have eT : lxT f z x = (ltA f z ((lxA f z x : Nat) : Int)) := by unfold lxT; rw [if_neg hne, if_neg hL1, if_neg hD1, if_pos hG]
              refine kk _ (f1.tr f2) ⟨rfl, fun _ => ?_, Or.inr (Or.inr (Or.inr (Or.inl ⟨rfl, eT.symm, by rw [eT]; exact hG⟩)))⟩
              show ((lxA f z x : Nat) : Int) + 1 = _
              unfold lxN
              rw [if_neg hne, if_neg hL1, if_neg hD1]
              omega
            · refine wp_iload_n dX8_next_270 rfl rfl ?_
              refine wp_bipush dX8_next_271 (by decide) (by decide) ?_
              refine wp_icmp_eq (tgt := 300) dX8_next_273 (by decide) (fun h273 => ?_) (fun h273 => ?_)
              · refine wp_aload_n dX8_next_300 rfl rfl ?_
                refine wp_iconst dX8_next_301 (by decide) ?_
                refine wp_puti 69 rfl fl_RX8_164 rfl ⟨by omega, by omega⟩ dX8_next_302 rfl rfl ?_
                refine wp_aload_n dX8_next_305 rfl rfl ?_
                refine wp_iload_n dX8_next_306 rfl rfl ?_
                refine wp_i2l dX8_next_307 ?_
                refine wp_putl 69 rfl fl_RX8_175 rfl ⟨by omega, by omega⟩ dX8_next_308 rfl rfl (by omega) ?_
                refine wp_aload_n dX8_next_311 rfl rfl ?_
                refine wp_dup dX8_next_312 (Or.inr rfl) ?_
                refine wp_get 69 rfl fl_RX8_155 rfl ⟨by omega, by omega⟩ dX8_next_313 rfl (v := ((lxA f z x : Nat) : Int)) (hx1) ?_
                refine wp_iconst dX8_next_316 (by decide) ?_
                refine wp_iadd dX8_next_317 (by omega) ?_
                refine wp_puti 69 rfl fl_RX8_155 rfl ⟨by omega, by omega⟩ dX8_next_318 rfl rfl ?_
                refine wp_vret rfl dX8_next_321 ?_
                have f2 : Fr VM1 M1 (mu (mu (mu (mu (mu M1 69 23 ((lxA f z x : Nat) : Int)) 69 22 4) 69 22 3) 69 24 (ltA f z ((lxA f z x : Nat) : Int))) 69 21 (((lxA f z x : Nat) : Int) + 1)) := ((((((Fr.rf : Fr VM1 M1 M1).put ⟨rfl, by omega, by omega⟩).put ⟨rfl, by omega, by omega⟩).put ⟨rfl, by omega, by omega⟩).put ⟨rfl, by omega, by omega⟩).put ⟨rfl, by omega, by omega⟩)
                have hL1 : ¬ ltr (ltA f z ((lxA f z x : Nat) : Int)) = true := by rw [show ltr (ltA f z ((lxA f z x : Nat) : Int)) = false from decide_eq_false hL]; decide
                have hD1 : ¬ dgt (ltA f z ((lxA f z x : Nat) : Int)) = true := by rw [show dgt (ltA f z ((lxA f z x : Nat) : Int)) = false from decide_eq_false hD]; decide
                have hG : sgnC (ltA f z ((lxA f z x : Nat) : Int)) = true := decide_eq_true (by omega)
                have eT : lxT f z x = (ltA f z ((lxA f z x : Nat) : Int)) := by unfold lxT; rw [if_neg hne, if_neg hL1, if_neg hD1, if_pos hG]
                refine kk _ (f1.tr f2) ⟨rfl, fun _ => ?_, Or.inr (Or.inr (Or.inr (Or.inl ⟨rfl, eT.symm, by rw [eT]; exact hG⟩)))⟩
                show ((lxA f z x : Nat) : Int) + 1 = _
                unfold lxN
                rw [if_neg hne, if_neg hL1, if_neg hD1]
                omega
              · refine wp_iload_n dX8_next_276 rfl rfl ?_
                refine wp_bipush dX8_next_277 (by decide) (by decide) ?_
                refine wp_icmp_eq (tgt := 300) dX8_next_279 (by decide) (fun h279 => ?_) (fun h279 => ?_)
                · refine wp_aload_n dX8_next_300 rfl rfl ?_
                  refine wp_iconst dX8_next_301 (by decide) ?_
                  refine wp_puti 69 rfl fl_RX8_164 rfl ⟨by omega, by omega⟩ dX8_next_302 rfl rfl ?_
                  refine wp_aload_n dX8_next_305 rfl rfl ?_
                  refine wp_iload_n dX8_next_306 rfl rfl ?_
                  refine wp_i2l dX8_next_307 ?_
                  refine wp_putl 69 rfl fl_RX8_175 rfl ⟨by omega, by omega⟩ dX8_next_308 rfl rfl (by omega) ?_
                  refine wp_aload_n dX8_next_311 rfl rfl ?_
                  refine wp_dup dX8_next_312 (Or.inr rfl) ?_
                  refine wp_get 69 rfl fl_RX8_155 rfl ⟨by omega, by omega⟩ dX8_next_313 rfl (v := ((lxA f z x : Nat) : Int)) (hx1) ?_
                  refine wp_iconst dX8_next_316 (by decide) ?_
                  refine wp_iadd dX8_next_317 (by omega) ?_
                  refine wp_puti 69 rfl fl_RX8_155 rfl ⟨by omega, by omega⟩ dX8_next_318 rfl rfl ?_
                  refine wp_vret rfl dX8_next_321 ?_
                  have f2 : Fr VM1 M1 (mu (mu (mu (mu (mu M1 69 23 ((lxA f z x : Nat) : Int)) 69 22 4) 69 22 3) 69 24 (ltA f z ((lxA f z x : Nat) : Int))) 69 21 (((lxA f z x : Nat) : Int) + 1)) := ((((((Fr.rf : Fr VM1 M1 M1).put ⟨rfl, by omega, by omega⟩).put ⟨rfl, by omega, by omega⟩).put ⟨rfl, by omega, by omega⟩).put ⟨rfl, by omega, by omega⟩).put ⟨rfl, by omega, by omega⟩)
                  have hL1 : ¬ ltr (ltA f z ((lxA f z x : Nat) : Int)) = true := by rw [show ltr (ltA f z ((lxA f z x : Nat) : Int)) = false from decide_eq_false hL]; decide
                  have hD1 : ¬ dgt (ltA f z ((lxA f z x : Nat) : Int)) = true := by rw [show dgt (ltA f z ((lxA f z x : Nat) : Int)) = false from decide_eq_false hD]; decide
                  have hG : sgnC (ltA f z ((lxA f z x : Nat) : Int)) = true := decide_eq_true (by omega)
                  have eT : lxT f z x = (ltA f z ((lxA f z x : Nat) : Int)) := by unfold lxT; rw [if_neg hne, if_neg hL1, if_neg hD1, if_pos hG]
                  refine kk _ (f1.tr f2) ⟨rfl, fun _ => ?_, Or.inr (Or.inr (Or.inr (Or.inl ⟨rfl, eT.symm, by rw [eT]; exact hG⟩)))⟩
                  show ((lxA f z x : Nat) : Int) + 1 = _
                  unfold lxN
                  rw [if_neg hne, if_neg hL1, if_neg hD1]
                  omega
                · refine wp_iload_n dX8_next_282 rfl rfl ?_
                  refine wp_bipush dX8_next_283 (by decide) (by decide) ?_
                  refine wp_icmp_eq (tgt := 300) dX8_next_285 (by decide) (fun h285 => ?_) (fun h285 => ?_)
                  · refine wp_aload_n dX8_next_300 rfl rfl ?_
                    refine wp_iconst dX8_next_301 (by decide) ?_
                    refine wp_puti 69 rfl fl_RX8_164 rfl ⟨by omega, by omega⟩ dX8_next_302 rfl rfl ?_
                    refine wp_aload_n dX8_next_305 rfl rfl ?_
                    refine wp_iload_n dX8_next_306 rfl rfl ?_
                    refine wp_i2l dX8_next_307 ?_
                    refine wp_putl 69 rfl fl_RX8_175 rfl ⟨by omega, by omega⟩ dX8_next_308 rfl rfl (by omega) ?_
                    refine wp_aload_n dX8_next_311 rfl rfl ?_
                    refine wp_dup dX8_next_312 (Or.inr rfl) ?_
                    refine wp_get 69 rfl fl_RX8_155 rfl ⟨by omega, by omega⟩ dX8_next_313 rfl (v := ((lxA f z x : Nat) : Int)) (hx1) ?_
                    refine wp_iconst dX8_next_316 (by decide) ?_
                    refine wp_iadd dX8_next_317 (by omega) ?_
                    refine wp_puti 69 rfl fl_RX8_155 rfl ⟨by omega, by omega⟩ dX8_next_318 rfl rfl ?_
                    refine wp_vret rfl dX8_next_321 ?_
                    have f2 : Fr VM1 M1 (mu (mu (mu (mu (mu M1 69 23 ((lxA f z x : Nat) : Int)) 69 22 4) 69 22 3) 69 24 (ltA f z ((lxA f z x : Nat) : Int))) 69 21 (((lxA f z x : Nat) : Int) + 1)) := ((((((Fr.rf : Fr VM1 M1 M1).put ⟨rfl, by omega, by omega⟩).put ⟨rfl, by omega, by omega⟩).put ⟨rfl, by omega, by omega⟩).put ⟨rfl, by omega, by omega⟩).put ⟨rfl, by omega, by omega⟩)
                    have hL1 : ¬ ltr (ltA f z ((lxA f z x : Nat) : Int)) = true := by rw [show ltr (ltA f z ((lxA f z x : Nat) : Int)) = false from decide_eq_false hL]; decide
                    have hD1 : ¬ dgt (ltA f z ((lxA f z x : Nat) : Int)) = true := by rw [show dgt (ltA f z ((lxA f z x : Nat) : Int)) = false from decide_eq_false hD]; decide
                    have hG : sgnC (ltA f z ((lxA f z x : Nat) : Int)) = true := decide_eq_true (by omega)
                    have eT : lxT f z x = (ltA f z ((lxA f z x : Nat) : Int)) := by unfold lxT; rw [if_neg hne, if_neg hL1, if_neg hD1, if_pos hG]
                    refine kk _ (f1.tr f2) ⟨rfl, fun _ => ?_, Or.inr (Or.inr (Or.inr (Or.inl ⟨rfl, eT.symm, by rw [eT]; exact hG⟩)))⟩
                    show ((lxA f z x : Nat) : Int) + 1 = _
                    unfold lxN
                    rw [if_neg hne, if_neg hL1, if_neg hD1]
                    omega
                  · refine wp_iload_n dX8_next_288 rfl rfl ?_
                    refine wp_bipush dX8_next_289 (by decide) (by decide) ?_
                    refine wp_icmp_eq (tgt := 300) dX8_next_291 (by decide) (fun h291 => ?_) (fun h291 => ?_)
                    · refine wp_aload_n dX8_next_300 rfl rfl ?_
                      refine wp_iconst dX8_next_301 (by decide) ?_
                      refine wp_puti 69 rfl fl_RX8_164 rfl ⟨by omega, by omega⟩ dX8_next_302 rfl rfl ?_
                      refine wp_aload_n dX8_next_305 rfl rfl ?_
                      refine wp_iload_n dX8_next_306 rfl rfl ?_
                      refine wp_i2l dX8_next_307 ?_
                      refine wp_putl 69 rfl fl_RX8_175 rfl ⟨by omega, by omega⟩ dX8_next_308 rfl rfl (by omega) ?_
                      refine wp_aload_n dX8_next_311 rfl rfl ?_
                      refine wp_dup dX8_next_312 (Or.inr rfl) ?_
                      refine wp_get 69 rfl fl_RX8_155 rfl ⟨by omega, by omega⟩ dX8_next_313 rfl (v := ((lxA f z x : Nat) : Int)) (hx1) ?_
                      refine wp_iconst dX8_next_316 (by decide) ?_
                      refine wp_iadd dX8_next_317 (by omega) ?_
                      refine wp_puti 69 rfl fl_RX8_155 rfl ⟨by omega, by omega⟩ dX8_next_318 rfl rfl ?_
                      refine wp_vret rfl dX8_next_321 ?_
                      have f2 : Fr VM1 M1 (mu (mu (mu (mu (mu M1 69 23 ((lxA f z x : Nat) : Int)) 69 22 4) 69 22 3) 69 24 (ltA f z ((lxA f z x : Nat) : Int))) 69 21 (((lxA f z x : Nat) : Int) + 1)) := ((((((Fr.rf : Fr VM1 M1 M1).put ⟨rfl, by omega, by omega⟩).put ⟨rfl, by omega, by omega⟩).put ⟨rfl, by omega, by omega⟩).put ⟨rfl, by omega, by omega⟩).put ⟨rfl, by omega, by omega⟩)
                      have hL1 : ¬ ltr (ltA f z ((lxA f z x : Nat) : Int)) = true := by rw [show ltr (ltA f z ((lxA f z x : Nat) : Int)) = false from decide_eq_false hL]; decide
                      have hD1 : ¬ dgt (ltA f z ((lxA f z x : Nat) : Int)) = true := by rw [show dgt (ltA f z ((lxA f z x : Nat) : Int)) = false from decide_eq_false hD]; decide
                      have hG : sgnC (ltA f z ((lxA f z x : Nat) : Int)) = true := decide_eq_true (by omega)
                      have eT : lxT f z x = (ltA f z ((lxA f z x : Nat) : Int)) := by unfold lxT; rw [if_neg hne, if_neg hL1, if_neg hD1, if_pos hG]
                      refine kk _ (f1.tr f2) ⟨rfl, fun _ => ?_, Or.inr (Or.inr (Or.inr (Or.inl ⟨rfl, eT.symm, by rw [eT]; exact hG⟩)))⟩
                      show ((lxA f z x : Nat) : Int) + 1 = _
                      unfold lxN
                      rw [if_neg hne, if_neg hL1, if_neg hD1]
                      omega
                    · refine wp_iload_n dX8_next_294 rfl rfl ?_
                      refine wp_bipush dX8_next_295 (by decide) (by decide) ?_
                      refine wp_icmp_ne (tgt := 321) dX8_next_297 (by decide) (fun h297 => ?_) (fun h297 => ?_)
                      · refine wp_vret rfl dX8_next_321 ?_
                        have f2 : Fr VM1 M1 (mu (mu M1 69 23 ((lxA f z x : Nat) : Int)) 69 22 4) := (((Fr.rf : Fr VM1 M1 M1).put ⟨rfl, by omega, by omega⟩).put ⟨rfl, by omega, by omega⟩)
                        have hL1 : ¬ ltr (ltA f z ((lxA f z x : Nat) : Int)) = true := by rw [show ltr (ltA f z ((lxA f z x : Nat) : Int)) = false from decide_eq_false hL]; decide
                        have hD1 : ¬ dgt (ltA f z ((lxA f z x : Nat) : Int)) = true := by rw [show dgt (ltA f z ((lxA f z x : Nat) : Int)) = false from decide_eq_false hD]; decide
                        have hG : ¬ sgnC (ltA f z ((lxA f z x : Nat) : Int)) = true := by rw [show sgnC (ltA f z ((lxA f z x : Nat) : Int)) = false from decide_eq_false (by omega)]; decide
                        exact kk _ (f1.tr f2) ⟨rfl, fun h => absurd rfl h, Or.inr (Or.inr (Or.inr (Or.inr ⟨rfl, by unfold lxT; rw [if_neg hne, if_neg hL1, if_neg hD1, if_neg hG]⟩)))⟩
                      · refine wp_aload_n dX8_next_300 rfl rfl ?_
                        refine wp_iconst dX8_next_301 (by decide) ?_
                        refine wp_puti 69 rfl fl_RX8_164 rfl ⟨by omega, by omega⟩ dX8_next_302 rfl rfl ?_
                        refine wp_aload_n dX8_next_305 rfl rfl ?_
                        refine wp_iload_n dX8_next_306 rfl rfl ?_
                        refine wp_i2l dX8_next_307 ?_
                        refine wp_putl 69 rfl fl_RX8_175 rfl ⟨by omega, by omega⟩ dX8_next_308 rfl rfl (by omega) ?_
                        refine wp_aload_n dX8_next_311 rfl rfl ?_
                        refine wp_dup dX8_next_312 (Or.inr rfl) ?_
                        refine wp_get 69 rfl fl_RX8_155 rfl ⟨by omega, by omega⟩ dX8_next_313 rfl (v := ((lxA f z x : Nat) : Int)) (hx1) ?_
                        refine wp_iconst dX8_next_316 (by decide) ?_
                        refine wp_iadd dX8_next_317 (by omega) ?_
                        refine wp_puti 69 rfl fl_RX8_155 rfl ⟨by omega, by omega⟩ dX8_next_318 rfl rfl ?_
                        refine wp_vret rfl dX8_next_321 ?_
                        have f2 : Fr VM1 M1 (mu (mu (mu (mu (mu M1 69 23 ((lxA f z x : Nat) : Int)) 69 22 4) 69 22 3) 69 24 (ltA f z ((lxA f z x : Nat) : Int))) 69 21 (((lxA f z x : Nat) : Int) + 1)) := ((((((Fr.rf : Fr VM1 M1 M1).put ⟨rfl, by omega, by omega⟩).put ⟨rfl, by omega, by omega⟩).put ⟨rfl, by omega, by omega⟩).put ⟨rfl, by omega, by omega⟩).put ⟨rfl, by omega, by omega⟩)
                        have hL1 : ¬ ltr (ltA f z ((lxA f z x : Nat) : Int)) = true := by rw [show ltr (ltA f z ((lxA f z x : Nat) : Int)) = false from decide_eq_false hL]; decide
                        have hD1 : ¬ dgt (ltA f z ((lxA f z x : Nat) : Int)) = true := by rw [show dgt (ltA f z ((lxA f z x : Nat) : Int)) = false from decide_eq_false hD]; decide
                        have hG : sgnC (ltA f z ((lxA f z x : Nat) : Int)) = true := decide_eq_true (by omega)
                        have eT : lxT f z x = (ltA f z ((lxA f z x : Nat) : Int)) := by unfold lxT; rw [if_neg hne, if_neg hL1, if_neg hD1, if_pos hG]
                        refine kk _ (f1.tr f2) ⟨rfl, fun _ => ?_, Or.inr (Or.inr (Or.inr (Or.inl ⟨rfl, eT.symm, by rw [eT]; exact hG⟩)))⟩
                        show ((lxA f z x : Nat) : Int) + 1 = _
                        unfold lxN
                        rw [if_neg hne, if_neg hL1, if_neg hD1]
                        omega
  · refine wp_aload_n dX8_next_65 rfl rfl ?_
    refine wp_iconst dX8_next_66 (by decide) ?_
    refine wp_puti 69 rfl fl_RX8_164 rfl ⟨by omega, by omega⟩ dX8_next_67 rfl rfl ?_
    refine wp_aload_n dX8_next_70 rfl rfl ?_
    refine wp_aload_n dX8_next_71 rfl rfl ?_
    refine wp_get 69 rfl fl_RX8_149 rfl ⟨by omega, by omega⟩ dX8_next_72 rfl (v := z) (hP1.2.2.2.1) ?_
    refine wp_puti 69 rfl fl_RX8_161 rfl ⟨by omega, by omega⟩ dX8_next_75 rfl rfl ?_
    refine wp_goto (tgt := 321) dX8_next_78 (by decide) ?_
    refine wp_vret rfl dX8_next_321 ?_
    have f2 : Fr VM1 M1 (mu (mu (mu (mu M1 69 23 ((lxA f z x : Nat) : Int)) 69 22 4) 69 22 0) 69 23 z) := (((((Fr.rf : Fr VM1 M1 M1).put ⟨rfl, by omega, by omega⟩).put ⟨rfl, by omega, by omega⟩).put ⟨rfl, by omega, by omega⟩).put ⟨rfl, by omega, by omega⟩)
    have e1 : (ltA f z ((lxA f z x : Nat) : Int)) = -1 := by omega
    have e2 : z = ((lxA f z x : Nat) : Int) := by have := hc0.2.2 e1; omega
    exact kk _ (f1.tr f2) ⟨e2, fun _ => (show _ from hx1 : (mu (mu (mu (mu M1 69 23 ((lxA f z x : Nat) : Int)) 69 22 4) 69 22 0) 69 23 z) 69 21 = _).trans (by unfold lxN; rw [if_pos e1]), Or.inl ⟨rfl, by unfold lxT; rw [if_pos e1]⟩⟩
/-- the names' worths -/
def ENm (M : Mm) (e : Int → Int) : Prop := M 69 13 = e (-1) ∧ M 69 14 = e (-2) ∧ M 69 15 = e (-3) ∧ M 69 16 = e (-4) ∧ M 69 17 = e (-5) ∧ M 69 18 = e (-6)
theorem ENm.fr {M M' : Mm} {e : Int → Int} (h : ENm M e) (g : Fr VMr M M') : ENm M' e :=
  ⟨(g 69 13 (by unfold VMr; omega)).trans h.1, (g 69 14 (by unfold VMr; omega)).trans h.2.1, (g 69 15 (by unfold VMr; omega)).trans h.2.2.1, (g 69 16 (by unfold VMr; omega)).trans h.2.2.2.1, (g 69 17 (by unfold VMr; omega)).trans h.2.2.2.2.1, (g 69 18 (by unfold VMr; omega)).trans h.2.2.2.2.2⟩
def RJm (M : Mm) (t : Nat) (f : Nat → Int) (z : Int) (x : Nat) (o : Int) (e : Int → Int) : Prop := TPm M t f z ∧ LXn M f z x ∧ M 69 25 = o ∧ M 69 26 = 0 ∧ ENm M e
def DJm (M : Mm) (t : Nat) (f : Nat → Int) (z : Int) (p : Nat) (o : Int) (e : Int → Int) : Prop := TPm M t f z ∧ M 69 25 = o ∧ M 69 26 = 1 ∧ M 69 27 = (p : Int) ∧ ENm M e
theorem RJm.step {M M' : Mm} {t : Nat} {f : Nat → Int} {z : Int} {x y : Nat} {o : Int} {e : Int → Int} (h : RJm M t f z x o e) (g : Fr VM1 M M') (hL : LXn M' f z y) : RJm M' t f z y o e := by
  obtain ⟨a, _, c, d, k⟩ := h
  exact ⟨a.fr (g.mono VM1.r), hL, (g 69 25 (by unfold VM1; omega)).trans c, (g 69 26 (by unfold VM1; omega)).trans d, k.fr (g.mono VM1.r)⟩
theorem fm25 {M : Mm} {v : Int} : Fr VMr M (mu M 69 25 v) := Fr.rf.put ⟨rfl, by omega, by omega⟩
theorem RJm.opn {M : Mm} {t : Nat} {f : Nat → Int} {z : Int} {x : Nat} {o v w : Int} {e : Int → Int} (h : RJm M t f z x o e) (q : v = w) : RJm (mu M 69 25 v) t f z x w e := by
  obtain ⟨a, b, c, d, k⟩ := h
  exact ⟨a.fr fm25, b, q, d, k.fr fm25⟩
theorem DJm.opn {M : Mm} {t : Nat} {f : Nat → Int} {z : Int} {p : Nat} {o v w : Int} {e : Int → Int} (h : DJm M t f z p o e) (q : v = w) : DJm (mu M 69 25 v) t f z p w e := by
  obtain ⟨a, c, d, r, k⟩ := h
  exact ⟨a.fr fm25, q, d, r, k.fr fm25⟩
theorem sgnC_r {c : Int} (h : sgnC c = true) : 40 ≤ c ∧ c ≤ 61 := by
  have := of_decide_eq_true h
  omega
theorem wordT {f : Nat → Int} {z : Int} {x : Nat} (h : wordAt f z x) : lxT f z x = wdT f (lxA f z x) (lxN f z x) 12 ∧ lxN f z x = skp ltr f z 160 (lxA f z x) := by
  have e : lxN f z x = skp ltr f z 160 (lxA f z x) := by
    unfold lxN
    rw [if_neg h.1, if_pos h.2]
  refine ⟨?_, e⟩
  unfold lxT
  rw [if_neg h.1, if_pos h.2, ← e]
/-- from the token's kind -/
theorem tokR.ne4 {f : Nat → Int} {z : Int} {x : Nat} {tk w : Int} (h : tokR f z x tk w) (h1 : lxT f z x ≠ 1) : tk ≠ 4 := by
  rcases h with h | h | h | h | h <;> omega
theorem tokR.sgn {f : Nat → Int} {z : Int} {x : Nat} {tk w s : Int} (h : tokR f z x tk w) (hs : 40 ≤ s ∧ s ≤ 61) : (tk = 3 ∧ w = s) ↔ lxT f z x = s := by
  rcases h with ⟨a, b⟩ | ⟨a, b⟩ | ⟨a, b, c⟩ | ⟨a, b, c⟩ | ⟨a, b⟩
  · omega
  · have := (wordT b).1
    have := wdT2 f (lxA f z x) (lxN f z x) 12
    omega
  · omega
  · omega
  · omega
theorem tokR.two {f : Nat → Int} {z : Int} {x : Nat} {tk w : Int} (h : tokR f z x tk w) : (tk = 2 ↔ lxT f z x = 2) ∧ (tk = 2 → w = lxV f z x) := by
  rcases h with ⟨a, b⟩ | ⟨a, b⟩ | ⟨a, b, c⟩ | ⟨a, b, c⟩ | ⟨a, b⟩
  · omega
  · have := (wordT b).1
    have := wdT2 f (lxA f z x) (lxN f z x) 12
    omega
  · exact ⟨by omega, fun _ => c⟩
  · have := sgnC_r c
    omega
  · omega
theorem tokR.end_ {f : Nat → Int} {z : Int} {x : Nat} {tk w : Int} (h : tokR f z x tk w) : tk = 0 ↔ lxT f z x = 0 := by
  rcases h with ⟨a, b⟩ | ⟨a, b⟩ | ⟨a, b, c⟩ | ⟨a, b, c⟩ | ⟨a, b⟩
  · omega
  · have := (wordT b).1
    have := wdT2 f (lxA f z x) (lxN f z x) 12
    omega
  · omega
  · have := sgnC_r c
    omega
  · omega
theorem tokR.word {f : Nat → Int} {z : Int} {x : Nat} {tk w : Int} (h : tokR f z x tk w) (h1 : tk ≠ 1) : lxT f z x < 256 := by
  rcases h with ⟨a, b⟩ | ⟨a, b⟩ | ⟨a, b, c⟩ | ⟨a, b, c⟩ | ⟨a, b⟩
  · omega
  · omega
  · omega
  · have := sgnC_r c
    omega
  · omega
theorem tokR.wd {f : Nat → Int} {z : Int} {x : Nat} {tk w : Int} (h : tokR f z x tk w) (h1 : tk = 1) : wordAt f z x := by
  rcases h with ⟨a, b⟩ | ⟨a, b⟩ | ⟨a, b, c⟩ | ⟨a, b, c⟩ | ⟨a, b⟩
  · omega
  · exact b
  · omega
  · omega
  · omega
theorem wm_one : ∀ a : Nat, a < 13 → ∀ b : Nat, b < 13 → (a = 0 ∨ b = 0 ∨ a = b ∨ lenL.getD a 0 ≠ lenL.getD b 0 ∨ ¬ ∀ i, i < lenL.getD a 0 → byt a i = byt b i) := by decide +kernel
theorem wm_u {f : Nat → Int} {x y a b : Nat} (ha : 0 < a ∧ a < 13) (hb : 0 < b ∧ b < 13) (h1 : wmB a f x y = true) (h2 : wmB b f x y = true) : a = b := by
  by_cases e : a = b
  · exact e
  · have q1 := of_decide_eq_true h1
    have q2 := of_decide_eq_true h2
    rcases wm_one a ha.2 b hb.2 with h | h | h | h | h
    · omega
    · omega
    · exact h
    · omega
    · exact absurd (fun i hi => (q1.2 i hi).symm.trans (q2.2 i (by omega))) h
theorem wdT_hit {f : Nat → Int} {x y : Nat} : ∀ (m j : Nat), m ≤ 12 → j < m → wmB (j + 1) f x y = true → wdT f x y m = 256 + (j : Int)
  | 0, j, _, h, _ => absurd h (by omega)
  | m + 1, j, hm, h, hw => by
    unfold wdT
    by_cases c : wmB (m + 1) f x y = true
    · have := wm_u (f := f) (x := x) (y := y) (a := m + 1) (b := j + 1) (by omega) (by omega) c hw
      rw [if_pos c]
      omega
    · rw [if_neg c]
      have : j ≠ m := fun e => c (e ▸ hw)
      exact wdT_hit m j (by omega) (by omega) hw
theorem wdT_of {f : Nat → Int} {x y : Nat} : ∀ (m j : Nat), wdT f x y m = 256 + (j : Int) → wmB (j + 1) f x y = true
  | 0, j, h => by
    have : (1 : Int) = 256 + (j : Int) := h
    omega
  | m + 1, j, h => by
    unfold wdT at h
    by_cases c : wmB (m + 1) f x y = true
    · rw [if_pos c] at h
      have : m = j := by omega
      subst this
      exact c
    · rw [if_neg c] at h
      exact wdT_of m j h
/-- the word's letter at a place -/
def LT8 (f : Nat → Int) (z : Int) (A N i : Nat) (c : Int) : Prop := (A + i < N → ltA f z ((A + i : Nat) : Int) = c) ∧ (N ≤ A + i → c = 0)
def W8 (f : Nat → Int) (z : Int) (A N : Nat) (a0 a1 a2 a3 a4 a5 a6 a7 : Int) : Prop := N ≤ A + 8 ∧ LT8 f z A N 0 a0 ∧ LT8 f z A N 1 a1 ∧ LT8 f z A N 2 a2 ∧ LT8 f z A N 3 a3 ∧ LT8 f z A N 4 a4 ∧ LT8 f z A N 5 a5 ∧ LT8 f z A N 6 a6 ∧ LT8 f z A N 7 a7
set_option maxHeartbeats 4000000 in
theorem w8_0 {f : Nat → Int} {z : Int} {x : Nat} (hx : (x : Int) ≤ z) (h : wordAt f z x) : W8 f z (lxA f z x) (lxN f z x) 109 105 110 100 115 0 0 0 ↔ lxT f z x = 256 := by
  have hN := lxN_le (f := f) hx
  obtain ⟨eT, eN⟩ := wordT h
  have hl : ∀ i : Nat, lxA f z x + i < lxN f z x → 97 ≤ ltA f z ((lxA f z x + i : Nat) : Int) ∧ ltA f z ((lxA f z x + i : Nat) : Int) ≤ 122 ∧ ltA f z ((lxA f z x + i : Nat) : Int) = f (lxA f z x + i) := by
    intro i hi
    have q := of_decide_eq_true (skp_all (P := ltr) 160 (lxA f z x) (lxA f z x + i) (by omega) (by rw [← eN]; exact hi))
    exact ⟨q.1, q.2, if_pos (by omega)⟩
  have hg : lxA f z x < lxN f z x := by
    have := wdT2 f (lxA f z x) (lxN f z x) 12
    exact hN.2.2 (by omega)
  generalize lxA f z x = A at *
  generalize lxN f z x = N at *
  constructor
  · intro hw
    obtain ⟨n8, t0, t1, t2, t3, t4, t5, t6, t7⟩ := hw
    have eL : N = A + 5 := by
      have g0 : A + 0 < N := by have := t0.2; omega
      have g1 : A + 1 < N := by have := t1.2; omega
      have g2 : A + 2 < N := by have := t2.2; omega
      have g3 : A + 3 < N := by have := t3.2; omega
      have g4 : A + 4 < N := by have := t4.2; omega
      have gL : N ≤ A + 5 := by
        by_cases q : A + 5 < N
        · have := t5.1 q
          have := hl 5 q
          omega
        · omega
      omega
    have hm : wmB 1 f A N = true := by
      refine decide_eq_true ⟨by show N = A + 5; omega, fun i hi => ?_⟩
      have hi : i < 5 := hi
      match i, hi with
      | 0, _ => exact ((hl 0 (by omega)).2.2.symm.trans (t0.1 (by omega))).trans (by decide +kernel)
      | 1, _ => exact ((hl 1 (by omega)).2.2.symm.trans (t1.1 (by omega))).trans (by decide +kernel)
      | 2, _ => exact ((hl 2 (by omega)).2.2.symm.trans (t2.1 (by omega))).trans (by decide +kernel)
      | 3, _ => exact ((hl 3 (by omega)).2.2.symm.trans (t3.1 (by omega))).trans (by decide +kernel)
      | 4, _ => exact ((hl 4 (by omega)).2.2.symm.trans (t4.1 (by omega))).trans (by decide +kernel)
      | i + 5, hi => exact absurd hi (by omega)
    exact eT.trans (wdT_hit 12 0 (by omega) (by omega) hm)
  · intro hT
    have hm := of_decide_eq_true (wdT_of (f := f) (x := A) (y := N) 12 0 (by rw [← eT, hT]; rfl))
    have eL : N = A + 5 := hm.1
    have b0 : f (A + 0) = 109 := (hm.2 0 (by decide)).trans (by decide +kernel)
    have b1 : f (A + 1) = 105 := (hm.2 1 (by decide)).trans (by decide +kernel)
    have b2 : f (A + 2) = 110 := (hm.2 2 (by decide)).trans (by decide +kernel)
    have b3 : f (A + 3) = 100 := (hm.2 3 (by decide)).trans (by decide +kernel)
    have b4 : f (A + 4) = 115 := (hm.2 4 (by decide)).trans (by decide +kernel)
    exact ⟨by omega, ⟨fun q => (hl 0 q).2.2.trans b0, fun q => absurd q (by omega)⟩, ⟨fun q => (hl 1 q).2.2.trans b1, fun q => absurd q (by omega)⟩, ⟨fun q => (hl 2 q).2.2.trans b2, fun q => absurd q (by omega)⟩, ⟨fun q => (hl 3 q).2.2.trans b3, fun q => absurd q (by omega)⟩, ⟨fun q => (hl 4 q).2.2.trans b4, fun q => absurd q (by omega)⟩, ⟨fun q => absurd q (by omega), fun _ => rfl⟩, ⟨fun q => absurd q (by omega), fun _ => rfl⟩, ⟨fun q => absurd q (by omega), fun _ => rfl⟩⟩
set_option maxHeartbeats 4000000 in
theorem w8_1 {f : Nat → Int} {z : Int} {x : Nat} (hx : (x : Int) ≤ z) (h : wordAt f z x) : W8 f z (lxA f z x) (lxN f z x) 108 97 115 116 115 0 0 0 ↔ lxT f z x = 257 := by
  have hN := lxN_le (f := f) hx
  obtain ⟨eT, eN⟩ := wordT h
  have hl : ∀ i : Nat, lxA f z x + i < lxN f z x → 97 ≤ ltA f z ((lxA f z x + i : Nat) : Int) ∧ ltA f z ((lxA f z x + i : Nat) : Int) ≤ 122 ∧ ltA f z ((lxA f z x + i : Nat) : Int) = f (lxA f z x + i) := by
    intro i hi
    have q := of_decide_eq_true (skp_all (P := ltr) 160 (lxA f z x) (lxA f z x + i) (by omega) (by rw [← eN]; exact hi))
    exact ⟨q.1, q.2, if_pos (by omega)⟩
  have hg : lxA f z x < lxN f z x := by
    have := wdT2 f (lxA f z x) (lxN f z x) 12
    exact hN.2.2 (by omega)
  generalize lxA f z x = A at *
  generalize lxN f z x = N at *
  constructor
  · intro hw
    obtain ⟨n8, t0, t1, t2, t3, t4, t5, t6, t7⟩ := hw
    have eL : N = A + 5 := by
      have g0 : A + 0 < N := by have := t0.2; omega
      have g1 : A + 1 < N := by have := t1.2; omega
      have g2 : A + 2 < N := by have := t2.2; omega
      have g3 : A + 3 < N := by have := t3.2; omega
      have g4 : A + 4 < N := by have := t4.2; omega
      have gL : N ≤ A + 5 := by
        by_cases q : A + 5 < N
        · have := t5.1 q
          have := hl 5 q
          omega
        · omega
      omega
    have hm : wmB 2 f A N = true := by
      refine decide_eq_true ⟨by show N = A + 5; omega, fun i hi => ?_⟩
      have hi : i < 5 := hi
      match i, hi with
      | 0, _ => exact ((hl 0 (by omega)).2.2.symm.trans (t0.1 (by omega))).trans (by decide +kernel)
      | 1, _ => exact ((hl 1 (by omega)).2.2.symm.trans (t1.1 (by omega))).trans (by decide +kernel)
      | 2, _ => exact ((hl 2 (by omega)).2.2.symm.trans (t2.1 (by omega))).trans (by decide +kernel)
      | 3, _ => exact ((hl 3 (by omega)).2.2.symm.trans (t3.1 (by omega))).trans (by decide +kernel)
      | 4, _ => exact ((hl 4 (by omega)).2.2.symm.trans (t4.1 (by omega))).trans (by decide +kernel)
      | i + 5, hi => exact absurd hi (by omega)
    exact eT.trans (wdT_hit 12 1 (by omega) (by omega) hm)
  · intro hT
    have hm := of_decide_eq_true (wdT_of (f := f) (x := A) (y := N) 12 1 (by rw [← eT, hT]; rfl))
    have eL : N = A + 5 := hm.1
    have b0 : f (A + 0) = 108 := (hm.2 0 (by decide)).trans (by decide +kernel)
    have b1 : f (A + 1) = 97 := (hm.2 1 (by decide)).trans (by decide +kernel)
    have b2 : f (A + 2) = 115 := (hm.2 2 (by decide)).trans (by decide +kernel)
    have b3 : f (A + 3) = 116 := (hm.2 3 (by decide)).trans (by decide +kernel)
    have b4 : f (A + 4) = 115 := (hm.2 4 (by decide)).trans (by decide +kernel)
    exact ⟨by omega, ⟨fun q => (hl 0 q).2.2.trans b0, fun q => absurd q (by omega)⟩, ⟨fun q => (hl 1 q).2.2.trans b1, fun q => absurd q (by omega)⟩, ⟨fun q => (hl 2 q).2.2.trans b2, fun q => absurd q (by omega)⟩, ⟨fun q => (hl 3 q).2.2.trans b3, fun q => absurd q (by omega)⟩, ⟨fun q => (hl 4 q).2.2.trans b4, fun q => absurd q (by omega)⟩, ⟨fun q => absurd q (by omega), fun _ => rfl⟩, ⟨fun q => absurd q (by omega), fun _ => rfl⟩, ⟨fun q => absurd q (by omega), fun _ => rfl⟩⟩
set_option maxHeartbeats 4000000 in
theorem w8_2 {f : Nat → Int} {z : Int} {x : Nat} (hx : (x : Int) ≤ z) (h : wordAt f z x) : W8 f z (lxA f z x) (lxN f z x) 105 114 107 115 0 0 0 0 ↔ lxT f z x = 258 := by
  have hN := lxN_le (f := f) hx
  obtain ⟨eT, eN⟩ := wordT h
  have hl : ∀ i : Nat, lxA f z x + i < lxN f z x → 97 ≤ ltA f z ((lxA f z x + i : Nat) : Int) ∧ ltA f z ((lxA f z x + i : Nat) : Int) ≤ 122 ∧ ltA f z ((lxA f z x + i : Nat) : Int) = f (lxA f z x + i) := by
    intro i hi
    have q := of_decide_eq_true (skp_all (P := ltr) 160 (lxA f z x) (lxA f z x + i) (by omega) (by rw [← eN]; exact hi))
    exact ⟨q.1, q.2, if_pos (by omega)⟩
  have hg : lxA f z x < lxN f z x := by
    have := wdT2 f (lxA f z x) (lxN f z x) 12
    exact hN.2.2 (by omega)
  generalize lxA f z x = A at *
  generalize lxN f z x = N at *
  constructor
  · intro hw
    obtain ⟨n8, t0, t1, t2, t3, t4, t5, t6, t7⟩ := hw
    have eL : N = A + 4 := by
      have g0 : A + 0 < N := by have := t0.2; omega
      have g1 : A + 1 < N := by have := t1.2; omega
      have g2 : A + 2 < N := by have := t2.2; omega
      have g3 : A + 3 < N := by have := t3.2; omega
      have gL : N ≤ A + 4 := by
        by_cases q : A + 4 < N
        · have := t4.1 q
          have := hl 4 q
          omega
        · omega
      omega
    have hm : wmB 3 f A N = true := by
      refine decide_eq_true ⟨by show N = A + 4; omega, fun i hi => ?_⟩
      have hi : i < 4 := hi
      match i, hi with
      | 0, _ => exact ((hl 0 (by omega)).2.2.symm.trans (t0.1 (by omega))).trans (by decide +kernel)
      | 1, _ => exact ((hl 1 (by omega)).2.2.symm.trans (t1.1 (by omega))).trans (by decide +kernel)
      | 2, _ => exact ((hl 2 (by omega)).2.2.symm.trans (t2.1 (by omega))).trans (by decide +kernel)
      | 3, _ => exact ((hl 3 (by omega)).2.2.symm.trans (t3.1 (by omega))).trans (by decide +kernel)
      | i + 4, hi => exact absurd hi (by omega)
    exact eT.trans (wdT_hit 12 2 (by omega) (by omega) hm)
  · intro hT
    have hm := of_decide_eq_true (wdT_of (f := f) (x := A) (y := N) 12 2 (by rw [← eT, hT]; rfl))
    have eL : N = A + 4 := hm.1
    have b0 : f (A + 0) = 105 := (hm.2 0 (by decide)).trans (by decide +kernel)
    have b1 : f (A + 1) = 114 := (hm.2 1 (by decide)).trans (by decide +kernel)
    have b2 : f (A + 2) = 107 := (hm.2 2 (by decide)).trans (by decide +kernel)
    have b3 : f (A + 3) = 115 := (hm.2 3 (by decide)).trans (by decide +kernel)
    exact ⟨by omega, ⟨fun q => (hl 0 q).2.2.trans b0, fun q => absurd q (by omega)⟩, ⟨fun q => (hl 1 q).2.2.trans b1, fun q => absurd q (by omega)⟩, ⟨fun q => (hl 2 q).2.2.trans b2, fun q => absurd q (by omega)⟩, ⟨fun q => (hl 3 q).2.2.trans b3, fun q => absurd q (by omega)⟩, ⟨fun q => absurd q (by omega), fun _ => rfl⟩, ⟨fun q => absurd q (by omega), fun _ => rfl⟩, ⟨fun q => absurd q (by omega), fun _ => rfl⟩, ⟨fun q => absurd q (by omega), fun _ => rfl⟩⟩
set_option maxHeartbeats 4000000 in
theorem w8_3 {f : Nat → Int} {z : Int} {x : Nat} (hx : (x : Int) ≤ z) (h : wordAt f z x) : W8 f z (lxA f z x) (lxN f z x) 111 114 0 0 0 0 0 0 ↔ lxT f z x = 259 := by
  have hN := lxN_le (f := f) hx
  obtain ⟨eT, eN⟩ := wordT h
  have hl : ∀ i : Nat, lxA f z x + i < lxN f z x → 97 ≤ ltA f z ((lxA f z x + i : Nat) : Int) ∧ ltA f z ((lxA f z x + i : Nat) : Int) ≤ 122 ∧ ltA f z ((lxA f z x + i : Nat) : Int) = f (lxA f z x + i) := by
    intro i hi
    have q := of_decide_eq_true (skp_all (P := ltr) 160 (lxA f z x) (lxA f z x + i) (by omega) (by rw [← eN]; exact hi))
    exact ⟨q.1, q.2, if_pos (by omega)⟩
  have hg : lxA f z x < lxN f z x := by
    have := wdT2 f (lxA f z x) (lxN f z x) 12
    exact hN.2.2 (by omega)
  generalize lxA f z x = A at *
  generalize lxN f z x = N at *
  constructor
  · intro hw
    obtain ⟨n8, t0, t1, t2, t3, t4, t5, t6, t7⟩ := hw
    have eL : N = A + 2 := by
      have g0 : A + 0 < N := by have := t0.2; omega
      have g1 : A + 1 < N := by have := t1.2; omega
      have gL : N ≤ A + 2 := by
        by_cases q : A + 2 < N
        · have := t2.1 q
          have := hl 2 q
          omega
        · omega
      omega
    have hm : wmB 4 f A N = true := by
      refine decide_eq_true ⟨by show N = A + 2; omega, fun i hi => ?_⟩
      have hi : i < 2 := hi
      match i, hi with
      | 0, _ => exact ((hl 0 (by omega)).2.2.symm.trans (t0.1 (by omega))).trans (by decide +kernel)
      | 1, _ => exact ((hl 1 (by omega)).2.2.symm.trans (t1.1 (by omega))).trans (by decide +kernel)
      | i + 2, hi => exact absurd hi (by omega)
    exact eT.trans (wdT_hit 12 3 (by omega) (by omega) hm)
  · intro hT
    have hm := of_decide_eq_true (wdT_of (f := f) (x := A) (y := N) 12 3 (by rw [← eT, hT]; rfl))
    have eL : N = A + 2 := hm.1
    have b0 : f (A + 0) = 111 := (hm.2 0 (by decide)).trans (by decide +kernel)
    have b1 : f (A + 1) = 114 := (hm.2 1 (by decide)).trans (by decide +kernel)
    exact ⟨by omega, ⟨fun q => (hl 0 q).2.2.trans b0, fun q => absurd q (by omega)⟩, ⟨fun q => (hl 1 q).2.2.trans b1, fun q => absurd q (by omega)⟩, ⟨fun q => absurd q (by omega), fun _ => rfl⟩, ⟨fun q => absurd q (by omega), fun _ => rfl⟩, ⟨fun q => absurd q (by omega), fun _ => rfl⟩, ⟨fun q => absurd q (by omega), fun _ => rfl⟩, ⟨fun q => absurd q (by omega), fun _ => rfl⟩, ⟨fun q => absurd q (by omega), fun _ => rfl⟩⟩
set_option maxHeartbeats 4000000 in
theorem w8_4 {f : Nat → Int} {z : Int} {x : Nat} (hx : (x : Int) ≤ z) (h : wordAt f z x) : W8 f z (lxA f z x) (lxN f z x) 97 110 100 0 0 0 0 0 ↔ lxT f z x = 260 := by
  have hN := lxN_le (f := f) hx
  obtain ⟨eT, eN⟩ := wordT h
  have hl : ∀ i : Nat, lxA f z x + i < lxN f z x → 97 ≤ ltA f z ((lxA f z x + i : Nat) : Int) ∧ ltA f z ((lxA f z x + i : Nat) : Int) ≤ 122 ∧ ltA f z ((lxA f z x + i : Nat) : Int) = f (lxA f z x + i) := by
    intro i hi
    have q := of_decide_eq_true (skp_all (P := ltr) 160 (lxA f z x) (lxA f z x + i) (by omega) (by rw [← eN]; exact hi))
    exact ⟨q.1, q.2, if_pos (by omega)⟩
  have hg : lxA f z x < lxN f z x := by
    have := wdT2 f (lxA f z x) (lxN f z x) 12
    exact hN.2.2 (by omega)
  generalize lxA f z x = A at *
  generalize lxN f z x = N at *
  constructor
  · intro hw
    obtain ⟨n8, t0, t1, t2, t3, t4, t5, t6, t7⟩ := hw
    have eL : N = A + 3 := by
      have g0 : A + 0 < N := by have := t0.2; omega
      have g1 : A + 1 < N := by have := t1.2; omega
      have g2 : A + 2 < N := by have := t2.2; omega
      have gL : N ≤ A + 3 := by
        by_cases q : A + 3 < N
        · have := t3.1 q
          have := hl 3 q
          omega
        · omega
      omega
    have hm : wmB 5 f A N = true := by
      refine decide_eq_true ⟨by show N = A + 3; omega, fun i hi => ?_⟩
      have hi : i < 3 := hi
      match i, hi with
      | 0, _ => exact ((hl 0 (by omega)).2.2.symm.trans (t0.1 (by omega))).trans (by decide +kernel)
      | 1, _ => exact ((hl 1 (by omega)).2.2.symm.trans (t1.1 (by omega))).trans (by decide +kernel)
      | 2, _ => exact ((hl 2 (by omega)).2.2.symm.trans (t2.1 (by omega))).trans (by decide +kernel)
      | i + 3, hi => exact absurd hi (by omega)
    exact eT.trans (wdT_hit 12 4 (by omega) (by omega) hm)
  · intro hT
    have hm := of_decide_eq_true (wdT_of (f := f) (x := A) (y := N) 12 4 (by rw [← eT, hT]; rfl))
    have eL : N = A + 3 := hm.1
    have b0 : f (A + 0) = 97 := (hm.2 0 (by decide)).trans (by decide +kernel)
    have b1 : f (A + 1) = 110 := (hm.2 1 (by decide)).trans (by decide +kernel)
    have b2 : f (A + 2) = 100 := (hm.2 2 (by decide)).trans (by decide +kernel)
    exact ⟨by omega, ⟨fun q => (hl 0 q).2.2.trans b0, fun q => absurd q (by omega)⟩, ⟨fun q => (hl 1 q).2.2.trans b1, fun q => absurd q (by omega)⟩, ⟨fun q => (hl 2 q).2.2.trans b2, fun q => absurd q (by omega)⟩, ⟨fun q => absurd q (by omega), fun _ => rfl⟩, ⟨fun q => absurd q (by omega), fun _ => rfl⟩, ⟨fun q => absurd q (by omega), fun _ => rfl⟩, ⟨fun q => absurd q (by omega), fun _ => rfl⟩, ⟨fun q => absurd q (by omega), fun _ => rfl⟩⟩
set_option maxHeartbeats 4000000 in
theorem w8_5 {f : Nat → Int} {z : Int} {x : Nat} (hx : (x : Int) ≤ z) (h : wordAt f z x) : W8 f z (lxA f z x) (lxN f z x) 110 111 116 0 0 0 0 0 ↔ lxT f z x = 261 := by
  have hN := lxN_le (f := f) hx
  obtain ⟨eT, eN⟩ := wordT h
  have hl : ∀ i : Nat, lxA f z x + i < lxN f z x → 97 ≤ ltA f z ((lxA f z x + i : Nat) : Int) ∧ ltA f z ((lxA f z x + i : Nat) : Int) ≤ 122 ∧ ltA f z ((lxA f z x + i : Nat) : Int) = f (lxA f z x + i) := by
    intro i hi
    have q := of_decide_eq_true (skp_all (P := ltr) 160 (lxA f z x) (lxA f z x + i) (by omega) (by rw [← eN]; exact hi))
    exact ⟨q.1, q.2, if_pos (by omega)⟩
  have hg : lxA f z x < lxN f z x := by
    have := wdT2 f (lxA f z x) (lxN f z x) 12
    exact hN.2.2 (by omega)
  generalize lxA f z x = A at *
  generalize lxN f z x = N at *
  constructor
  · intro hw
    obtain ⟨n8, t0, t1, t2, t3, t4, t5, t6, t7⟩ := hw
    have eL : N = A + 3 := by
      have g0 : A + 0 < N := by have := t0.2; omega
      have g1 : A + 1 < N := by have := t1.2; omega
      have g2 : A + 2 < N := by have := t2.2; omega
      have gL : N ≤ A + 3 := by
        by_cases q : A + 3 < N
        · have := t3.1 q
          have := hl 3 q
          omega
        · omega
      omega
    have hm : wmB 6 f A N = true := by
      refine decide_eq_true ⟨by show N = A + 3; omega, fun i hi => ?_⟩
      have hi : i < 3 := hi
      match i, hi with
      | 0, _ => exact ((hl 0 (by omega)).2.2.symm.trans (t0.1 (by omega))).trans (by decide +kernel)
      | 1, _ => exact ((hl 1 (by omega)).2.2.symm.trans (t1.1 (by omega))).trans (by decide +kernel)
      | 2, _ => exact ((hl 2 (by omega)).2.2.symm.trans (t2.1 (by omega))).trans (by decide +kernel)
      | i + 3, hi => exact absurd hi (by omega)
    exact eT.trans (wdT_hit 12 5 (by omega) (by omega) hm)
  · intro hT
    have hm := of_decide_eq_true (wdT_of (f := f) (x := A) (y := N) 12 5 (by rw [← eT, hT]; rfl))
    have eL : N = A + 3 := hm.1
    have b0 : f (A + 0) = 110 := (hm.2 0 (by decide)).trans (by decide +kernel)
    have b1 : f (A + 1) = 111 := (hm.2 1 (by decide)).trans (by decide +kernel)
    have b2 : f (A + 2) = 116 := (hm.2 2 (by decide)).trans (by decide +kernel)
    exact ⟨by omega, ⟨fun q => (hl 0 q).2.2.trans b0, fun q => absurd q (by omega)⟩, ⟨fun q => (hl 1 q).2.2.trans b1, fun q => absurd q (by omega)⟩, ⟨fun q => (hl 2 q).2.2.trans b2, fun q => absurd q (by omega)⟩, ⟨fun q => absurd q (by omega), fun _ => rfl⟩, ⟨fun q => absurd q (by omega), fun _ => rfl⟩, ⟨fun q => absurd q (by omega), fun _ => rfl⟩, ⟨fun q => absurd q (by omega), fun _ => rfl⟩, ⟨fun q => absurd q (by omega), fun _ => rfl⟩⟩
set_option maxHeartbeats 4000000 in
theorem w8_6 {f : Nat → Int} {z : Int} {x : Nat} (hx : (x : Int) ≤ z) (h : wordAt f z x) : W8 f z (lxA f z x) (lxN f z x) 108 105 107 101 100 0 0 0 ↔ lxT f z x = 262 := by
  have hN := lxN_le (f := f) hx
  obtain ⟨eT, eN⟩ := wordT h
  have hl : ∀ i : Nat, lxA f z x + i < lxN f z x → 97 ≤ ltA f z ((lxA f z x + i : Nat) : Int) ∧ ltA f z ((lxA f z x + i : Nat) : Int) ≤ 122 ∧ ltA f z ((lxA f z x + i : Nat) : Int) = f (lxA f z x + i) := by
    intro i hi
    have q := of_decide_eq_true (skp_all (P := ltr) 160 (lxA f z x) (lxA f z x + i) (by omega) (by rw [← eN]; exact hi))
    exact ⟨q.1, q.2, if_pos (by omega)⟩
  have hg : lxA f z x < lxN f z x := by
    have := wdT2 f (lxA f z x) (lxN f z x) 12
    exact hN.2.2 (by omega)
  generalize lxA f z x = A at *
  generalize lxN f z x = N at *
  constructor
  · intro hw
    obtain ⟨n8, t0, t1, t2, t3, t4, t5, t6, t7⟩ := hw
    have eL : N = A + 5 := by
      have g0 : A + 0 < N := by have := t0.2; omega
      have g1 : A + 1 < N := by have := t1.2; omega
      have g2 : A + 2 < N := by have := t2.2; omega
      have g3 : A + 3 < N := by have := t3.2; omega
      have g4 : A + 4 < N := by have := t4.2; omega
      have gL : N ≤ A + 5 := by
        by_cases q : A + 5 < N
        · have := t5.1 q
          have := hl 5 q
          omega
        · omega
      omega
    have hm : wmB 7 f A N = true := by
      refine decide_eq_true ⟨by show N = A + 5; omega, fun i hi => ?_⟩
      have hi : i < 5 := hi
      match i, hi with
      | 0, _ => exact ((hl 0 (by omega)).2.2.symm.trans (t0.1 (by omega))).trans (by decide +kernel)
      | 1, _ => exact ((hl 1 (by omega)).2.2.symm.trans (t1.1 (by omega))).trans (by decide +kernel)
      | 2, _ => exact ((hl 2 (by omega)).2.2.symm.trans (t2.1 (by omega))).trans (by decide +kernel)
      | 3, _ => exact ((hl 3 (by omega)).2.2.symm.trans (t3.1 (by omega))).trans (by decide +kernel)
      | 4, _ => exact ((hl 4 (by omega)).2.2.symm.trans (t4.1 (by omega))).trans (by decide +kernel)
      | i + 5, hi => exact absurd hi (by omega)
    exact eT.trans (wdT_hit 12 6 (by omega) (by omega) hm)
  · intro hT
    have hm := of_decide_eq_true (wdT_of (f := f) (x := A) (y := N) 12 6 (by rw [← eT, hT]; rfl))
    have eL : N = A + 5 := hm.1
    have b0 : f (A + 0) = 108 := (hm.2 0 (by decide)).trans (by decide +kernel)
    have b1 : f (A + 1) = 105 := (hm.2 1 (by decide)).trans (by decide +kernel)
    have b2 : f (A + 2) = 107 := (hm.2 2 (by decide)).trans (by decide +kernel)
    have b3 : f (A + 3) = 101 := (hm.2 3 (by decide)).trans (by decide +kernel)
    have b4 : f (A + 4) = 100 := (hm.2 4 (by decide)).trans (by decide +kernel)
    exact ⟨by omega, ⟨fun q => (hl 0 q).2.2.trans b0, fun q => absurd q (by omega)⟩, ⟨fun q => (hl 1 q).2.2.trans b1, fun q => absurd q (by omega)⟩, ⟨fun q => (hl 2 q).2.2.trans b2, fun q => absurd q (by omega)⟩, ⟨fun q => (hl 3 q).2.2.trans b3, fun q => absurd q (by omega)⟩, ⟨fun q => (hl 4 q).2.2.trans b4, fun q => absurd q (by omega)⟩, ⟨fun q => absurd q (by omega), fun _ => rfl⟩, ⟨fun q => absurd q (by omega), fun _ => rfl⟩, ⟨fun q => absurd q (by omega), fun _ => rfl⟩⟩
set_option maxHeartbeats 4000000 in
theorem w8_7 {f : Nat → Int} {z : Int} {x : Nat} (hx : (x : Int) ≤ z) (h : wordAt f z x) : W8 f z (lxA f z x) (lxN f z x) 110 117 109 98 101 114 0 0 ↔ lxT f z x = 263 := by
  have hN := lxN_le (f := f) hx
  obtain ⟨eT, eN⟩ := wordT h
  have hl : ∀ i : Nat, lxA f z x + i < lxN f z x → 97 ≤ ltA f z ((lxA f z x + i : Nat) : Int) ∧ ltA f z ((lxA f z x + i : Nat) : Int) ≤ 122 ∧ ltA f z ((lxA f z x + i : Nat) : Int) = f (lxA f z x + i) := by
    intro i hi
    have q := of_decide_eq_true (skp_all (P := ltr) 160 (lxA f z x) (lxA f z x + i) (by omega) (by rw [← eN]; exact hi))
    exact ⟨q.1, q.2, if_pos (by omega)⟩
  have hg : lxA f z x < lxN f z x := by
    have := wdT2 f (lxA f z x) (lxN f z x) 12
    exact hN.2.2 (by omega)
  generalize lxA f z x = A at *
  generalize lxN f z x = N at *
  constructor
  · intro hw
    obtain ⟨n8, t0, t1, t2, t3, t4, t5, t6, t7⟩ := hw
    have eL : N = A + 6 := by
      have g0 : A + 0 < N := by have := t0.2; omega
      have g1 : A + 1 < N := by have := t1.2; omega
      have g2 : A + 2 < N := by have := t2.2; omega
      have g3 : A + 3 < N := by have := t3.2; omega
      have g4 : A + 4 < N := by have := t4.2; omega
      have g5 : A + 5 < N := by have := t5.2; omega
      have gL : N ≤ A + 6 := by
        by_cases q : A + 6 < N
        · have := t6.1 q
          have := hl 6 q
          omega
        · omega
      omega
    have hm : wmB 8 f A N = true := by
      refine decide_eq_true ⟨by show N = A + 6; omega, fun i hi => ?_⟩
      have hi : i < 6 := hi
      match i, hi with
      | 0, _ => exact ((hl 0 (by omega)).2.2.symm.trans (t0.1 (by omega))).trans (by decide +kernel)
      | 1, _ => exact ((hl 1 (by omega)).2.2.symm.trans (t1.1 (by omega))).trans (by decide +kernel)
      | 2, _ => exact ((hl 2 (by omega)).2.2.symm.trans (t2.1 (by omega))).trans (by decide +kernel)
      | 3, _ => exact ((hl 3 (by omega)).2.2.symm.trans (t3.1 (by omega))).trans (by decide +kernel)
      | 4, _ => exact ((hl 4 (by omega)).2.2.symm.trans (t4.1 (by omega))).trans (by decide +kernel)
      | 5, _ => exact ((hl 5 (by omega)).2.2.symm.trans (t5.1 (by omega))).trans (by decide +kernel)
      | i + 6, hi => exact absurd hi (by omega)
    exact eT.trans (wdT_hit 12 7 (by omega) (by omega) hm)
  · intro hT
    have hm := of_decide_eq_true (wdT_of (f := f) (x := A) (y := N) 12 7 (by rw [← eT, hT]; rfl))
    have eL : N = A + 6 := hm.1
    have b0 : f (A + 0) = 110 := (hm.2 0 (by decide)).trans (by decide +kernel)
    have b1 : f (A + 1) = 117 := (hm.2 1 (by decide)).trans (by decide +kernel)
    have b2 : f (A + 2) = 109 := (hm.2 2 (by decide)).trans (by decide +kernel)
    have b3 : f (A + 3) = 98 := (hm.2 3 (by decide)).trans (by decide +kernel)
    have b4 : f (A + 4) = 101 := (hm.2 4 (by decide)).trans (by decide +kernel)
    have b5 : f (A + 5) = 114 := (hm.2 5 (by decide)).trans (by decide +kernel)
    exact ⟨by omega, ⟨fun q => (hl 0 q).2.2.trans b0, fun q => absurd q (by omega)⟩, ⟨fun q => (hl 1 q).2.2.trans b1, fun q => absurd q (by omega)⟩, ⟨fun q => (hl 2 q).2.2.trans b2, fun q => absurd q (by omega)⟩, ⟨fun q => (hl 3 q).2.2.trans b3, fun q => absurd q (by omega)⟩, ⟨fun q => (hl 4 q).2.2.trans b4, fun q => absurd q (by omega)⟩, ⟨fun q => (hl 5 q).2.2.trans b5, fun q => absurd q (by omega)⟩, ⟨fun q => absurd q (by omega), fun _ => rfl⟩, ⟨fun q => absurd q (by omega), fun _ => rfl⟩⟩
set_option maxHeartbeats 4000000 in
theorem w8_8 {f : Nat → Int} {z : Int} {x : Nat} (hx : (x : Int) ≤ z) (h : wordAt f z x) : W8 f z (lxA f z x) (lxN f z x) 116 104 101 105 114 115 0 0 ↔ lxT f z x = 264 := by
  have hN := lxN_le (f := f) hx
  obtain ⟨eT, eN⟩ := wordT h
  have hl : ∀ i : Nat, lxA f z x + i < lxN f z x → 97 ≤ ltA f z ((lxA f z x + i : Nat) : Int) ∧ ltA f z ((lxA f z x + i : Nat) : Int) ≤ 122 ∧ ltA f z ((lxA f z x + i : Nat) : Int) = f (lxA f z x + i) := by
    intro i hi
    have q := of_decide_eq_true (skp_all (P := ltr) 160 (lxA f z x) (lxA f z x + i) (by omega) (by rw [← eN]; exact hi))
    exact ⟨q.1, q.2, if_pos (by omega)⟩
  have hg : lxA f z x < lxN f z x := by
    have := wdT2 f (lxA f z x) (lxN f z x) 12
    exact hN.2.2 (by omega)
  generalize lxA f z x = A at *
  generalize lxN f z x = N at *
  constructor
  · intro hw
    obtain ⟨n8, t0, t1, t2, t3, t4, t5, t6, t7⟩ := hw
    have eL : N = A + 6 := by
      have g0 : A + 0 < N := by have := t0.2; omega
      have g1 : A + 1 < N := by have := t1.2; omega
      have g2 : A + 2 < N := by have := t2.2; omega
      have g3 : A + 3 < N := by have := t3.2; omega
      have g4 : A + 4 < N := by have := t4.2; omega
      have g5 : A + 5 < N := by have := t5.2; omega
      have gL : N ≤ A + 6 := by
        by_cases q : A + 6 < N
        · have := t6.1 q
          have := hl 6 q
          omega
        · omega
      omega
    have hm : wmB 9 f A N = true := by
      refine decide_eq_true ⟨by show N = A + 6; omega, fun i hi => ?_⟩
      have hi : i < 6 := hi
      match i, hi with
      | 0, _ => exact ((hl 0 (by omega)).2.2.symm.trans (t0.1 (by omega))).trans (by decide +kernel)
      | 1, _ => exact ((hl 1 (by omega)).2.2.symm.trans (t1.1 (by omega))).trans (by decide +kernel)
      | 2, _ => exact ((hl 2 (by omega)).2.2.symm.trans (t2.1 (by omega))).trans (by decide +kernel)
      | 3, _ => exact ((hl 3 (by omega)).2.2.symm.trans (t3.1 (by omega))).trans (by decide +kernel)
      | 4, _ => exact ((hl 4 (by omega)).2.2.symm.trans (t4.1 (by omega))).trans (by decide +kernel)
      | 5, _ => exact ((hl 5 (by omega)).2.2.symm.trans (t5.1 (by omega))).trans (by decide +kernel)
      | i + 6, hi => exact absurd hi (by omega)
    exact eT.trans (wdT_hit 12 8 (by omega) (by omega) hm)
  · intro hT
    have hm := of_decide_eq_true (wdT_of (f := f) (x := A) (y := N) 12 8 (by rw [← eT, hT]; rfl))
    have eL : N = A + 6 := hm.1
    have b0 : f (A + 0) = 116 := (hm.2 0 (by decide)).trans (by decide +kernel)
    have b1 : f (A + 1) = 104 := (hm.2 1 (by decide)).trans (by decide +kernel)
    have b2 : f (A + 2) = 101 := (hm.2 2 (by decide)).trans (by decide +kernel)
    have b3 : f (A + 3) = 105 := (hm.2 3 (by decide)).trans (by decide +kernel)
    have b4 : f (A + 4) = 114 := (hm.2 4 (by decide)).trans (by decide +kernel)
    have b5 : f (A + 5) = 115 := (hm.2 5 (by decide)).trans (by decide +kernel)
    exact ⟨by omega, ⟨fun q => (hl 0 q).2.2.trans b0, fun q => absurd q (by omega)⟩, ⟨fun q => (hl 1 q).2.2.trans b1, fun q => absurd q (by omega)⟩, ⟨fun q => (hl 2 q).2.2.trans b2, fun q => absurd q (by omega)⟩, ⟨fun q => (hl 3 q).2.2.trans b3, fun q => absurd q (by omega)⟩, ⟨fun q => (hl 4 q).2.2.trans b4, fun q => absurd q (by omega)⟩, ⟨fun q => (hl 5 q).2.2.trans b5, fun q => absurd q (by omega)⟩, ⟨fun q => absurd q (by omega), fun _ => rfl⟩, ⟨fun q => absurd q (by omega), fun _ => rfl⟩⟩
set_option maxHeartbeats 4000000 in
theorem w8_9 {f : Nat → Int} {z : Int} {x : Nat} (hx : (x : Int) ≤ z) (h : wordAt f z x) : W8 f z (lxA f z x) (lxN f z x) 109 105 110 117 116 101 0 0 ↔ lxT f z x = 265 := by
  have hN := lxN_le (f := f) hx
  obtain ⟨eT, eN⟩ := wordT h
  have hl : ∀ i : Nat, lxA f z x + i < lxN f z x → 97 ≤ ltA f z ((lxA f z x + i : Nat) : Int) ∧ ltA f z ((lxA f z x + i : Nat) : Int) ≤ 122 ∧ ltA f z ((lxA f z x + i : Nat) : Int) = f (lxA f z x + i) := by
    intro i hi
    have q := of_decide_eq_true (skp_all (P := ltr) 160 (lxA f z x) (lxA f z x + i) (by omega) (by rw [← eN]; exact hi))
    exact ⟨q.1, q.2, if_pos (by omega)⟩
  have hg : lxA f z x < lxN f z x := by
    have := wdT2 f (lxA f z x) (lxN f z x) 12
    exact hN.2.2 (by omega)
  generalize lxA f z x = A at *
  generalize lxN f z x = N at *
  constructor
  · intro hw
    obtain ⟨n8, t0, t1, t2, t3, t4, t5, t6, t7⟩ := hw
    have eL : N = A + 6 := by
      have g0 : A + 0 < N := by have := t0.2; omega
      have g1 : A + 1 < N := by have := t1.2; omega
      have g2 : A + 2 < N := by have := t2.2; omega
      have g3 : A + 3 < N := by have := t3.2; omega
      have g4 : A + 4 < N := by have := t4.2; omega
      have g5 : A + 5 < N := by have := t5.2; omega
      have gL : N ≤ A + 6 := by
        by_cases q : A + 6 < N
        · have := t6.1 q
          have := hl 6 q
          omega
        · omega
      omega
    have hm : wmB 10 f A N = true := by
      refine decide_eq_true ⟨by show N = A + 6; omega, fun i hi => ?_⟩
      have hi : i < 6 := hi
      match i, hi with
      | 0, _ => exact ((hl 0 (by omega)).2.2.symm.trans (t0.1 (by omega))).trans (by decide +kernel)
      | 1, _ => exact ((hl 1 (by omega)).2.2.symm.trans (t1.1 (by omega))).trans (by decide +kernel)
      | 2, _ => exact ((hl 2 (by omega)).2.2.symm.trans (t2.1 (by omega))).trans (by decide +kernel)
      | 3, _ => exact ((hl 3 (by omega)).2.2.symm.trans (t3.1 (by omega))).trans (by decide +kernel)
      | 4, _ => exact ((hl 4 (by omega)).2.2.symm.trans (t4.1 (by omega))).trans (by decide +kernel)
      | 5, _ => exact ((hl 5 (by omega)).2.2.symm.trans (t5.1 (by omega))).trans (by decide +kernel)
      | i + 6, hi => exact absurd hi (by omega)
    exact eT.trans (wdT_hit 12 9 (by omega) (by omega) hm)
  · intro hT
    have hm := of_decide_eq_true (wdT_of (f := f) (x := A) (y := N) 12 9 (by rw [← eT, hT]; rfl))
    have eL : N = A + 6 := hm.1
    have b0 : f (A + 0) = 109 := (hm.2 0 (by decide)).trans (by decide +kernel)
    have b1 : f (A + 1) = 105 := (hm.2 1 (by decide)).trans (by decide +kernel)
    have b2 : f (A + 2) = 110 := (hm.2 2 (by decide)).trans (by decide +kernel)
    have b3 : f (A + 3) = 117 := (hm.2 3 (by decide)).trans (by decide +kernel)
    have b4 : f (A + 4) = 116 := (hm.2 4 (by decide)).trans (by decide +kernel)
    have b5 : f (A + 5) = 101 := (hm.2 5 (by decide)).trans (by decide +kernel)
    exact ⟨by omega, ⟨fun q => (hl 0 q).2.2.trans b0, fun q => absurd q (by omega)⟩, ⟨fun q => (hl 1 q).2.2.trans b1, fun q => absurd q (by omega)⟩, ⟨fun q => (hl 2 q).2.2.trans b2, fun q => absurd q (by omega)⟩, ⟨fun q => (hl 3 q).2.2.trans b3, fun q => absurd q (by omega)⟩, ⟨fun q => (hl 4 q).2.2.trans b4, fun q => absurd q (by omega)⟩, ⟨fun q => (hl 5 q).2.2.trans b5, fun q => absurd q (by omega)⟩, ⟨fun q => absurd q (by omega), fun _ => rfl⟩, ⟨fun q => absurd q (by omega), fun _ => rfl⟩⟩
set_option maxHeartbeats 4000000 in
theorem w8_10 {f : Nat → Int} {z : Int} {x : Nat} (hx : (x : Int) ≤ z) (h : wordAt f z x) : W8 f z (lxA f z x) (lxN f z x) 103 105 102 116 115 0 0 0 ↔ lxT f z x = 266 := by
  have hN := lxN_le (f := f) hx
  obtain ⟨eT, eN⟩ := wordT h
  have hl : ∀ i : Nat, lxA f z x + i < lxN f z x → 97 ≤ ltA f z ((lxA f z x + i : Nat) : Int) ∧ ltA f z ((lxA f z x + i : Nat) : Int) ≤ 122 ∧ ltA f z ((lxA f z x + i : Nat) : Int) = f (lxA f z x + i) := by
    intro i hi
    have q := of_decide_eq_true (skp_all (P := ltr) 160 (lxA f z x) (lxA f z x + i) (by omega) (by rw [← eN]; exact hi))
    exact ⟨q.1, q.2, if_pos (by omega)⟩
  have hg : lxA f z x < lxN f z x := by
    have := wdT2 f (lxA f z x) (lxN f z x) 12
    exact hN.2.2 (by omega)
  generalize lxA f z x = A at *
  generalize lxN f z x = N at *
  constructor
  · intro hw
    obtain ⟨n8, t0, t1, t2, t3, t4, t5, t6, t7⟩ := hw
    have eL : N = A + 5 := by
      have g0 : A + 0 < N := by have := t0.2; omega
      have g1 : A + 1 < N := by have := t1.2; omega
      have g2 : A + 2 < N := by have := t2.2; omega
      have g3 : A + 3 < N := by have := t3.2; omega
      have g4 : A + 4 < N := by have := t4.2; omega
      have gL : N ≤ A + 5 := by
        by_cases q : A + 5 < N
        · have := t5.1 q
          have := hl 5 q
          omega
        · omega
      omega
    have hm : wmB 11 f A N = true := by
      refine decide_eq_true ⟨by show N = A + 5; omega, fun i hi => ?_⟩
      have hi : i < 5 := hi
      match i, hi with
      | 0, _ => exact ((hl 0 (by omega)).2.2.symm.trans (t0.1 (by omega))).trans (by decide +kernel)
      | 1, _ => exact ((hl 1 (by omega)).2.2.symm.trans (t1.1 (by omega))).trans (by decide +kernel)
      | 2, _ => exact ((hl 2 (by omega)).2.2.symm.trans (t2.1 (by omega))).trans (by decide +kernel)
      | 3, _ => exact ((hl 3 (by omega)).2.2.symm.trans (t3.1 (by omega))).trans (by decide +kernel)
      | 4, _ => exact ((hl 4 (by omega)).2.2.symm.trans (t4.1 (by omega))).trans (by decide +kernel)
      | i + 5, hi => exact absurd hi (by omega)
    exact eT.trans (wdT_hit 12 10 (by omega) (by omega) hm)
  · intro hT
    have hm := of_decide_eq_true (wdT_of (f := f) (x := A) (y := N) 12 10 (by rw [← eT, hT]; rfl))
    have eL : N = A + 5 := hm.1
    have b0 : f (A + 0) = 103 := (hm.2 0 (by decide)).trans (by decide +kernel)
    have b1 : f (A + 1) = 105 := (hm.2 1 (by decide)).trans (by decide +kernel)
    have b2 : f (A + 2) = 102 := (hm.2 2 (by decide)).trans (by decide +kernel)
    have b3 : f (A + 3) = 116 := (hm.2 3 (by decide)).trans (by decide +kernel)
    have b4 : f (A + 4) = 115 := (hm.2 4 (by decide)).trans (by decide +kernel)
    exact ⟨by omega, ⟨fun q => (hl 0 q).2.2.trans b0, fun q => absurd q (by omega)⟩, ⟨fun q => (hl 1 q).2.2.trans b1, fun q => absurd q (by omega)⟩, ⟨fun q => (hl 2 q).2.2.trans b2, fun q => absurd q (by omega)⟩, ⟨fun q => (hl 3 q).2.2.trans b3, fun q => absurd q (by omega)⟩, ⟨fun q => (hl 4 q).2.2.trans b4, fun q => absurd q (by omega)⟩, ⟨fun q => absurd q (by omega), fun _ => rfl⟩, ⟨fun q => absurd q (by omega), fun _ => rfl⟩, ⟨fun q => absurd q (by omega), fun _ => rfl⟩⟩
set_option maxHeartbeats 4000000 in
theorem w8_11 {f : Nat → Int} {z : Int} {x : Nat} (hx : (x : Int) ≤ z) (h : wordAt f z x) : W8 f z (lxA f z x) (lxN f z x) 101 114 114 97 110 100 0 0 ↔ lxT f z x = 267 := by
  have hN := lxN_le (f := f) hx
  obtain ⟨eT, eN⟩ := wordT h
  have hl : ∀ i : Nat, lxA f z x + i < lxN f z x → 97 ≤ ltA f z ((lxA f z x + i : Nat) : Int) ∧ ltA f z ((lxA f z x + i : Nat) : Int) ≤ 122 ∧ ltA f z ((lxA f z x + i : Nat) : Int) = f (lxA f z x + i) := by
    intro i hi
    have q := of_decide_eq_true (skp_all (P := ltr) 160 (lxA f z x) (lxA f z x + i) (by omega) (by rw [← eN]; exact hi))
    exact ⟨q.1, q.2, if_pos (by omega)⟩
  have hg : lxA f z x < lxN f z x := by
    have := wdT2 f (lxA f z x) (lxN f z x) 12
    exact hN.2.2 (by omega)
  generalize lxA f z x = A at *
  generalize lxN f z x = N at *
  constructor
  · intro hw
    obtain ⟨n8, t0, t1, t2, t3, t4, t5, t6, t7⟩ := hw
    have eL : N = A + 6 := by
      have g0 : A + 0 < N := by have := t0.2; omega
      have g1 : A + 1 < N := by have := t1.2; omega
      have g2 : A + 2 < N := by have := t2.2; omega
      have g3 : A + 3 < N := by have := t3.2; omega
      have g4 : A + 4 < N := by have := t4.2; omega
      have g5 : A + 5 < N := by have := t5.2; omega
      have gL : N ≤ A + 6 := by
        by_cases q : A + 6 < N
        · have := t6.1 q
          have := hl 6 q
          omega
        · omega
      omega
    have hm : wmB 12 f A N = true := by
      refine decide_eq_true ⟨by show N = A + 6; omega, fun i hi => ?_⟩
      have hi : i < 6 := hi
      match i, hi with
      | 0, _ => exact ((hl 0 (by omega)).2.2.symm.trans (t0.1 (by omega))).trans (by decide +kernel)
      | 1, _ => exact ((hl 1 (by omega)).2.2.symm.trans (t1.1 (by omega))).trans (by decide +kernel)
      | 2, _ => exact ((hl 2 (by omega)).2.2.symm.trans (t2.1 (by omega))).trans (by decide +kernel)
      | 3, _ => exact ((hl 3 (by omega)).2.2.symm.trans (t3.1 (by omega))).trans (by decide +kernel)
      | 4, _ => exact ((hl 4 (by omega)).2.2.symm.trans (t4.1 (by omega))).trans (by decide +kernel)
      | 5, _ => exact ((hl 5 (by omega)).2.2.symm.trans (t5.1 (by omega))).trans (by decide +kernel)
      | i + 6, hi => exact absurd hi (by omega)
    exact eT.trans (wdT_hit 12 11 (by omega) (by omega) hm)
  · intro hT
    have hm := of_decide_eq_true (wdT_of (f := f) (x := A) (y := N) 12 11 (by rw [← eT, hT]; rfl))
    have eL : N = A + 6 := hm.1
    have b0 : f (A + 0) = 101 := (hm.2 0 (by decide)).trans (by decide +kernel)
    have b1 : f (A + 1) = 114 := (hm.2 1 (by decide)).trans (by decide +kernel)
    have b2 : f (A + 2) = 114 := (hm.2 2 (by decide)).trans (by decide +kernel)
    have b3 : f (A + 3) = 97 := (hm.2 3 (by decide)).trans (by decide +kernel)
    have b4 : f (A + 4) = 110 := (hm.2 4 (by decide)).trans (by decide +kernel)
    have b5 : f (A + 5) = 100 := (hm.2 5 (by decide)).trans (by decide +kernel)
    exact ⟨by omega, ⟨fun q => (hl 0 q).2.2.trans b0, fun q => absurd q (by omega)⟩, ⟨fun q => (hl 1 q).2.2.trans b1, fun q => absurd q (by omega)⟩, ⟨fun q => (hl 2 q).2.2.trans b2, fun q => absurd q (by omega)⟩, ⟨fun q => (hl 3 q).2.2.trans b3, fun q => absurd q (by omega)⟩, ⟨fun q => (hl 4 q).2.2.trans b4, fun q => absurd q (by omega)⟩, ⟨fun q => (hl 5 q).2.2.trans b5, fun q => absurd q (by omega)⟩, ⟨fun q => absurd q (by omega), fun _ => rfl⟩, ⟨fun q => absurd q (by omega), fun _ => rfl⟩⟩
set_option maxRecDepth 20000 in
set_option maxHeartbeats 4000000 in
theorem sp_isLet {l : Launch} {g : Gw} {d n : Nat} {M : Mm} {Q : Option Wd → Mm → Prop} (hn : 90 ≤ n) (hd : 1 ≤ d) {t : Nat} {f : Nat → Int} {z : Int} (hP : TPm M t f z) {A N : Nat} (hA : M 69 23 = (A : Int)) (hN : M 69 21 = (N : Int)) (hA1 : A ≤ 200) (hN1 : N ≤ 200) (i : Nat) (hi : i < 8) (c : Int) (kt : LT8 f z A N i c → Q (some (0, 1)) M) (kf : ¬ LT8 f z A N i c → Q (some (0, 0)) M) : Wp l g d 0 0 n m_X8_isLetter 0 [] [(2, 69), (0, (i : Int)), (0, c)] M Q := by
  obtain ⟨hR, h19, ht6, h20, hz0, hz1, h70⟩ := id hP
  refine wp_aload_n dX8_isLetter_0 rfl rfl ?_
  refine wp_get 69 rfl fl_RX8_161 rfl ⟨by omega, by omega⟩ dX8_isLetter_1 rfl (v := ((A : Nat) : Int)) (hA) ?_
  refine wp_iload_n dX8_isLetter_4 rfl rfl ?_
  refine wp_iadd dX8_isLetter_5 (by omega) ?_
  refine wp_aload_n dX8_isLetter_6 rfl rfl ?_
  refine wp_get 69 rfl fl_RX8_155 rfl ⟨by omega, by omega⟩ dX8_isLetter_7 rfl (v := ((N : Nat) : Int)) (hN) ?_
  refine wp_icmp_ge (tgt := 35) dX8_isLetter_10 (by decide) (fun h10 => ?_) (fun h10 => ?_)
  · refine wp_iload_n dX8_isLetter_35 rfl rfl ?_
    refine wp_if_ne (tgt := 43) dX8_isLetter_36 (by decide) (fun h36 => ?_) (fun h36 => ?_)
    · refine wp_iconst dX8_isLetter_43 (by decide) ?_
      refine wp_zret rfl (by omega) dX8_isLetter_44 ?_
      exact kf (fun q => h36 (q.2 (by omega)))
    · refine wp_iconst dX8_isLetter_39 (by decide) ?_
      refine wp_goto (tgt := 44) dX8_isLetter_40 (by decide) ?_
      refine wp_zret rfl (by omega) dX8_isLetter_44 ?_
      exact kt ⟨fun q => by omega, fun q => by omega⟩
  · refine wp_aload_n dX8_isLetter_13 rfl rfl ?_
    refine wp_aload_n dX8_isLetter_14 rfl rfl ?_
    refine wp_get 69 rfl fl_RX8_161 rfl ⟨by omega, by omega⟩ dX8_isLetter_15 rfl (v := ((A : Nat) : Int)) (hA) ?_
    refine wp_iload_n dX8_isLetter_18 rfl rfl ?_
    refine wp_iadd dX8_isLetter_19 (by omega) ?_
    refine wp_callV0 (d' := d - 1) cv_RX8_158 69 rfl [(0, (((A : Nat) : Int) + (i : Int)))] [] rfl rfl (Or.inl ⟨_, _, rfl, by decide, rfl, by omega, by omega⟩) (by omega) (Nat.le_of_ble_eq_true rfl) dX8_isLetter_20 rfl (Nat.le_of_ble_eq_true rfl) (by omega) (loc1 := [(2, 69), (0, (((A : Nat) : Int) + (i : Int)))]) rfl ?_
    rw [show ((A : Nat) : Int) + (i : Int) = ((A + i : Nat) : Int) by omega]
    refine sp_byteAt hn hP (A + i) (by omega) ?_
    refine wp_iload_n dX8_isLetter_23 rfl rfl ?_
    refine wp_icmp_ne (tgt := 31) dX8_isLetter_24 (by decide) (fun h24 => ?_) (fun h24 => ?_)
    · refine wp_iconst dX8_isLetter_31 (by decide) ?_
      refine wp_goto (tgt := 44) dX8_isLetter_32 (by decide) ?_
      refine wp_zret rfl (by omega) dX8_isLetter_44 ?_
      exact kf (fun q => h24 (q.1 (by omega)))
    · refine wp_iconst dX8_isLetter_27 (by decide) ?_
      refine wp_goto (tgt := 44) dX8_isLetter_28 (by decide) ?_
      refine wp_zret rfl (by omega) dX8_isLetter_44 ?_
      exact kt ⟨fun q => by omega, fun q => by omega⟩
set_option maxRecDepth 20000 in
set_option maxHeartbeats 4000000 in
theorem sp_isW8 {l : Launch} {g : Gw} {d n : Nat} {M : Mm} {Q : Option Wd → Mm → Prop} (hn : 90 ≤ n) (hd : 2 ≤ d) {t : Nat} {f : Nat → Int} {z : Int} {x : Nat} {o : Int} {e : Int → Int} (hJ : RJm M t f z x o e) (hx : (x : Int) ≤ z) (a0 a1 a2 a3 a4 a5 a6 a7 : Int) (kt : M 69 22 = 1 ∧ W8 f z (lxA f z x) (lxN f z x) a0 a1 a2 a3 a4 a5 a6 a7 → Q (some (0, 1)) M) (kf : ¬ (M 69 22 = 1 ∧ W8 f z (lxA f z x) (lxN f z x) a0 a1 a2 a3 a4 a5 a6 a7) → Q (some (0, 0)) M) : Wp l g d 0 0 n m_X8_isWord 0 [] [(2, 69), (0, a0), (0, a1), (0, a2), (0, a3), (0, a4), (0, a5), (0, a6), (0, a7)] M Q := by
  have hR := hJ.1.1
  have hz1 := hJ.1.2.2.2.2.2.1
  have hNz := lxN_le (f := f) hx
  have hAz := lxA_le (f := f) hx
  refine wp_aload_n dX8_isWord_0 rfl rfl ?_
  refine wp_get 69 rfl fl_RX8_181 rfl ⟨by omega, by omega⟩ dX8_isWord_1 rfl (v := 0) (hJ.2.2.2.1) ?_
  refine wp_if_ne (tgt := 112) dX8_isWord_4 (by decide) (fun h => absurd h (by decide)) (fun _ => ?_)
  refine wp_aload_n dX8_isWord_7 rfl rfl ?_
  refine wp_get 69 rfl fl_RX8_164 rfl ⟨by omega, by omega⟩ dX8_isWord_8 rfl (v := (M 69 22)) (rfl) ?_
  refine wp_iconst dX8_isWord_11 (by decide) ?_
  refine wp_icmp_ne (tgt := 112) dX8_isWord_12 (by decide) (fun h12 => ?_) (fun h12 => ?_)
  · refine wp_iconst dX8_isWord_112 (by decide) ?_
    refine wp_zret rfl (by omega) dX8_isWord_113 ?_
    exact kf (fun q => h12 q.1)
  · have hw : M 69 22 = 1 := by omega
    have hN : M 69 21 = ((lxN f z x : Nat) : Int) := hJ.2.1.2.1 (by omega)
    refine wp_aload_n dX8_isWord_15 rfl rfl ?_
    refine wp_get 69 rfl fl_RX8_155 rfl ⟨by omega, by omega⟩ dX8_isWord_16 rfl (v := ((lxN f z x : Nat) : Int)) (hN) ?_
    refine wp_aload_n dX8_isWord_19 rfl rfl ?_
    refine wp_get 69 rfl fl_RX8_161 rfl ⟨by omega, by omega⟩ dX8_isWord_20 rfl (v := ((lxA f z x : Nat) : Int)) (hJ.2.1.1) ?_
    refine wp_bipush dX8_isWord_23 (by decide) (by decide) ?_
    refine wp_iadd dX8_isWord_25 (by omega) ?_
    refine wp_icmp_gt (tgt := 112) dX8_isWord_26 (by decide) (fun h26 => ?_) (fun h26 => ?_)
    · refine wp_iconst dX8_isWord_112 (by decide) ?_
      refine wp_zret rfl (by omega) dX8_isWord_113 ?_
      exact kf (fun q => by have := q.2.1; omega)
    · refine wp_aload_n dX8_isWord_29 rfl rfl ?_
      refine wp_iconst dX8_isWord_30 (by decide) ?_
      refine wp_iload_n dX8_isWord_31 rfl rfl ?_
      refine wp_callV0 (d' := d - 1) cv_RX8_188 69 rfl [(0, 0), (0, a0)] [] rfl rfl (Or.inl ⟨_, _, rfl, by decide, rfl, by omega, by omega⟩) (by omega) (Nat.le_of_ble_eq_true rfl) dX8_isWord_32 rfl (Nat.le_of_ble_eq_true rfl) (by omega) (loc1 := [(2, 69), (0, 0), (0, a0)]) rfl ?_
      refine sp_isLet hn (by omega) hJ.1 hJ.2.1.1 hN (by omega) (by omega) 0 (by decide) a0 (fun g0 => ?_) (fun g0 => ?_)
      · refine wp_if_eq (tgt := 112) dX8_isWord_35 (by decide) (fun h => absurd h (by decide)) (fun _ => ?_)
        refine wp_aload_n dX8_isWord_38 rfl rfl ?_
        refine wp_iconst dX8_isWord_39 (by decide) ?_
        refine wp_iload_n dX8_isWord_40 rfl rfl ?_
        refine wp_callV0 (d' := d - 1) cv_RX8_188 69 rfl [(0, 1), (0, a1)] [] rfl rfl (Or.inl ⟨_, _, rfl, by decide, rfl, by omega, by omega⟩) (by omega) (Nat.le_of_ble_eq_true rfl) dX8_isWord_41 rfl (Nat.le_of_ble_eq_true rfl) (by omega) (loc1 := [(2, 69), (0, 1), (0, a1)]) rfl ?_
        refine sp_isLet hn (by omega) hJ.1 hJ.2.1.1 hN (by omega) (by omega) 1 (by decide) a1 (fun g1 => ?_) (fun g1 => ?_)
        · refine wp_if_eq (tgt := 112) dX8_isWord_44 (by decide) (fun h => absurd h (by decide)) (fun _ => ?_)
          refine wp_aload_n dX8_isWord_47 rfl rfl ?_
          refine wp_iconst dX8_isWord_48 (by decide) ?_
          refine wp_iload_n dX8_isWord_49 rfl rfl ?_
          refine wp_callV0 (d' := d - 1) cv_RX8_188 69 rfl [(0, 2), (0, a2)] [] rfl rfl (Or.inl ⟨_, _, rfl, by decide, rfl, by omega, by omega⟩) (by omega) (Nat.le_of_ble_eq_true rfl) dX8_isWord_50 rfl (Nat.le_of_ble_eq_true rfl) (by omega) (loc1 := [(2, 69), (0, 2), (0, a2)]) rfl ?_
          refine sp_isLet hn (by omega) hJ.1 hJ.2.1.1 hN (by omega) (by omega) 2 (by decide) a2 (fun g2 => ?_) (fun g2 => ?_)
          · refine wp_if_eq (tgt := 112) dX8_isWord_53 (by decide) (fun h => absurd h (by decide)) (fun _ => ?_)
            refine wp_aload_n dX8_isWord_56 rfl rfl ?_
            refine wp_iconst dX8_isWord_57 (by decide) ?_
            refine wp_iload dX8_isWord_58 rfl ?_
            refine wp_callV0 (d' := d - 1) cv_RX8_188 69 rfl [(0, 3), (0, a3)] [] rfl rfl (Or.inl ⟨_, _, rfl, by decide, rfl, by omega, by omega⟩) (by omega) (Nat.le_of_ble_eq_true rfl) dX8_isWord_60 rfl (Nat.le_of_ble_eq_true rfl) (by omega) (loc1 := [(2, 69), (0, 3), (0, a3)]) rfl ?_
            refine sp_isLet hn (by omega) hJ.1 hJ.2.1.1 hN (by omega) (by omega) 3 (by decide) a3 (fun g3 => ?_) (fun g3 => ?_)
            · refine wp_if_eq (tgt := 112) dX8_isWord_63 (by decide) (fun h => absurd h (by decide)) (fun _ => ?_)
              refine wp_aload_n dX8_isWord_66 rfl rfl ?_
              refine wp_iconst dX8_isWord_67 (by decide) ?_
              refine wp_iload dX8_isWord_68 rfl ?_
              refine wp_callV0 (d' := d - 1) cv_RX8_188 69 rfl [(0, 4), (0, a4)] [] rfl rfl (Or.inl ⟨_, _, rfl, by decide, rfl, by omega, by omega⟩) (by omega) (Nat.le_of_ble_eq_true rfl) dX8_isWord_70 rfl (Nat.le_of_ble_eq_true rfl) (by omega) (loc1 := [(2, 69), (0, 4), (0, a4)]) rfl ?_
              refine sp_isLet hn (by omega) hJ.1 hJ.2.1.1 hN (by omega) (by omega) 4 (by decide) a4 (fun g4 => ?_) (fun g4 => ?_)
              · refine wp_if_eq (tgt := 112) dX8_isWord_73 (by decide) (fun h => absurd h (by decide)) (fun _ => ?_)
                refine wp_aload_n dX8_isWord_76 rfl rfl ?_
                refine wp_iconst dX8_isWord_77 (by decide) ?_
                refine wp_iload dX8_isWord_78 rfl ?_
                refine wp_callV0 (d' := d - 1) cv_RX8_188 69 rfl [(0, 5), (0, a5)] [] rfl rfl (Or.inl ⟨_, _, rfl, by decide, rfl, by omega, by omega⟩) (by omega) (Nat.le_of_ble_eq_true rfl) dX8_isWord_80 rfl (Nat.le_of_ble_eq_true rfl) (by omega) (loc1 := [(2, 69), (0, 5), (0, a5)]) rfl ?_
                refine sp_isLet hn (by omega) hJ.1 hJ.2.1.1 hN (by omega) (by omega) 5 (by decide) a5 (fun g5 => ?_) (fun g5 => ?_)
                · refine wp_if_eq (tgt := 112) dX8_isWord_83 (by decide) (fun h => absurd h (by decide)) (fun _ => ?_)
                  refine wp_aload_n dX8_isWord_86 rfl rfl ?_
                  refine wp_bipush dX8_isWord_87 (by decide) (by decide) ?_
                  refine wp_iload dX8_isWord_89 rfl ?_
                  refine wp_callV0 (d' := d - 1) cv_RX8_188 69 rfl [(0, 6), (0, a6)] [] rfl rfl (Or.inl ⟨_, _, rfl, by decide, rfl, by omega, by omega⟩) (by omega) (Nat.le_of_ble_eq_true rfl) dX8_isWord_91 rfl (Nat.le_of_ble_eq_true rfl) (by omega) (loc1 := [(2, 69), (0, 6), (0, a6)]) rfl ?_
                  refine sp_isLet hn (by omega) hJ.1 hJ.2.1.1 hN (by omega) (by omega) 6 (by decide) a6 (fun g6 => ?_) (fun g6 => ?_)
                  · refine wp_if_eq (tgt := 112) dX8_isWord_94 (by decide) (fun h => absurd h (by decide)) (fun _ => ?_)
                    refine wp_aload_n dX8_isWord_97 rfl rfl ?_
                    refine wp_bipush dX8_isWord_98 (by decide) (by decide) ?_
                    refine wp_iload dX8_isWord_100 rfl ?_
                    refine wp_callV0 (d' := d - 1) cv_RX8_188 69 rfl [(0, 7), (0, a7)] [] rfl rfl (Or.inl ⟨_, _, rfl, by decide, rfl, by omega, by omega⟩) (by omega) (Nat.le_of_ble_eq_true rfl) dX8_isWord_102 rfl (Nat.le_of_ble_eq_true rfl) (by omega) (loc1 := [(2, 69), (0, 7), (0, a7)]) rfl ?_
                    refine sp_isLet hn (by omega) hJ.1 hJ.2.1.1 hN (by omega) (by omega) 7 (by decide) a7 (fun g7 => ?_) (fun g7 => ?_)
                    · refine wp_if_eq (tgt := 112) dX8_isWord_105 (by decide) (fun h => absurd h (by decide)) (fun _ => ?_)
                      refine wp_iconst dX8_isWord_108 (by decide) ?_
                      refine wp_goto (tgt := 113) dX8_isWord_109 (by decide) ?_
                      refine wp_zret rfl (by omega) dX8_isWord_113 ?_
                      exact kt ⟨hw, by omega, g0, g1, g2, g3, g4, g5, g6, g7⟩
                    · refine wp_if_eq (tgt := 112) dX8_isWord_105 (by decide) (fun _ => ?_) (fun h => absurd h (by decide))
                      refine wp_iconst dX8_isWord_112 (by decide) ?_
                      refine wp_zret rfl (by omega) dX8_isWord_113 ?_
                      exact kf (fun q => by first | exact g7 q.2.2.2.2.2.2.2.2.2 | exact g6 q.2.2.2.2.2.2.2.2.1 | exact g5 q.2.2.2.2.2.2.2.1 | exact g4 q.2.2.2.2.2.2.1 | exact g3 q.2.2.2.2.2.1 | exact g2 q.2.2.2.2.1 | exact g1 q.2.2.2.1 | exact g0 q.2.2.1)
                  · refine wp_if_eq (tgt := 112) dX8_isWord_94 (by decide) (fun _ => ?_) (fun h => absurd h (by decide))
                    refine wp_iconst dX8_isWord_112 (by decide) ?_
                    refine wp_zret rfl (by omega) dX8_isWord_113 ?_
                    exact kf (fun q => by first | exact g7 q.2.2.2.2.2.2.2.2.2 | exact g6 q.2.2.2.2.2.2.2.2.1 | exact g5 q.2.2.2.2.2.2.2.1 | exact g4 q.2.2.2.2.2.2.1 | exact g3 q.2.2.2.2.2.1 | exact g2 q.2.2.2.2.1 | exact g1 q.2.2.2.1 | exact g0 q.2.2.1)
                · refine wp_if_eq (tgt := 112) dX8_isWord_83 (by decide) (fun _ => ?_) (fun h => absurd h (by decide))
                  refine wp_iconst dX8_isWord_112 (by decide) ?_
                  refine wp_zret rfl (by omega) dX8_isWord_113 ?_
                  exact kf (fun q => by first | exact g7 q.2.2.2.2.2.2.2.2.2 | exact g6 q.2.2.2.2.2.2.2.2.1 | exact g5 q.2.2.2.2.2.2.2.1 | exact g4 q.2.2.2.2.2.2.1 | exact g3 q.2.2.2.2.2.1 | exact g2 q.2.2.2.2.1 | exact g1 q.2.2.2.1 | exact g0 q.2.2.1)
              · refine wp_if_eq (tgt := 112) dX8_isWord_73 (by decide) (fun _ => ?_) (fun h => absurd h (by decide))
                refine wp_iconst dX8_isWord_112 (by decide) ?_
                refine wp_zret rfl (by omega) dX8_isWord_113 ?_
                exact kf (fun q => by first | exact g7 q.2.2.2.2.2.2.2.2.2 | exact g6 q.2.2.2.2.2.2.2.2.1 | exact g5 q.2.2.2.2.2.2.2.1 | exact g4 q.2.2.2.2.2.2.1 | exact g3 q.2.2.2.2.2.1 | exact g2 q.2.2.2.2.1 | exact g1 q.2.2.2.1 | exact g0 q.2.2.1)
            · refine wp_if_eq (tgt := 112) dX8_isWord_63 (by decide) (fun _ => ?_) (fun h => absurd h (by decide))
              refine wp_iconst dX8_isWord_112 (by decide) ?_
              refine wp_zret rfl (by omega) dX8_isWord_113 ?_
              exact kf (fun q => by first | exact g7 q.2.2.2.2.2.2.2.2.2 | exact g6 q.2.2.2.2.2.2.2.2.1 | exact g5 q.2.2.2.2.2.2.2.1 | exact g4 q.2.2.2.2.2.2.1 | exact g3 q.2.2.2.2.2.1 | exact g2 q.2.2.2.2.1 | exact g1 q.2.2.2.1 | exact g0 q.2.2.1)
          · refine wp_if_eq (tgt := 112) dX8_isWord_53 (by decide) (fun _ => ?_) (fun h => absurd h (by decide))
            refine wp_iconst dX8_isWord_112 (by decide) ?_
            refine wp_zret rfl (by omega) dX8_isWord_113 ?_
            exact kf (fun q => by first | exact g7 q.2.2.2.2.2.2.2.2.2 | exact g6 q.2.2.2.2.2.2.2.2.1 | exact g5 q.2.2.2.2.2.2.2.1 | exact g4 q.2.2.2.2.2.2.1 | exact g3 q.2.2.2.2.2.1 | exact g2 q.2.2.2.2.1 | exact g1 q.2.2.2.1 | exact g0 q.2.2.1)
        · refine wp_if_eq (tgt := 112) dX8_isWord_44 (by decide) (fun _ => ?_) (fun h => absurd h (by decide))
          refine wp_iconst dX8_isWord_112 (by decide) ?_
          refine wp_zret rfl (by omega) dX8_isWord_113 ?_
          exact kf (fun q => by first | exact g7 q.2.2.2.2.2.2.2.2.2 | exact g6 q.2.2.2.2.2.2.2.2.1 | exact g5 q.2.2.2.2.2.2.2.1 | exact g4 q.2.2.2.2.2.2.1 | exact g3 q.2.2.2.2.2.1 | exact g2 q.2.2.2.2.1 | exact g1 q.2.2.2.1 | exact g0 q.2.2.1)
      · refine wp_if_eq (tgt := 112) dX8_isWord_35 (by decide) (fun _ => ?_) (fun h => absurd h (by decide))
        refine wp_iconst dX8_isWord_112 (by decide) ?_
        refine wp_zret rfl (by omega) dX8_isWord_113 ?_
        exact kf (fun q => by first | exact g7 q.2.2.2.2.2.2.2.2.2 | exact g6 q.2.2.2.2.2.2.2.2.1 | exact g5 q.2.2.2.2.2.2.2.1 | exact g4 q.2.2.2.2.2.2.1 | exact g3 q.2.2.2.2.2.1 | exact g2 q.2.2.2.2.1 | exact g1 q.2.2.2.1 | exact g0 q.2.2.1)
theorem sp_isWm_0 {l : Launch} {g : Gw} {d n : Nat} {M : Mm} {Q : Option Wd → Mm → Prop} (hn : 90 ≤ n) (hd : 2 ≤ d) {t : Nat} {f : Nat → Int} {z : Int} {x : Nat} {o : Int} {e : Int → Int} (hJ : RJm M t f z x o e) (hx : (x : Int) ≤ z) (kt : lxT f z x = 256 → Q (some (0, 1)) M) (kf : lxT f z x ≠ 256 → Q (some (0, 0)) M) : Wp l g d 0 0 n m_X8_isWord 0 [] [(2, 69), (0, 109), (0, 105), (0, 110), (0, 100), (0, 115), (0, 0), (0, 0), (0, 0)] M Q := by
  refine sp_isW8 hn hd hJ hx 109 105 110 100 115 0 0 0 (fun q => kt ((w8_0 hx (hJ.2.1.2.2.wd q.1)).mp q.2)) (fun q => kf (fun h => ?_))
  by_cases c : M 69 22 = 1
  · exact q ⟨c, (w8_0 hx (hJ.2.1.2.2.wd c)).mpr h⟩
  · have := hJ.2.1.2.2.word c
    omega
theorem sp_isWm_1 {l : Launch} {g : Gw} {d n : Nat} {M : Mm} {Q : Option Wd → Mm → Prop} (hn : 90 ≤ n) (hd : 2 ≤ d) {t : Nat} {f : Nat → Int} {z : Int} {x : Nat} {o : Int} {e : Int → Int} (hJ : RJm M t f z x o e) (hx : (x : Int) ≤ z) (kt : lxT f z x = 257 → Q (some (0, 1)) M) (kf : lxT f z x ≠ 257 → Q (some (0, 0)) M) : Wp l g d 0 0 n m_X8_isWord 0 [] [(2, 69), (0, 108), (0, 97), (0, 115), (0, 116), (0, 115), (0, 0), (0, 0), (0, 0)] M Q := by
  refine sp_isW8 hn hd hJ hx 108 97 115 116 115 0 0 0 (fun q => kt ((w8_1 hx (hJ.2.1.2.2.wd q.1)).mp q.2)) (fun q => kf (fun h => ?_))
  by_cases c : M 69 22 = 1
  · exact q ⟨c, (w8_1 hx (hJ.2.1.2.2.wd c)).mpr h⟩
  · have := hJ.2.1.2.2.word c
    omega
theorem sp_isWm_2 {l : Launch} {g : Gw} {d n : Nat} {M : Mm} {Q : Option Wd → Mm → Prop} (hn : 90 ≤ n) (hd : 2 ≤ d) {t : Nat} {f : Nat → Int} {z : Int} {x : Nat} {o : Int} {e : Int → Int} (hJ : RJm M t f z x o e) (hx : (x : Int) ≤ z) (kt : lxT f z x = 258 → Q (some (0, 1)) M) (kf : lxT f z x ≠ 258 → Q (some (0, 0)) M) : Wp l g d 0 0 n m_X8_isWord 0 [] [(2, 69), (0, 105), (0, 114), (0, 107), (0, 115), (0, 0), (0, 0), (0, 0), (0, 0)] M Q := by
  refine sp_isW8 hn hd hJ hx 105 114 107 115 0 0 0 0 (fun q => kt ((w8_2 hx (hJ.2.1.2.2.wd q.1)).mp q.2)) (fun q => kf (fun h => ?_))
  by_cases c : M 69 22 = 1
  · exact q ⟨c, (w8_2 hx (hJ.2.1.2.2.wd c)).mpr h⟩
  · have := hJ.2.1.2.2.word c
    omega
theorem sp_isWm_3 {l : Launch} {g : Gw} {d n : Nat} {M : Mm} {Q : Option Wd → Mm → Prop} (hn : 90 ≤ n) (hd : 2 ≤ d) {t : Nat} {f : Nat → Int} {z : Int} {x : Nat} {o : Int} {e : Int → Int} (hJ : RJm M t f z x o e) (hx : (x : Int) ≤ z) (kt : lxT f z x = 259 → Q (some (0, 1)) M) (kf : lxT f z x ≠ 259 → Q (some (0, 0)) M) : Wp l g d 0 0 n m_X8_isWord 0 [] [(2, 69), (0, 111), (0, 114), (0, 0), (0, 0), (0, 0), (0, 0), (0, 0), (0, 0)] M Q := by
  refine sp_isW8 hn hd hJ hx 111 114 0 0 0 0 0 0 (fun q => kt ((w8_3 hx (hJ.2.1.2.2.wd q.1)).mp q.2)) (fun q => kf (fun h => ?_))
  by_cases c : M 69 22 = 1
  · exact q ⟨c, (w8_3 hx (hJ.2.1.2.2.wd c)).mpr h⟩
  · have := hJ.2.1.2.2.word c
    omega
theorem sp_isWm_4 {l : Launch} {g : Gw} {d n : Nat} {M : Mm} {Q : Option Wd → Mm → Prop} (hn : 90 ≤ n) (hd : 2 ≤ d) {t : Nat} {f : Nat → Int} {z : Int} {x : Nat} {o : Int} {e : Int → Int} (hJ : RJm M t f z x o e) (hx : (x : Int) ≤ z) (kt : lxT f z x = 260 → Q (some (0, 1)) M) (kf : lxT f z x ≠ 260 → Q (some (0, 0)) M) : Wp l g d 0 0 n m_X8_isWord 0 [] [(2, 69), (0, 97), (0, 110), (0, 100), (0, 0), (0, 0), (0, 0), (0, 0), (0, 0)] M Q := by
  refine sp_isW8 hn hd hJ hx 97 110 100 0 0 0 0 0 (fun q => kt ((w8_4 hx (hJ.2.1.2.2.wd q.1)).mp q.2)) (fun q => kf (fun h => ?_))
  by_cases c : M 69 22 = 1
  · exact q ⟨c, (w8_4 hx (hJ.2.1.2.2.wd c)).mpr h⟩
  · have := hJ.2.1.2.2.word c
    omega
theorem sp_isWm_5 {l : Launch} {g : Gw} {d n : Nat} {M : Mm} {Q : Option Wd → Mm → Prop} (hn : 90 ≤ n) (hd : 2 ≤ d) {t : Nat} {f : Nat → Int} {z : Int} {x : Nat} {o : Int} {e : Int → Int} (hJ : RJm M t f z x o e) (hx : (x : Int) ≤ z) (kt : lxT f z x = 261 → Q (some (0, 1)) M) (kf : lxT f z x ≠ 261 → Q (some (0, 0)) M) : Wp l g d 0 0 n m_X8_isWord 0 [] [(2, 69), (0, 110), (0, 111), (0, 116), (0, 0), (0, 0), (0, 0), (0, 0), (0, 0)] M Q := by
  refine sp_isW8 hn hd hJ hx 110 111 116 0 0 0 0 0 (fun q => kt ((w8_5 hx (hJ.2.1.2.2.wd q.1)).mp q.2)) (fun q => kf (fun h => ?_))
  by_cases c : M 69 22 = 1
  · exact q ⟨c, (w8_5 hx (hJ.2.1.2.2.wd c)).mpr h⟩
  · have := hJ.2.1.2.2.word c
    omega
theorem sp_isWm_6 {l : Launch} {g : Gw} {d n : Nat} {M : Mm} {Q : Option Wd → Mm → Prop} (hn : 90 ≤ n) (hd : 2 ≤ d) {t : Nat} {f : Nat → Int} {z : Int} {x : Nat} {o : Int} {e : Int → Int} (hJ : RJm M t f z x o e) (hx : (x : Int) ≤ z) (kt : lxT f z x = 262 → Q (some (0, 1)) M) (kf : lxT f z x ≠ 262 → Q (some (0, 0)) M) : Wp l g d 0 0 n m_X8_isWord 0 [] [(2, 69), (0, 108), (0, 105), (0, 107), (0, 101), (0, 100), (0, 0), (0, 0), (0, 0)] M Q := by
  refine sp_isW8 hn hd hJ hx 108 105 107 101 100 0 0 0 (fun q => kt ((w8_6 hx (hJ.2.1.2.2.wd q.1)).mp q.2)) (fun q => kf (fun h => ?_))
  by_cases c : M 69 22 = 1
  · exact q ⟨c, (w8_6 hx (hJ.2.1.2.2.wd c)).mpr h⟩
  · have := hJ.2.1.2.2.word c
    omega
theorem sp_isWm_7 {l : Launch} {g : Gw} {d n : Nat} {M : Mm} {Q : Option Wd → Mm → Prop} (hn : 90 ≤ n) (hd : 2 ≤ d) {t : Nat} {f : Nat → Int} {z : Int} {x : Nat} {o : Int} {e : Int → Int} (hJ : RJm M t f z x o e) (hx : (x : Int) ≤ z) (kt : lxT f z x = 263 → Q (some (0, 1)) M) (kf : lxT f z x ≠ 263 → Q (some (0, 0)) M) : Wp l g d 0 0 n m_X8_isWord 0 [] [(2, 69), (0, 110), (0, 117), (0, 109), (0, 98), (0, 101), (0, 114), (0, 0), (0, 0)] M Q := by
  refine sp_isW8 hn hd hJ hx 110 117 109 98 101 114 0 0 (fun q => kt ((w8_7 hx (hJ.2.1.2.2.wd q.1)).mp q.2)) (fun q => kf (fun h => ?_))
  by_cases c : M 69 22 = 1
  · exact q ⟨c, (w8_7 hx (hJ.2.1.2.2.wd c)).mpr h⟩
  · have := hJ.2.1.2.2.word c
    omega
theorem sp_isWm_8 {l : Launch} {g : Gw} {d n : Nat} {M : Mm} {Q : Option Wd → Mm → Prop} (hn : 90 ≤ n) (hd : 2 ≤ d) {t : Nat} {f : Nat → Int} {z : Int} {x : Nat} {o : Int} {e : Int → Int} (hJ : RJm M t f z x o e) (hx : (x : Int) ≤ z) (kt : lxT f z x = 264 → Q (some (0, 1)) M) (kf : lxT f z x ≠ 264 → Q (some (0, 0)) M) : Wp l g d 0 0 n m_X8_isWord 0 [] [(2, 69), (0, 116), (0, 104), (0, 101), (0, 105), (0, 114), (0, 115), (0, 0), (0, 0)] M Q := by
  refine sp_isW8 hn hd hJ hx 116 104 101 105 114 115 0 0 (fun q => kt ((w8_8 hx (hJ.2.1.2.2.wd q.1)).mp q.2)) (fun q => kf (fun h => ?_))
  by_cases c : M 69 22 = 1
  · exact q ⟨c, (w8_8 hx (hJ.2.1.2.2.wd c)).mpr h⟩
  · have := hJ.2.1.2.2.word c
    omega
theorem sp_isWm_9 {l : Launch} {g : Gw} {d n : Nat} {M : Mm} {Q : Option Wd → Mm → Prop} (hn : 90 ≤ n) (hd : 2 ≤ d) {t : Nat} {f : Nat → Int} {z : Int} {x : Nat} {o : Int} {e : Int → Int} (hJ : RJm M t f z x o e) (hx : (x : Int) ≤ z) (kt : lxT f z x = 265 → Q (some (0, 1)) M) (kf : lxT f z x ≠ 265 → Q (some (0, 0)) M) : Wp l g d 0 0 n m_X8_isWord 0 [] [(2, 69), (0, 109), (0, 105), (0, 110), (0, 117), (0, 116), (0, 101), (0, 0), (0, 0)] M Q := by
  refine sp_isW8 hn hd hJ hx 109 105 110 117 116 101 0 0 (fun q => kt ((w8_9 hx (hJ.2.1.2.2.wd q.1)).mp q.2)) (fun q => kf (fun h => ?_))
  by_cases c : M 69 22 = 1
  · exact q ⟨c, (w8_9 hx (hJ.2.1.2.2.wd c)).mpr h⟩
  · have := hJ.2.1.2.2.word c
    omega
theorem sp_isWm_10 {l : Launch} {g : Gw} {d n : Nat} {M : Mm} {Q : Option Wd → Mm → Prop} (hn : 90 ≤ n) (hd : 2 ≤ d) {t : Nat} {f : Nat → Int} {z : Int} {x : Nat} {o : Int} {e : Int → Int} (hJ : RJm M t f z x o e) (hx : (x : Int) ≤ z) (kt : lxT f z x = 266 → Q (some (0, 1)) M) (kf : lxT f z x ≠ 266 → Q (some (0, 0)) M) : Wp l g d 0 0 n m_X8_isWord 0 [] [(2, 69), (0, 103), (0, 105), (0, 102), (0, 116), (0, 115), (0, 0), (0, 0), (0, 0)] M Q := by
  refine sp_isW8 hn hd hJ hx 103 105 102 116 115 0 0 0 (fun q => kt ((w8_10 hx (hJ.2.1.2.2.wd q.1)).mp q.2)) (fun q => kf (fun h => ?_))
  by_cases c : M 69 22 = 1
  · exact q ⟨c, (w8_10 hx (hJ.2.1.2.2.wd c)).mpr h⟩
  · have := hJ.2.1.2.2.word c
    omega
theorem sp_isWm_11 {l : Launch} {g : Gw} {d n : Nat} {M : Mm} {Q : Option Wd → Mm → Prop} (hn : 90 ≤ n) (hd : 2 ≤ d) {t : Nat} {f : Nat → Int} {z : Int} {x : Nat} {o : Int} {e : Int → Int} (hJ : RJm M t f z x o e) (hx : (x : Int) ≤ z) (kt : lxT f z x = 267 → Q (some (0, 1)) M) (kf : lxT f z x ≠ 267 → Q (some (0, 0)) M) : Wp l g d 0 0 n m_X8_isWord 0 [] [(2, 69), (0, 101), (0, 114), (0, 114), (0, 97), (0, 110), (0, 100), (0, 0), (0, 0)] M Q := by
  refine sp_isW8 hn hd hJ hx 101 114 114 97 110 100 0 0 (fun q => kt ((w8_11 hx (hJ.2.1.2.2.wd q.1)).mp q.2)) (fun q => kf (fun h => ?_))
  by_cases c : M 69 22 = 1
  · exact q ⟨c, (w8_11 hx (hJ.2.1.2.2.wd c)).mpr h⟩
  · have := hJ.2.1.2.2.word c
    omega
set_option maxRecDepth 20000 in
set_option maxHeartbeats 4000000 in
theorem sp_isWd {l : Launch} {g : Gw} {d n : Nat} {M : Mm} {Q : Option Wd → Mm → Prop} (hn : 90 ≤ n) {t : Nat} {f : Nat → Int} {z : Int} {p : Nat} {o : Int} {e : Int → Int} (hD : DJm M t f z p o e) {a0 a1 a2 a3 a4 a5 a6 a7 : Int} (k : Q (some (0, 0)) M) : Wp l g d 0 0 n m_X8_isWord 0 [] [(2, 69), (0, a0), (0, a1), (0, a2), (0, a3), (0, a4), (0, a5), (0, a6), (0, a7)] M Q := by
  have hR := hD.1.1
  refine wp_aload_n dX8_isWord_0 rfl rfl ?_
  refine wp_get 69 rfl fl_RX8_181 rfl ⟨by omega, by omega⟩ dX8_isWord_1 rfl (v := 1) (hD.2.2.1) ?_
  refine wp_if_ne (tgt := 112) dX8_isWord_4 (by decide) (fun _ => ?_) (fun h => absurd h (by decide))
  refine wp_iconst dX8_isWord_112 (by decide) ?_
  refine wp_zret rfl (by omega) dX8_isWord_113 ?_
  exact k
set_option maxRecDepth 20000 in
set_option maxHeartbeats 4000000 in
theorem sp_isSg {l : Launch} {g : Gw} {d n : Nat} {M : Mm} {Q : Option Wd → Mm → Prop} (hn : 90 ≤ n) {t : Nat} {f : Nat → Int} {z : Int} {x : Nat} {o : Int} {e : Int → Int} (hJ : RJm M t f z x o e) (s : Int) (hs : 40 ≤ s ∧ s ≤ 61) (kt : lxT f z x = s → Q (some (0, 1)) M) (kf : lxT f z x ≠ s → Q (some (0, 0)) M) : Wp l g d 0 0 n m_X8_isSign 0 [] [(2, 69), (0, s)] M Q := by
  have hR := hJ.1.1
  have hg := hJ.2.1.2.2.sgn (s := s) hs
  refine wp_aload_n dX8_isSign_0 rfl rfl ?_
  refine wp_get 69 rfl fl_RX8_181 rfl ⟨by omega, by omega⟩ dX8_isSign_1 rfl (v := 0) (hJ.2.2.2.1) ?_
  refine wp_if_ne (tgt := 29) dX8_isSign_4 (by decide) (fun h => absurd h (by decide)) (fun _ => ?_)
  refine wp_aload_n dX8_isSign_7 rfl rfl ?_
  refine wp_get 69 rfl fl_RX8_164 rfl ⟨by omega, by omega⟩ dX8_isSign_8 rfl (v := (M 69 22)) (rfl) ?_
  refine wp_iconst dX8_isSign_11 (by decide) ?_
  refine wp_icmp_ne (tgt := 29) dX8_isSign_12 (by decide) (fun h12 => ?_) (fun h12 => ?_)
  · refine wp_iconst dX8_isSign_29 (by decide) ?_
    refine wp_zret rfl (by omega) dX8_isSign_30 ?_
    exact kf (fun h => by have q := hg.mpr h; first | omega | exact absurd (lcp_eq.mpr q.2) h22)
  · refine wp_aload_n dX8_isSign_15 rfl rfl ?_
    refine wp_get 69 rfl fl_RX8_175 rfl ⟨by omega, by omega⟩ dX8_isSign_16 rfl (v := (M 69 24)) (rfl) ?_
    refine wp_iload_n dX8_isSign_19 rfl rfl ?_
    refine wp_i2l dX8_isSign_20 ?_
    refine wp_lcmp dX8_isSign_21 ?_
    refine wp_if_ne (tgt := 29) dX8_isSign_22 (by decide) (fun h22 => ?_) (fun h22 => ?_)
    · refine wp_iconst dX8_isSign_29 (by decide) ?_
      refine wp_zret rfl (by omega) dX8_isSign_30 ?_
      exact kf (fun h => by have q := hg.mpr h; first | omega | exact absurd (lcp_eq.mpr q.2) h22)
    · refine wp_iconst dX8_isSign_25 (by decide) ?_
      refine wp_goto (tgt := 30) dX8_isSign_26 (by decide) ?_
      refine wp_zret rfl (by omega) dX8_isSign_30 ?_
      exact kt (hg.mp ⟨by omega, lcp_eq.mp (by omega)⟩)
set_option maxRecDepth 20000 in
set_option maxHeartbeats 4000000 in
theorem sp_isSd {l : Launch} {g : Gw} {d n : Nat} {M : Mm} {Q : Option Wd → Mm → Prop} (hn : 90 ≤ n) {t : Nat} {f : Nat → Int} {z : Int} {p : Nat} {o : Int} {e : Int → Int} (hD : DJm M t f z p o e) {s : Int} (k : Q (some (0, 0)) M) : Wp l g d 0 0 n m_X8_isSign 0 [] [(2, 69), (0, s)] M Q := by
  have hR := hD.1.1
  refine wp_aload_n dX8_isSign_0 rfl rfl ?_
  refine wp_get 69 rfl fl_RX8_181 rfl ⟨by omega, by omega⟩ dX8_isSign_1 rfl (v := 1) (hD.2.2.1) ?_
  refine wp_if_ne (tgt := 29) dX8_isSign_4 (by decide) (fun _ => ?_) (fun h => absurd h (by decide))
  refine wp_iconst dX8_isSign_29 (by decide) ?_
  refine wp_zret rfl (by omega) dX8_isSign_30 ?_
  exact k
set_option maxRecDepth 20000 in
set_option maxHeartbeats 4000000 in
theorem sp_failm {l : Launch} {g : Gw} {d n : Nat} {M : Mm} {Q : Option Wd → Mm → Prop} (hn : 90 ≤ n) {t : Nat} {f : Nat → Int} {z : Int} {x : Nat} {o : Int} {e : Int → Int} (hJ : RJm M t f z x o e) (k : ∀ M', DJm M' t f z (lxA f z x) o e → Fr VMr M M' → Q none M') : Wp l g d 0 0 n m_X8_fail 0 [] [(2, 69)] M Q := by
  have hR := hJ.1.1
  refine wp_aload_n dX8_fail_0 rfl rfl ?_
  refine wp_get 69 rfl fl_RX8_181 rfl ⟨by omega, by omega⟩ dX8_fail_1 rfl (v := 0) (hJ.2.2.2.1) ?_
  refine wp_if_ne (tgt := 20) dX8_fail_4 (by decide) (fun h => absurd h (by decide)) (fun _ => ?_)
  refine wp_aload_n dX8_fail_7 rfl rfl ?_
  refine wp_iconst dX8_fail_8 (by decide) ?_
  refine wp_putz 69 rfl fl_RX8_181 rfl ⟨by omega, by omega⟩ dX8_fail_9 rfl rfl (by omega) ?_
  refine wp_aload_n dX8_fail_12 rfl rfl ?_
  refine wp_aload_n dX8_fail_13 rfl rfl ?_
  refine wp_get 69 rfl fl_RX8_161 rfl ⟨by omega, by omega⟩ dX8_fail_14 rfl (v := (M 69 23)) (rfl) ?_
  refine wp_puti 69 rfl fl_RX8_185 rfl ⟨by omega, by omega⟩ dX8_fail_17 rfl rfl ?_
  refine wp_vret rfl dX8_fail_20 ?_
  have f1 : Fr VMr M (mu (mu M 69 26 1) 69 27 (M 69 23)) := (Fr.rf.put ⟨rfl, by omega, by omega⟩).put ⟨rfl, by omega, by omega⟩
  exact k _ ⟨hJ.1.fr f1, hJ.2.2.1, rfl, hJ.2.1.1, hJ.2.2.2.2.fr f1⟩ f1
set_option maxRecDepth 20000 in
set_option maxHeartbeats 4000000 in
theorem sp_failmD {l : Launch} {g : Gw} {d n : Nat} {M : Mm} {Q : Option Wd → Mm → Prop} (hn : 90 ≤ n) {t : Nat} {f : Nat → Int} {z : Int} {p : Nat} {o : Int} {e : Int → Int} (hD : DJm M t f z p o e) (k : Q none M) : Wp l g d 0 0 n m_X8_fail 0 [] [(2, 69)] M Q := by
  have hR := hD.1.1
  refine wp_aload_n dX8_fail_0 rfl rfl ?_
  refine wp_get 69 rfl fl_RX8_181 rfl ⟨by omega, by omega⟩ dX8_fail_1 rfl (v := 1) (hD.2.2.1) ?_
  refine wp_if_ne (tgt := 20) dX8_fail_4 (by decide) (fun _ => ?_) (fun h => absurd h (by decide))
  refine wp_vret rfl dX8_fail_20 ?_
  exact k
