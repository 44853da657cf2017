/-! ===== whom to befriend; ahead ===== -/
def befA (A : Ls) (p : Nat) (a : Int) : Ls := setA A 2 p (bor (A.2 2 p) (shl 1 a))
abbrev lsB (E : Ev) (A : Ls) (a : Int) : Int := lstP E A a (flA E A).length 0 5
def whA (E : Ev) (A : Ls) (a : Int) : Nat → Nat → Int → Int → Int
  | 0, _, _, f => f
  | m + 1, p, ls, f => if (p : Int) = a ∨ plA A (p : Int) = -1 then whA E A a m (p + 1) ls f else if lsB E (befA A p a) a < ls then whA E A a m (p + 1) (lsB E (befA A p a) a) (p : Int) else whA E A a m (p + 1) ls f
theorem TJ.lSet {M : Mm} {A : Ls} {E : Ev} (h : TJ M A E) {i : Nat} {v : Int} : TJ (mu M 19 i v) (setA A 2 i v) E := by
  obtain ⟨h1, h2, h3, h4, h5, h6⟩ := h
  have f : Fr VN M (mu M 19 i v) := Fr.rf.put (Or.inl (Or.inl (by omega)))
  refine ⟨SR.row (by decide) h1, h2.frN f, h3.setA (r := 2) (i := i) (v := v) (by omega), h4.aSet (by omega) (by omega), ?_, (evC_frN f).trans h6⟩
  rw [f 25 1 (by unfold VN VX; omega)]
  exact h5
theorem pl_in {A : Ls} (hW : Wf A) {x : Int} (h : plA A x ≠ -1) : 0 ≤ x ∧ x < A.1 2 := by
  rcases fst_r (f := A.2 5) (x := x) (A.1 3).toNat 0 with e | ⟨q, q1, q2, e, e2⟩
  · exact absurd e h
  · have := hW.2.2.2.2.1 q (by omega)
    omega
/-- at most n searches more -/
def SQn (M M' : Mm) (n : Int) : Prop := M 52 5 ≤ M' 52 5 ∧ M' 52 5 ≤ M 52 5 + n ∧ ∀ c : Nat, c < 3125 → M' 55 c ≤ M' 52 5
def SQ0 (M : Mm) : Prop := 0 ≤ M 52 5 ∧ ∀ c : Nat, c < 3125 → M 55 c ≤ M 52 5
set_option maxRecDepth 20000 in
set_option maxHeartbeats 4000000 in
theorem lp_whom  {l : Launch} {g : Gw} {d n : Nat} (hn : 60 ≤ n) (hd : 10 ≤ d) {A : Ls} {E : Ev} {a v0 : Int} : ∀ (m p : Nat) (M : Mm) (ls f : Int) (u : Wd) (Q : Option Wd → Mm → Prop), p + m = 5 → CJ M A → evC M = E → SQ0 M → M 52 5 + m < 2000000000 → (∀ M', Fr VU M M' → SR M' → SQn M M' m → Q (some (0, whA E A a m p ls f)) M') → Wp l g d 0 0 n m_X7_whomToBefriend 8 [] [(2, 1), (0, a), (0, v0), (0, ls), (0, f), (0, (p : Int)), u] M Q := by
  intro m
  induction m with
  | zero =>
    intro p M ls f u Q hp hI hE hq hb k
    obtain ⟨hR, hX, hA, hW, hr⟩ := id hI
    obtain ⟨a0, a1, a2, a3, ar, al⟩ := id hA
    obtain ⟨w0, w1, w2, w3, w4, w5, w6⟩ := id hW
    have hX1 := hX.1
    have hX2 := hX.2.1
    refine wp_iload dX7_whomToBefriend_8 rfl ?_
    refine wp_iconst dX7_whomToBefriend_10 (by decide) ?_
    refine wp_icmp_ge (tgt := 103) dX7_whomToBefriend_11 (by decide) (fun _ => ?_) (fun h => absurd h (by omega))
    refine wp_iload dX7_whomToBefriend_103 rfl ?_
    refine wp_iret rfl dX7_whomToBefriend_105 ?_
    exact k M Fr.rf hI.1 ⟨by omega, by omega, hq.2⟩
  | succ m ih =>
    intro p M ls f u Q hp hI hE hq hb k
    obtain ⟨hR, hX, hA, hW, hr⟩ := id hI
    obtain ⟨a0, a1, a2, a3, ar, al⟩ := id hA
    obtain ⟨w0, w1, w2, w3, w4, w5, w6⟩ := id hW
    have hX1 := hX.1
    have hX2 := hX.2.1
    refine wp_iload dX7_whomToBefriend_8 rfl ?_
    refine wp_iconst dX7_whomToBefriend_10 (by decide) ?_
    refine wp_icmp_ge (tgt := 103) dX7_whomToBefriend_11 (by decide) (fun h => absurd h (by omega)) (fun _ => ?_)
    refine wp_iload dX7_whomToBefriend_14 rfl ?_
    refine wp_iload_n dX7_whomToBefriend_16 rfl rfl ?_
    refine wp_icmp_eq (tgt := 97) dX7_whomToBefriend_17 (by decide) (fun h17 => ?_) (fun h17 => ?_)
    · refine wp_iinc (loc' := [(2, 1), (0, a), (0, v0), (0, ls), (0, f), (0, ((p : Int) + 1)), u]) dX7_whomToBefriend_97 rfl (by omega) rfl ?_
      refine wp_goto (tgt := 8) dX7_whomToBefriend_100 (by decide) ?_
      have e : whA E A a (m + 1) p ls f = whA E A a m (p + 1) ls f := if_pos (by omega)
      rw [e] at k
      exact ih (p + 1) M ls f _ Q (by omega) hI hE hq (by omega) (fun M4 b1 b2 b3 => k M4 b1 b2 ⟨b3.1, by have := b3.2.1; omega, b3.2.2⟩)
    · refine wp_aload_n dX7_whomToBefriend_20 rfl rfl ?_
      refine wp_get 1 rfl fl_RX7_10 rfl ⟨by omega, by omega⟩ dX7_whomToBefriend_21 rfl (v := 2) (sr_1_0 (M := M) hR) ?_
      refine wp_iload dX7_whomToBefriend_24 rfl ?_
      refine wp_callV0 (d' := d - 1) cv_RX7_115 2 rfl [(0, (p : Int))] [] rfl rfl (Or.inl ⟨_, _, rfl, by decide, rfl, by omega, by omega⟩) (by omega) (Nat.le_of_ble_eq_true rfl) dX7_whomToBefriend_26 rfl (Nat.le_of_ble_eq_true rfl) (by omega) (loc1 := [(2, 2), (0, (p : Int)), (9, 0)]) rfl ?_
      refine sp_placeOf_2 hn hR (p : Int) (by omega) (by omega) ?_
      rw [show fst_ (M 8) (p : Int) (M 2 3).toNat 0 = plA A (p : Int) from pl_eq hA (p : Int) (by omega)]
      refine wp_iconst dX7_whomToBefriend_29 (by decide) ?_
      refine wp_icmp_ne (tgt := 36) dX7_whomToBefriend_30 (by decide) (fun h30 => ?_) (fun h30 => ?_)
      · refine wp_aload_n dX7_whomToBefriend_36 rfl rfl ?_
        refine wp_get 1 rfl fl_RX7_19 rfl ⟨by omega, by omega⟩ dX7_whomToBefriend_37 rfl (v := 16) (sr_1_2 (M := M) hR) ?_
        refine wp_aload_n dX7_whomToBefriend_40 rfl rfl ?_
        refine wp_get 1 rfl fl_RX7_10 rfl ⟨by omega, by omega⟩ dX7_whomToBefriend_41 rfl (v := 2) (sr_1_0 (M := M) hR) ?_
        refine wp_callV0 (d' := d - 1) cv_RX7_203 16 rfl [(2, 2)] [] rfl rfl (Or.inl ⟨_, _, rfl, by decide, rfl, by omega, by omega⟩) (by omega) (Nat.le_of_ble_eq_true rfl) dX7_whomToBefriend_44 rfl (Nat.le_of_ble_eq_true rfl) (by omega) (loc1 := [(2, 16), (2, 2), (9, 0)]) rfl ?_
        have hin := pl_in hW h30
        refine sp_become_16_2 hn hR ?_
        have hT := TJ.bec hI
        rw [hE] at hT
        have hRb := hT.1
        have hFb := (becF_16_2 M).mono VW.b
        have hlk : becM_16_2 M 19 p = A.2 2 p := hT.2.2.1.2.2.2.2.1 2 p (by omega) hin.2
        refine wp_aload_n dX7_whomToBefriend_47 rfl rfl ?_
        refine wp_get 1 rfl fl_RX7_19 rfl ⟨by omega, by omega⟩ dX7_whomToBefriend_48 rfl (v := 16) (sr_1_2 (M := (becM_16_2 M)) hRb) ?_
        refine wp_get 16 rfl fl_RX7_206 rfl ⟨by omega, by omega⟩ dX7_whomToBefriend_51 rfl (v := 19) (sr_16_6 (M := (becM_16_2 M)) hRb) ?_
        refine wp_iload dX7_whomToBefriend_54 rfl ?_
        refine wp_dup2 dX7_whomToBefriend_56 (Or.inl rfl) (Or.inr rfl) ?_
        refine wp_iald 19 rfl rfl ⟨by omega, by omega⟩ ⟨by omega, by omega⟩ dX7_whomToBefriend_57 (v := (A.2 2 p)) (hlk) ?_
        refine wp_iconst dX7_whomToBefriend_58 (by decide) ?_
        refine wp_iload_n dX7_whomToBefriend_59 rfl rfl ?_
        refine wp_ishl dX7_whomToBefriend_60 ?_
        refine wp_ior dX7_whomToBefriend_61 ?_
        refine wp_iast 19 rfl rfl ⟨by omega, by omega⟩ ⟨by omega, by omega⟩ dX7_whomToBefriend_62 (jn := p) rfl ?_
        refine wp_aload_n dX7_whomToBefriend_63 rfl rfl ?_
        refine wp_get 1 rfl fl_RX7_50 rfl ⟨by omega, by omega⟩ dX7_whomToBefriend_64 rfl (v := 52) (sr_1_7 (M := (becM_16_2 M)) hRb) ?_
        refine wp_aload_n dX7_whomToBefriend_67 rfl rfl ?_
        refine wp_get 1 rfl fl_RX7_19 rfl ⟨by omega, by omega⟩ dX7_whomToBefriend_68 rfl (v := 16) (sr_1_2 (M := (becM_16_2 M)) hRb) ?_
        refine wp_callV0 (d' := d - 1) cv_RX7_166 52 rfl [(2, 16)] [] rfl rfl (Or.inl ⟨_, _, rfl, by decide, rfl, by omega, by omega⟩) (by omega) (Nat.le_of_ble_eq_true rfl) dX7_whomToBefriend_71 rfl (Nat.le_of_ble_eq_true rfl) (by omega) (loc1 := [(2, 52), (2, 16), (9, 0)]) rfl ?_
        have hT1 : TJ (mu (becM_16_2 M) 19 p (bor (A.2 2 p) (shl 1 a))) (befA A p a) E := hT.lSet
        have f1 : Fr VW M (mu (becM_16_2 M) 19 p (bor (A.2 2 p) (shl 1 a))) := hFb.put (Or.inr (Or.inr ⟨by decide, by decide⟩))
        have hq1 : SQ (mu (becM_16_2 M) 19 p (bor (A.2 2 p) (shl 1 a))) := SQ.fr ⟨hq.1, by omega, hq.2⟩ f1
        refine sp_findT hn (by omega) hT1 hq1 (fun M2 hJ hQ2 f2 => ?_)
        have hR2 := hJ.sr
        have e52 : (mu (becM_16_2 M) 19 p (bor (A.2 2 p) (shl 1 a))) 52 5 = M 52 5 := f1 52 5 (by unfold VW VX; omega)
        refine wp_aload_n dX7_whomToBefriend_74 rfl rfl ?_
        refine wp_get 1 rfl fl_RX7_50 rfl ⟨by omega, by omega⟩ dX7_whomToBefriend_75 rfl (v := 52) (sr_1_7 (M := M2) hR2) ?_
        refine wp_iload_n dX7_whomToBefriend_78 rfl rfl ?_
        refine wp_callV0 (d' := d - 1) cv_RX7_194 52 rfl [(0, a)] [] rfl rfl (Or.inl ⟨_, _, rfl, by decide, rfl, by omega, by omega⟩) (by omega) (Nat.le_of_ble_eq_true rfl) dX7_whomToBefriend_79 rfl (Nat.le_of_ble_eq_true rfl) (by omega) (loc1 := [(2, 52), (0, a), (9, 0), (9, 0)]) rfl ?_
        refine sp_leastPlace_16 hn (by omega) hJ a (fun M3 hJ3 g3 => ?_)
        have hR3 := hJ3.sr
        have f3 : Fr VU M M3 := (f1.mono (fun i j h => Or.inl h)).tr ((f2.tr (fr6.i g3)).mono (fun i j h => Or.inr h))
        have q3 := hQ2.fr6 g3
        rw [SQ1, e52] at q3
        have hI3 := hI.fr f3 hR3 VU.c
        have hE3 : evC M3 = E := (evC_frN (f3.mono (fun i j h => (VU.c i j h).1))).trans hE
        have hq3 : SQ0 M3 := ⟨by have := hq.1; omega, q3.2⟩
        refine wp_istore (loc' := [(2, 1), (0, a), (0, v0), (0, ls), (0, f), (0, (p : Int)), (0, (lsB E (befA A p a) a))]) dX7_whomToBefriend_82 (Nat.le_of_ble_eq_true rfl) rfl ?_
        refine wp_iload dX7_whomToBefriend_84 rfl ?_
        refine wp_iload_n dX7_whomToBefriend_86 rfl rfl ?_
        refine wp_icmp_ge (tgt := 97) dX7_whomToBefriend_87 (by decide) (fun h87 => ?_) (fun h87 => ?_)
        · refine wp_iinc (loc' := [(2, 1), (0, a), (0, v0), (0, ls), (0, f), (0, ((p : Int) + 1)), (0, (lsB E (befA A p a) a))]) dX7_whomToBefriend_97 rfl (by omega) rfl ?_
          refine wp_goto (tgt := 8) dX7_whomToBefriend_100 (by decide) ?_
          have e : whA E A a (m + 1) p ls f = whA E A a m (p + 1) ls f := (if_neg (by omega)).trans (if_neg (by omega))
          rw [e] at k
          exact ih (p + 1) M3 _ _ _ Q (by omega) hI3 hE3 hq3 (by have := q3.1; omega) (fun M4 b1 b2 b3 => k M4 (f3.tr b1) b2 ⟨by have := b3.1; have := q3.1; omega, by have := b3.2.1; have := q3.1; omega, b3.2.2⟩)
        · refine wp_iload dX7_whomToBefriend_90 rfl ?_
          refine wp_istore_n (loc' := [(2, 1), (0, a), (0, v0), (0, (lsB E (befA A p a) a)), (0, f), (0, (p : Int)), (0, (lsB E (befA A p a) a))]) dX7_whomToBefriend_92 rfl (Nat.le_of_ble_eq_true rfl) rfl ?_
          refine wp_iload dX7_whomToBefriend_93 rfl ?_
          refine wp_istore (loc' := [(2, 1), (0, a), (0, v0), (0, (lsB E (befA A p a) a)), (0, (p : Int)), (0, (p : Int)), (0, (lsB E (befA A p a) a))]) dX7_whomToBefriend_95 (Nat.le_of_ble_eq_true rfl) rfl ?_
          refine wp_iinc (loc' := [(2, 1), (0, a), (0, v0), (0, (lsB E (befA A p a) a)), (0, (p : Int)), (0, ((p : Int) + 1)), (0, (lsB E (befA A p a) a))]) dX7_whomToBefriend_97 rfl (by omega) rfl ?_
          refine wp_goto (tgt := 8) dX7_whomToBefriend_100 (by decide) ?_
          have e : whA E A a (m + 1) p ls f = whA E A a m (p + 1) (lsB E (befA A p a) a) (p : Int) := (if_neg (by omega)).trans (if_pos (by omega))
          rw [e] at k
          exact ih (p + 1) M3 _ _ _ Q (by omega) hI3 hE3 hq3 (by have := q3.1; omega) (fun M4 b1 b2 b3 => k M4 (f3.tr b1) b2 ⟨by have := b3.1; have := q3.1; omega, by have := b3.2.1; have := q3.1; omega, b3.2.2⟩)
      · refine wp_goto (tgt := 97) dX7_whomToBefriend_33 (by decide) ?_
        refine wp_iinc (loc' := [(2, 1), (0, a), (0, v0), (0, ls), (0, f), (0, ((p : Int) + 1)), u]) dX7_whomToBefriend_97 rfl (by omega) rfl ?_
        refine wp_goto (tgt := 8) dX7_whomToBefriend_100 (by decide) ?_
        have e : whA E A a (m + 1) p ls f = whA E A a m (p + 1) ls f := if_pos (by omega)
        rw [e] at k
        exact ih (p + 1) M ls f _ Q (by omega) hI hE hq (by omega) (fun M4 b1 b2 b3 => k M4 b1 b2 ⟨b3.1, by have := b3.2.1; omega, b3.2.2⟩)
