/-! ===== the class's constructor: the first text ===== -/
def Vly (i j : Nat) : Prop := i = 24 ∨ (i = 23 ∧ j = 1)
theorem Vly.sr {M M' : Mm} (h : Fr Vly M M') (hR : SRr M) : SRr M' := hR.frL h (by unfold Vly; decide +kernel)
set_option maxRecDepth 20000 in
set_option maxHeartbeats 4000000 in
theorem lp_layR  {l : Launch} {g : Gw} {d n : Nat} (hn : 60 ≤ n) (hd : 6 ≤ d) : ∀ (m i : Nat) (M : Mm) (Q : Option Wd → Mm → Prop), i + m = 45 → SRr M → M 23 1 = (i : Int) → (∀ j, j < i → M 24 j = byt 0 j) → (∀ M', Fr Vly M M' → M' 23 1 = 45 → (∀ j, j < 45 → M' 24 j = byt 0 j) → (∀ j, ¬ j < 45 → M' 24 j = M 24 j) → Q none M') → Wp l g d 0 0 n m_X2_lay 2 [] [(2, 23), (2, 1000), (0, (i : Int))] M Q := by
  intro m
  induction m with
  | zero =>
    intro i M Q hm hR hs hf k
    refine wp_iload_n dX2_lay_2 rfl rfl ?_
    refine wp_aload_n dX2_lay_3 rfl rfl ?_
    refine wp_callV0 (d' := d - 1) cv_RX2_19 1000 rfl [] [(0, (i : Int))] rfl rfl (Or.inr ⟨by decide, by decide, rfl⟩) (by omega) (Nat.le_of_ble_eq_true rfl) dX2_lay_4 rfl (Nat.le_of_ble_eq_true rfl) (by omega) (loc1 := [(2, 1000)]) rfl ?_
    refine sp_slen_0 (by omega) ?_
    refine wp_icmp_ge (tgt := 26) dX2_lay_7 (by decide) (fun _ => ?_) (fun h => absurd h (by omega))
    refine wp_vret rfl dX2_lay_26 ?_
    exact k M Fr.rf (by omega) (fun j hj => hf j (by omega)) (fun j _ => rfl)
  | succ m ih =>
    intro i M Q hm hR hs hf k
    refine wp_iload_n dX2_lay_2 rfl rfl ?_
    refine wp_aload_n dX2_lay_3 rfl rfl ?_
    refine wp_callV0 (d' := d - 1) cv_RX2_19 1000 rfl [] [(0, (i : Int))] rfl rfl (Or.inr ⟨by decide, by decide, rfl⟩) (by omega) (Nat.le_of_ble_eq_true rfl) dX2_lay_4 rfl (Nat.le_of_ble_eq_true rfl) (by omega) (loc1 := [(2, 1000)]) rfl ?_
    refine sp_slen_0 (by omega) ?_
    refine wp_icmp_ge (tgt := 26) dX2_lay_7 (by decide) (fun h => absurd h (by omega)) (fun _ => ?_)
    refine wp_aload_n dX2_lay_10 rfl rfl ?_
    refine wp_aload_n dX2_lay_11 rfl rfl ?_
    refine wp_iload_n dX2_lay_12 rfl rfl ?_
    refine wp_callV0 (d' := d - 1) cv_RX2_25 1000 rfl [(0, (i : Int))] [(2, 23)] rfl rfl (Or.inr ⟨by decide, by decide, rfl⟩) (by omega) (Nat.le_of_ble_eq_true rfl) dX2_lay_13 rfl (Nat.le_of_ble_eq_true rfl) (by omega) (loc1 := [(2, 1000), (0, (i : Int))]) rfl ?_
    refine sp_charAt_0 (by omega) (i := i) (by omega) ?_
    refine wp_callV0 (d' := d - 1) cv_RX2_29 23 rfl [(0, (byt 0 i))] [] rfl rfl (Or.inl ⟨_, _, rfl, by decide, rfl, by omega, by omega⟩) (by omega) (Nat.le_of_ble_eq_true rfl) dX2_lay_16 rfl (Nat.le_of_ble_eq_true rfl) (by omega) (loc1 := [(2, 23), (0, (byt 0 i))]) rfl ?_
    refine wp_aload_n dX2_put_0 rfl rfl ?_
    refine wp_get 23 rfl fl_RX2_15 rfl ⟨by omega, by omega⟩ dX2_put_1 rfl (v := (i : Int)) (hs) ?_
    refine wp_if_lt (tgt := 17) dX2_put_4 (by decide) (fun h => absurd h (by omega)) (fun _ => ?_)
    refine wp_aload_n dX2_put_7 rfl rfl ?_
    refine wp_get 23 rfl fl_RX2_15 rfl ⟨by omega, by omega⟩ dX2_put_8 rfl (v := (i : Int)) (hs) ?_
    refine wp_sipush dX2_put_11 (by decide) (by decide) ?_
    refine wp_icmp_lt (tgt := 19) dX2_put_14 (by decide) (fun _ => ?_) (fun h => absurd h (by omega))
    refine wp_aload_n dX2_put_19 rfl rfl ?_
    refine wp_get 23 rfl fl_RX2_11 rfl ⟨by omega, by omega⟩ dX2_put_20 rfl (v := 24) (qr_23_0 (M := M) hR) ?_
    refine wp_aload_n dX2_put_23 rfl rfl ?_
    refine wp_get 23 rfl fl_RX2_15 rfl ⟨by omega, by omega⟩ dX2_put_24 rfl (v := (i : Int)) (hs) ?_
    refine wp_iload_n dX2_put_27 rfl rfl ?_
    refine wp_iast 24 rfl rfl ⟨by omega, by omega⟩ ⟨by omega, by omega⟩ dX2_put_28 (jn := i) rfl ?_
    refine wp_aload_n dX2_put_29 rfl rfl ?_
    refine wp_dup dX2_put_30 (Or.inr rfl) ?_
    refine wp_get 23 rfl fl_RX2_15 rfl ⟨by omega, by omega⟩ dX2_put_31 rfl (v := (i : Int)) (hs) ?_
    refine wp_iconst dX2_put_34 (by decide) ?_
    refine wp_iadd dX2_put_35 (by omega) ?_
    refine wp_puti 23 rfl fl_RX2_15 rfl ⟨by omega, by omega⟩ dX2_put_36 rfl rfl ?_
    refine wp_iconst dX2_put_39 (by decide) ?_
    refine wp_zret rfl (by omega) dX2_put_40 ?_
    refine wp_pop dX2_lay_19 (Or.inl rfl) ?_
    refine wp_iinc (loc' := [(2, 23), (2, 1000), (0, ((i : Int) + 1))]) dX2_lay_20 rfl (by omega) rfl ?_
    refine wp_goto (tgt := 2) dX2_lay_23 (by decide) ?_
    have f1 : Fr Vly M (mu (mu M 24 i (byt 0 i)) 23 1 ((i : Int) + 1)) := (Fr.rf.put (Or.inl rfl)).put (Or.inr ⟨rfl, rfl⟩)
    refine ih (i + 1) _ Q (by omega) (Vly.sr f1 hR) rfl (fun j hj => ?_) (fun M2 F2 a2 b2 c2 => k M2 (f1.tr F2) a2 b2 (fun j hj => (c2 j hj).trans ((mu_ne _ _ _ (by omega) _).trans (mu_nj _ _ _ (by omega)))))
    by_cases c : j = i
    · subst c
      exact (mu_ne _ _ _ (by omega) _).trans (mu_self _ _ _ _)
    · exact (mu_ne _ _ _ (by omega) _).trans ((mu_nj _ _ _ c).trans (hf j (by omega)))
set_option maxRecDepth 20000 in
set_option maxHeartbeats 4000000 in
theorem sp_layR  {l : Launch} {g : Gw} {d n : Nat} {M : Mm} {Q : Option Wd → Mm → Prop} (hn : 60 ≤ n) (hd : 6 ≤ d) (hR : SRr M) (hs : M 23 1 = 0) (k : ∀ M', Fr Vly M M' → M' 23 1 = 45 → (∀ j, j < 45 → M' 24 j = byt 0 j) → (∀ j, ¬ j < 45 → M' 24 j = M 24 j) → Q none M') : Wp l g d 0 0 n m_X2_lay 0 [] [(2, 23), (2, 1000), (9, 0)] M Q := by
  refine wp_iconst dX2_lay_0 (by decide) ?_
  refine wp_istore_n (loc' := [(2, 23), (2, 1000), (0, 0)]) dX2_lay_1 rfl (Nat.le_of_ble_eq_true rfl) rfl ?_
  exact lp_layR hn hd 45 0 M Q (by omega) hR hs (fun j hj => by omega) k
/-! codes and worths -/
def cdT (r : TX) : Option (List Int × List Int × List Int) := match r with
  | .inl _ => none
  | .inr q => some (q.1.1, q.2.1.1, q.2.2.1)
def QVt (q : (List Int × Vl) × (List Int × Vl) × (List Int × Vl)) : Prop := (∀ e s, rnL e q.1.1 s = q.1.2 e :: s) ∧ (∀ e s, rnL e q.2.1.1 s = q.2.1.2 e :: s) ∧ ∀ e s, rnL e q.2.2.1 s = q.2.2.2 e :: s
theorem txt_QV {f : Nat → Int} {z : Int} (hz : 0 ≤ z) {q : (List Int × Vl) × (List Int × Vl) × (List Int × Vl)} (h : txtP f z = .inr q) : QVt q ∧ (q.1.1 ++ q.2.1.1 ++ q.2.2.1).length ≤ z.toNat := by
  unfold txtP at h
  have p0 := PQ_prt (f := f) (z := z) (key := 256) (by decide) 0 (by omega)
  generalize prtP f z 256 0 = r0 at h p0
  cases r0 with
  | inl p => cases h
  | inr q0 =>
    obtain ⟨a0, b0, c0⟩ := p0
    dsimp only at h
    have p1 := PQ_prt (f := f) (z := z) (key := 257) (by decide) q0.1 b0
    generalize prtP f z 257 q0.1 = r1 at h p1
    cases r1 with
    | inl p => cases h
    | inr q1 =>
      obtain ⟨a1, b1, c1⟩ := p1
      dsimp only at h
      have p2 := PQ_prt (f := f) (z := z) (key := 258) (by decide) q1.1 b1
      generalize prtP f z 258 q1.1 = r2 at h p2
      cases r2 with
      | inl p => cases h
      | inr q2 =>
        obtain ⟨a2, b2, c2⟩ := p2
        dsimp only at h
        by_cases c : lxT f z q2.1 = 0
        · rw [if_pos c] at h
          cases h
          refine ⟨⟨c0, c1, c2⟩, ?_⟩
          rw [List.length_append, List.length_append]
          show q0.2.1.length + q1.2.1.length + q2.2.1.length ≤ z.toNat
          omega
        · rw [if_neg c] at h
          cases h
theorem run_rnL {f : Nat → Int} {e : Int → Int} : ∀ (c : List Int) (p : Nat) (s : List Int), (∀ i, i < c.length → f (p + i) = c.getD i 0) → run f e c.length p s = rnL e c s
  | [], _, _, _ => rfl
  | a :: c, p, s, h => by
    show run f e c.length (p + 1) (stp e (f p) s) = rnL e c (stp e a s)
    have h0 := h 0 (by simp)
    rw [show f p = a from h0]
    refine run_rnL c (p + 1) _ (fun i hi => ?_)
    have := h (i + 1) (by simpa using hi)
    rw [show p + 1 + i = p + (i + 1) by omega, this]
    rfl
theorem getD_app1 {a b : List Int} {i : Nat} (h : i < a.length) : (a ++ b).getD i 0 = a.getD i 0 := by
  simp only [List.getD_eq_getElem?_getD]
  rw [List.getElem?_append_left h]
theorem getD_app2 {a b : List Int} {i : Nat} : (a ++ b).getD (a.length + i) 0 = b.getD i 0 := by
  simp only [List.getD_eq_getElem?_getD]
  rw [List.getElem?_append_right (by omega), Nat.add_sub_cancel_left]
theorem evC_txt {M : Mm} {t : Nat} (ht : t < 6) {q : (List Int × Vl) × (List Int × Vl) × (List Int × Vl)} (h : TXC M (27 + 4 * t) q) (hv : QVt q) : (∀ e, evC M t 0 e = q.1.2 e) ∧ (∀ e, evC M t 1 e = q.2.1.2 e) ∧ ∀ e, evC M t 2 e = q.2.2.2 e := by
  obtain ⟨⟨h0, hc⟩, e0, e1, e2⟩ := h
  rw [List.length_append] at e1
  rw [List.length_append, List.length_append] at e2
  simp only [List.length_append] at hc
  refine ⟨fun e => ?_, fun e => ?_, fun e => ?_⟩
  · unfold evC
    rw [if_neg (by omega), if_pos rfl, e0, show ((q.1.1.length : Nat) : Int).toNat - 0 = q.1.1.length from rfl]
    rw [run_rnL q.1.1 0 [] (fun i hi => ?_), hv.1]
    · rfl
    · rw [Nat.zero_add, hc i (by omega), List.append_assoc, getD_app1 hi]
  · unfold evC
    rw [if_neg (by omega), if_neg (by decide), show 1 - 1 = 0 from rfl, e0, e1, show (((q.1.1.length + q.2.1.1.length : Nat) : Int)).toNat - ((q.1.1.length : Nat) : Int).toNat = q.2.1.1.length by omega]
    rw [run_rnL q.2.1.1 ((q.1.1.length : Nat) : Int).toNat [] (fun i hi => ?_), hv.2.1]
    · rfl
    · rw [show ((q.1.1.length : Nat) : Int).toNat = q.1.1.length from rfl, hc _ (by omega), List.append_assoc, getD_app2, getD_app1 hi]
  · unfold evC
    rw [if_neg (by omega), if_neg (by decide), show 2 - 1 = 1 from rfl, e1, e2, show (((q.1.1.length + q.2.1.1.length + q.2.2.1.length : Nat) : Int)).toNat - (((q.1.1.length + q.2.1.1.length : Nat) : Int)).toNat = q.2.2.1.length by omega]
    rw [run_rnL q.2.2.1 (((q.1.1.length + q.2.1.1.length : Nat) : Int)).toNat [] (fun i hi => ?_), hv.2.2]
    · rfl
    · rw [show (((q.1.1.length + q.2.1.1.length : Nat) : Int)).toNat = (q.1.1 ++ q.2.1.1).length from by rw [List.length_append]; rfl, hc _ (by rw [List.length_append]; omega), getD_app2]
/-- the same codes, the same worths -/
theorem QV_same {q r : (List Int × Vl) × (List Int × Vl) × (List Int × Vl)} (h1 : QVt q) (h2 : QVt r) (e0 : q.1.1 = r.1.1) (e1 : q.2.1.1 = r.2.1.1) (e2 : q.2.2.1 = r.2.2.1) : (∀ e, q.1.2 e = r.1.2 e) ∧ (∀ e, q.2.1.2 e = r.2.1.2 e) ∧ ∀ e, q.2.2.2 e = r.2.2.2 e := by
  refine ⟨fun e => ?_, fun e => ?_, fun e => ?_⟩
  · have a := h1.1 e []
    rw [e0, h2.1 e []] at a
    exact (List.cons.inj a).1.symm
  · have a := h1.2.1 e []
    rw [e1, h2.2.1 e []] at a
    exact (List.cons.inj a).1.symm
  · have a := h1.2.2 e []
    rw [e2, h2.2.2 e []] at a
    exact (List.cons.inj a).1.symm
/-- the first text: on the class's tape, in the model -/
def fcT0 : Nat → Int := fun j => if j < 45 then byt 0 j else 0
def fmT0 : Nat → Int := fun j => if j < 45 then byt 0 j else 32
theorem cd_c0 : cdT (txtP fcT0 45) = some ([-1, -9], [3, -2, -12], [1]) := by decide +kernel
theorem cd_m0 : cdT (txtP fmT0 48) = some ([-1, -9], [3, -2, -12], [1]) := by decide +kernel
theorem bt_c0 : ∀ j : Nat, j < 45 → 0 ≤ byt 0 j ∧ byt 0 j ≤ 255 := by decide +kernel
