/-! ===== rules of the plain machine: constants, copies ===== -/
def byt (k j : Nat) : Int := ((bytL.getD k []).getD j 0).toInt
def mcp (M : Mm) (i1 sp i2 dp n : Nat) : Mm := fun a b => if a = i2 then (if dp ≤ b ∧ b < dp + n then M i1 (sp + (b - dp)) else M a b) else M a b
theorem adg_k {g : Gw} {k : Nat} (h : k < 14) : adg g (1000 + k) = g.2.2.2.1 k := by
  unfold adg
  rw [if_neg (by omega), if_pos (by omega), Nat.add_sub_cancel_left]
theorem adg_v {g : Gw} {k : Nat} (h : k < 14) : adg g (1100 + k) = g.2.2.2.2.1 k := by
  unfold adg
  rw [if_neg (by omega), if_neg (by omega), if_pos (by omega), Nat.add_sub_cancel_left]
theorem adg_o {g : Gw} : adg g 1200 = g.2.2.2.2.2.1 := by
  unfold adg
  rw [if_neg (by omega), if_neg (by omega), if_neg (by omega)]
theorem rv_k {g : Gw} {k : Nat} {x : Int} (hx : x = 1000 + (k : Int)) (h : k < 14) : rv g x = .ref (g.2.2.2.1 k) := by
  rw [show x = ((1000 + k : Nat) : Int) by omega, rv_pos (by omega), adg_k h]
theorem rv_v {g : Gw} {k : Nat} {x : Int} (hx : x = 1100 + (k : Int)) (h : k < 14) : rv g x = .ref (g.2.2.2.2.1 k) := by
  rw [show x = ((1100 + k : Nat) : Int) by omega, rv_pos (by omega), adg_v h]
theorem rv_o {g : Gw} : rv g 1200 = .ref g.2.2.2.2.2.1 := by
  rw [show (1200 : Int) = ((1200 : Nat) : Int) from rfl, rv_pos (by omega), adg_o]
section WPF
variable {l : Launch} {g : Gw} {d a b n : Nat} {μ : Md} {pc : Nat} {st loc : List Wd} {M : Mm} {Q : Option Wd → Mm → Prop}
theorem wp_ldcS (k : Nat) {idx : Nat} {tx : String} (hk : strL[k]? = some (μ.1.cls, idx, tx)) (hd : decode μ.2.1 pc = .ok (.ldc idx, 2)) {x : Int} (hx : x = 1000 + (k : Int)) (kk : Wp l g d a b n μ (pc + 2) ((2, x) :: st) loc M Q) : Wp l g d a b n μ pc st loc M Q := by
  have h14 : k < 14 := (List.getElem?_eq_some_iff.mp hk).1
  refine Wp.pure (pc' := pc + 2) (st' := (2, x) :: st) (fun h h2 hM => RS.cons (wr_t _) h) (fun hm hK hC hS hP hl h1 h2 kk => ?_) kk
  change W _ _ _ _ _ _ _ _ _ _ _ _ _ _ _ (F0 _ _ _ (rv g x :: _)) at kk
  rw [rv_k hx h14] at kk
  exact va_ldcS hm.1 hm.2.1 hm.2.2.2.2.1 (hC.1 k _ hk) hd kk
theorem wp_strV (k : Nat) {x : Int} (hx : x = 1000 + (k : Int)) (h14 : k < 14) {idx : Nat} (hw : Cond.fieldLink μ.1.cls idx "java/lang/String" "value" "[B" ∈ TG) (hd : decode μ.2.1 pc = .ok (.getfield idx, 3)) (kk : Wp l g d a b n μ (pc + 3) ((2, 1100 + (k : Int)) :: st) loc M Q) : Wp l g d a b n μ pc ((2, x) :: st) loc M Q := by
  refine Wp.pure (pc' := pc + 3) (st' := (2, 1100 + (k : Int)) :: st) (fun h h2 hM => RS.cons (wr_t _) h.tl) (fun hm hK hC hS hP hl h1 h2 kk => ?_) kk
  change W _ _ _ _ _ _ _ _ _ _ _ _ _ _ _ (F0 _ _ _ (rv g (1100 + (k : Int)) :: _)) at kk
  show W _ _ _ _ _ _ _ _ _ _ _ _ _ _ _ (F0 _ _ _ (rv g x :: _))
  rw [rv_v rfl h14] at kk
  rw [rv_k hx h14]
  exact vk_getf hm.1 hm.2.1 (hC.2.1.1 k h14).2.2.1 hS hm.2.2.2.2.1 (hm.2.2.2.2.2.1 _ hw) (fun _ h => h) hd kk
theorem wp_strC (k : Nat) {x : Int} (hx : x = 1000 + (k : Int)) (h14 : k < 14) {idx : Nat} (hw : Cond.fieldLink μ.1.cls idx "java/lang/String" "coder" "B" ∈ TG) (hd : decode μ.2.1 pc = .ok (.getfield idx, 3)) (kk : Wp l g d a b n μ (pc + 3) ((0, 0) :: st) loc M Q) : Wp l g d a b n μ pc ((2, x) :: st) loc M Q := by
  refine Wp.pure (pc' := pc + 3) (st' := (0, 0) :: st) (fun h h2 hM => RS.cons (wr_i (by omega)) h.tl) (fun hm hK hC hS hP hl h1 h2 kk => ?_) kk
  show W _ _ _ _ _ _ _ _ _ _ _ _ _ _ _ (F0 _ _ _ (rv g x :: _))
  rw [rv_k hx h14]
  exact vk_getf hm.1 hm.2.1 (hC.2.1.1 k h14).2.1 hS hm.2.2.2.2.1 (hm.2.2.2.2.2.1 _ hw) (fun _ h => h) hd kk
theorem wp_baldK (k : Nat) {x : Int} (hx : x = 1100 + (k : Int)) (h14 : k < 14) {j : Int} (hj : 0 ≤ j ∧ j < (lenL.getD k 0 : Nat)) (hd : decode μ.2.1 pc = .ok (.baload, 1)) (kk : Wp l g d a b n μ (pc + 1) ((0, byt k j.toNat) :: st) loc M Q) : Wp l g d a b n μ pc ((0, j) :: (2, x) :: st) loc M Q := by
  refine Wp.pure (pc' := pc + 1) (st' := (0, byt k j.toNat) :: st) (fun h h2 hM => RS.cons (wr_i (r_rng _)) h.tl.tl) (fun hm hK hC hS hP hl h1 h2 kk => ?_) kk
  show W _ _ _ _ _ _ _ _ _ _ _ _ _ _ _ (F0 _ _ _ (.int (Int32.ofInt j) :: rv g x :: _))
  rw [rv_v hx h14]
  refine va_tb hm.1 hm.2.1 (hC.2.1.1 k h14).2.2.2 hS (r_in h1.hd hj) ?_ hd kk
  rw [r_tn h1.hd]
  show Value.int _ = Value.int (Int32.ofInt (byt k j.toNat))
  unfold byt
  rw [Int32.ofInt_toInt]
theorem wp_alenK (k : Nat) {x : Int} (hx : x = 1100 + (k : Int)) (h14 : k < 14) (hd : decode μ.2.1 pc = .ok (.arraylength, 1)) (kk : Wp l g d a b n μ (pc + 1) ((0, ((lenL.getD k 0 : Nat) : Int)) :: st) loc M Q) : Wp l g d a b n μ pc ((2, x) :: st) loc M Q := by
  have hle : ∀ k, k < 14 → lenL.getD k 0 < 100 := by decide
  refine Wp.pure (pc' := pc + 1) (st' := (0, ((lenL.getD k 0 : Nat) : Int)) :: st) (fun h h2 hM => RS.cons (wr_i (by have := hle k h14; omega)) h.tl) (fun hm hK hC hS hP hl h1 h2 kk => ?_) kk
  show W _ _ _ _ _ _ _ _ _ _ _ _ _ _ _ (F0 _ _ _ (rv g x :: _))
  rw [rv_v hx h14]
  exact va_tlen hm.1 hm.2.1 (hC.2.1.1 k h14).2.2.2 hS rfl hd kk
theorem wp_getsC {idx : Nat} (hw : Cond.fieldLink μ.1.cls idx "java/lang/String" "COMPACT_STRINGS" "Z" ∈ TG) (hd : decode μ.2.1 pc = .ok (.getstatic idx, 3)) (kk : Wp l g d a b n μ (pc + 3) ((0, 1) :: st) loc M Q) : Wp l g d a b n μ pc st loc M Q := by
  refine Wp.pure (pc' := pc + 3) (st' := (0, 1) :: st) (fun h h2 hM => RS.cons (wr_i (by omega)) h) (fun hm hK hC hS hP hl h1 h2 kk => ?_) kk
  exact va_gets hm.1 hm.2.1 hC.2.2.1 hS hm.2.2.2.2.1 (hm.2.2.2.2.2.1 _ hw) (fun _ h => h) hd kk
theorem wp_getsO {idx : Nat} (hw : Cond.fieldLink μ.1.cls idx "AheadOfAFriend$Manners" "OVER" "[I" ∈ TG) (hd : decode μ.2.1 pc = .ok (.getstatic idx, 3)) (kk : Wp l g d a b n μ (pc + 3) ((2, 1200) :: st) loc M Q) : Wp l g d a b n μ pc st loc M Q := by
  refine Wp.pure (pc' := pc + 3) (st' := (2, 1200) :: st) (fun h h2 hM => RS.cons (wr_t _) h) (fun hm hK hC hS hP hl h1 h2 kk => ?_) kk
  change W _ _ _ _ _ _ _ _ _ _ _ _ _ _ _ (F0 _ _ _ (rv g 1200 :: _)) at kk
  rw [rv_o] at kk
  exact va_gets hm.1 hm.2.1 hC.2.2.2.1 hS hm.2.2.2.2.1 (hm.2.2.2.2.2.1 _ hw) (fun _ h => h) hd kk
theorem wp_getsF {idx : Nat} (hw : Cond.fieldLink μ.1.cls idx "jdk/internal/util/Preconditions" "SIOOBE_FORMATTER" "Ljava/util/function/BiFunction;" ∈ TG) (hd : decode μ.2.1 pc = .ok (.getstatic idx, 3)) (kk : Wp l g d a b n μ (pc + 3) ((2, fmW g) :: st) loc M Q) : Wp l g d a b n μ pc st loc M Q := by
  refine Wp.pure (pc' := pc + 3) (st' := (2, fmW g) :: st) (fun h h2 hM => RS.cons (wr_t _) h) (fun hm hK hC hS hP hl h1 h2 kk => ?_) kk
  change W _ _ _ _ _ _ _ _ _ _ _ _ _ _ _ (F0 _ _ _ (rv g (fmW g) :: _)) at kk
  exact va_gets hm.1 hm.2.1 hC.2.2.2.2.2.2.2.1 hS hm.2.2.2.2.1 (hm.2.2.2.2.2.1 _ hw) (fun _ h => h) hd kk
theorem wp_sld {j : Int} (hj : 0 ≤ j ∧ j < (g.2.2.2.2.1 100 : Nat)) (hd : decode μ.2.1 pc = .ok (.iaload, 1)) (kk : Wp l g d a b n μ (pc + 1) ((0, (scI g j.toNat).toInt) :: st) loc M Q) : Wp l g d a b n μ pc ((0, j) :: (2, 1015) :: st) loc M Q := by
  refine Wp.pure (pc' := pc + 1) (st' := (0, (scI g j.toNat).toInt) :: st) (fun h h2 hM => RS.cons (wr_i (r_rng _)) h.tl.tl) (fun hm hK hC hS hP hl h1 h2 kk => ?_) kk
  show W _ _ _ _ _ _ _ _ _ _ _ _ _ _ _ (F0 _ _ _ (.int (Int32.ofInt j) :: rv g 1015 :: _))
  rw [show rv g 1015 = .ref (g.2.2.2.1 15) from rfl]
  have hx : SCR g _ _ := hC.2.2.2.2.2.2.2.2
  obtain ⟨scr, q1, q2⟩ := id hx.1
  refine va_sld hm.1 hm.2.1 hx.1 (Array.getElem?_eq_some_iff.mp q1).1 (by show ¬ gB g < _; have := hx.2.1; omega) hS (r_in h1.hd hj) hd ?_
  rw [r_tn h1.hd]
  change W _ _ _ _ _ _ _ _ _ _ _ _ _ _ _ (F0 _ _ _ (.int (Int32.ofInt (scI g j.toNat).toInt) :: _)) at kk
  rw [Int32.ofInt_toInt] at kk
  exact kk
theorem wp_slen (hd : decode μ.2.1 pc = .ok (.arraylength, 1)) (hL : g.2.2.2.2.1 100 ≤ 3072) (kk : Wp l g d a b n μ (pc + 1) ((0, ((g.2.2.2.2.1 100 : Nat) : Int)) :: st) loc M Q) : Wp l g d a b n μ pc ((2, 1015) :: st) loc M Q := by
  refine Wp.pure (pc' := pc + 1) (st' := (0, ((g.2.2.2.2.1 100 : Nat) : Int)) :: st) (fun h h2 hM => RS.cons (wr_i (by omega)) h.tl) (fun hm hK hC hS hP hl h1 h2 kk => ?_) kk
  show W _ _ _ _ _ _ _ _ _ _ _ _ _ _ _ (F0 _ _ _ (rv g 1015 :: _))
  rw [show rv g 1015 = .ref (g.2.2.2.1 15) from rfl]
  have hx : SCR g _ _ := hC.2.2.2.2.2.2.2.2
  obtain ⟨scr, q1, q2⟩ := id hx.1
  refine va_slen hm.1 hm.2.1 hx.1 (Array.getElem?_eq_some_iff.mp q1).1 (by show ¬ gB g < _; have := hx.2.1; omega) hS hd ?_
  change W _ _ _ _ _ _ _ _ _ _ _ _ _ _ _ (F0 _ _ _ (.int (Int32.ofInt ((g.2.2.2.2.1 100 : Nat) : Int)) :: _)) at kk
  rw [show Int32.ofNat (g.2.2.2.2.1 100) = Int32.ofInt ((g.2.2.2.2.1 100 : Nat) : Int) from rfl]
  exact kk
theorem wp_ialdO {j : Int} (hj : 0 ≤ j ∧ j < 6) (hd : decode μ.2.1 pc = .ok (.iaload, 1)) (kk : Wp l g d a b n μ (pc + 1) ((0, overL.getD j.toNat 0) :: st) loc M Q) : Wp l g d a b n μ pc ((0, j) :: (2, 1200) :: st) loc M Q := by
  have hle : ∀ k, k < 6 → -10 ≤ overL.getD k 0 ∧ overL.getD k 0 ≤ 10 := by decide
  refine Wp.pure (pc' := pc + 1) (st' := (0, overL.getD j.toNat 0) :: st) (fun h h2 hM => RS.cons (wr_i (by have := hle j.toNat (by omega); omega)) h.tl.tl) (fun hm hK hC hS hP hl h1 h2 kk => ?_) kk
  show W _ _ _ _ _ _ _ _ _ _ _ _ _ _ _ (F0 _ _ _ (.int (Int32.ofInt j) :: rv g 1200 :: _))
  rw [rv_o]
  exact va_ti hm.1 hm.2.1 hC.2.2.2.2.1 hS (r_in (N := 6) h1.hd hj) (by rw [r_tn h1.hd]; rfl) hd kk
theorem wp_alenO (hd : decode μ.2.1 pc = .ok (.arraylength, 1)) (kk : Wp l g d a b n μ (pc + 1) ((0, 6) :: st) loc M Q) : Wp l g d a b n μ pc ((2, 1200) :: st) loc M Q := by
  refine Wp.pure (pc' := pc + 1) (st' := (0, 6) :: st) (fun h h2 hM => RS.cons (wr_i (by omega)) h.tl) (fun hm hK hC hS hP hl h1 h2 kk => ?_) kk
  show W _ _ _ _ _ _ _ _ _ _ _ _ _ _ _ (F0 _ _ _ (rv g 1200 :: _))
  rw [rv_o]
  exact va_tlen hm.1 hm.2.1 hC.2.2.2.2.1 hS rfl hd kk
set_option maxHeartbeats 4000000 in
/-- System.arraycopy between int rows -/
theorem wp_copy {idx : Nat} (i1 i2 : Nat) {x1 x2 sp dp nn : Int} {N1 N2 : Nat} (hx1 : x1 = (i1 : Int)) (hx2 : x2 = (i2 : Int)) (hk1 : kd i1 = (10, N1)) (hk2 : kd i2 = (10, N2)) (hi1 : 1 ≤ i1 ∧ i1 ≤ n) (hi2 : 1 ≤ i2 ∧ i2 ≤ n) (h1 : 0 ≤ sp) (h2 : 0 ≤ dp) (h3 : 0 ≤ nn) (h4 : sp + nn ≤ (N1 : Int)) (h5 : dp + nn ≤ (N2 : Int))
    (hw1 : Cond.methodLink μ.1.cls idx arraycopyName ∈ TG) (hw2 : Cond.native arraycopyName ∈ TG) (hw3 : Cond.static arraycopyName ∈ TG) (hw4 : Cond.initialized "java/lang/System" ∈ TG) (hst : st.length ≤ 4) (hd1 : 1 ≤ d) (hml : loc.length = μ.2.2.1) (hwords : nativeFrameWords "java/lang/System" "arraycopy" 5 ≤ 40) (hd : decode μ.2.1 pc = .ok (.invokestatic idx, 3))
    (kk : Wp l g d a b n μ (pc + 3) st loc (mcp M i1 sp.toNat i2 dp.toNat nn.toNat) Q) : Wp l g d a b n μ pc ((0, nn) :: (0, dp) :: (2, x2) :: (0, sp) :: (2, x1) :: st) loc M Q := by
  subst hx1
  subst hx2
  intro p e s m args below meth c R H locs cells slots ls F hm hK hC hS hP hr hcc hs hl r1 r2 hfi
  have hts : ∀ w ∈ TG, w.before args s = true := hm.2.2.2.2.2.1
  show W _ _ _ _ _ _ _ _ _ _ _ _ _ _ _ (F0 _ _ _ (.int (Int32.ofInt nn) :: .int (Int32.ofInt dp) :: rv g (i2 : Int) :: .int (Int32.ofInt sp) :: rv g (i1 : Int) :: _))
  rw [rv_pos hi1.1, rv_pos hi2.1]
  have hn90 := hP.2.2.2.2
  have wn : wr (0, nn) := r1.hd
  have wd : wr (0, dp) := r1.tl.hd
  have ws : wr (0, sp) := r1.tl.tl.tl.hd
  have tn := r_tn wn
  have td := r_tn wd
  have ts := r_tn ws
  have c1 := hP.ar hi1 hk1 (by omega)
  have c2 := hP.ar hi2 hk2 (by omega)
  have key : ∀ H' : Heap, H'[adg g i2]? = some (arrV (g.2.2.1 0) N2 (fun j => .int (va_cpy (fun j => Int32.ofInt (M i1 j)) (fun j => Int32.ofInt (M i2 j)) sp.toNat dp.toNat nn.toNat j))) → H'.size = H.size → (∀ q, q ≠ adg g i2 → H'[q]? = H[q]?) → Pic g n (mcp M i1 sp.toNat i2 dp.toNat nn.toNat) H' := by
    intro H' e1 e2 e3
    obtain ⟨g1, g2, g3, g4, g5⟩ := hP
    refine ⟨e2.trans g1, fun i' a1 a2 => ?_, fun i' j' hi' => ?_, fun i' j' => ?_, g5⟩
    · by_cases e : i' = i2
      · subst e
        unfold cellOK
        rw [hk2, if_neg (by show ¬ 10 < 9; omega)]
        show H'[adg g i']? = some (arrV (g.2.2.1 0) N2 _)
        rw [e1]
        congr 2
        funext j
        show Value.int _ = Value.int (Int32.ofInt _)
        congr 1
        unfold va_cpy mcp
        by_cases hj : dp.toNat ≤ j ∧ j < dp.toNat + nn.toNat
        · rw [if_pos hj, if_pos rfl, if_pos hj]
        · rw [if_neg hj, if_pos rfl, if_neg hj]
      · refine (g2 i' a1 a2).kept (e3 _ ?_) (fun k => by simp [mcp, e])
        rw [adg_lt (by omega), adg_lt (by omega)]
        omega
    · unfold mcp
      rw [if_neg (by omega)]
      exact g3 i' j' hi'
    · unfold mcp
      split
      · split
        · exact g4 _ _
        · exact g4 _ _
      · exact g4 _ _
  intro T hT X
  obtain ⟨-, k0, hk0, cm0, hkk0⟩ := hK.arr 0 rfl N1 (fun j => .int (Int32.ofInt (M i1 j)))
  obtain ⟨-, k1, hk1', cm1, hkk1⟩ := hK.arr 0 rfl N2 (fun j => .int (Int32.ofInt (M i2 j)))
  have c1' : H[adg g i1]? = some (arrV (g.2.2.1 0) N1 (fun j => .int (Int32.ofInt (M i1 j)))) := c1
  have c2' : H[adg g i2]? = some (arrV (g.2.2.1 0) N2 (fun j => .int (Int32.ofInt (M i2 j)))) := c2
  have hsum := sum_cat (g := g) st
  obtain ⟨vm', X', step⟩ := X.arraycopy hm.1 hm.2.2.2.2.1 (hts _ hw1) (hts _ hw2) (hts _ hw3) (hts _ hw4) (src := adg g i1) (dst := adg g i2) (cs := arrV (g.2.2.1 0) N1 (fun j => .int (Int32.ofInt (M i1 j)))) (cd := arrV (g.2.2.1 0) N2 (fun j => .int (Int32.ofInt (M i2 j)))) (srcPos := Int32.ofInt sp) (destPos := Int32.ofInt dp) (n := Int32.ofInt nn) (by rw [hT]; exact c1') (by rw [hT]; exact c2')
    (fun _ h => by cases h) (fun _ h => by cases h) (fun h => by cases h) (fun h => by cases h) hk0 hk1' hkk0 hkk1 (by simp [refKind]) (by rw [r_lt0 ws]; omega) (by rw [r_lt0 wd]; omega) (by rw [r_lt0 wn]; omega)
    (by rw [r_i32 ws, r_i32 wn, arrV_size]; omega)
    (by rw [r_i32 wd, r_i32 wn, arrV_size]; omega)
    (fun vm₁ _ i hi => by
      rw [tn] at hi
      have e : (arrV (g.2.2.1 0) N1 (fun j => Value.int (Int32.ofInt (M i1 j)))).slots.getD ((Int32.ofInt sp).toNatClampNeg + i) .null = .int (Int32.ofInt (M i1 (sp.toNat + i))) := by
        rw [ts, Array.getD_eq_getD_getElem?, arrV_read _ _ (by omega)]
        rfl
      refine ⟨?_, ?_⟩
      · rw [e]
        rfl
      · rw [e]
        exact trivial)
    (g := F0 m pc ls (.int (Int32.ofInt nn) :: .int (Int32.ofInt dp) :: .ref (adg g i2) :: .int (Int32.ofInt sp) :: .ref (adg g i1) :: st.map (wv g))) rfl (by show ls.size = _; rw [hl.1, hm.2.2.2.1, hml]) (rest := st.map (wv g)) rfl (by rw [hm.2.1]; exact hd) (Nat.le_trans hd1 hr.1) (by show 2 * 0 + _ + _ ≤ _; have := hr.2; omega)
  have e1 : copied (arrV (g.2.2.1 0) N1 (fun j => .int (Int32.ofInt (M i1 j)))) (arrV (g.2.2.1 0) N2 (fun j => .int (Int32.ofInt (M i2 j)))) (Int32.ofInt sp) (Int32.ofInt dp) (Int32.ofInt nn) = arrV (g.2.2.1 0) N2 (fun j => .int (va_cpy (fun j => Int32.ofInt (M i1 j)) (fun j => Int32.ofInt (M i2 j)) sp.toNat dp.toNat nn.toNat j)) := by
    have := va_copied (fun z => Value.int z) (g.2.2.1 0) (g.2.2.1 0) (n0 := N1) (n1 := N2) (sp := sp.toNat) (dp := dp.toNat) (n := nn.toNat) (fun j => Int32.ofInt (M i1 j)) (fun j => Int32.ofInt (M i2 j)) (by omega)
    rw [← this]
    unfold copied
    rw [ts, td, tn]
  rw [e1] at X' step
  have hlt : adg g i2 < H.size := (Array.getElem?_eq_some_iff.mp c2').1
  have hheap : ∀ cell : Cell, ((T.setVm vm').setCell (adg g i2) cell).heap = H.setIfInBounds (adg g i2) cell := fun cell => by rw [← hT]; rfl
  generalize hcell : arrV (g.2.2.1 0) N2 (fun j => Value.int (va_cpy (fun j => Int32.ofInt (M i1 j)) (fun j => Int32.ofInt (M i2 j)) sp.toNat dp.toNat nn.toNat j)) = cell at *
  have oq : ∀ q : Nat, q ≠ adg g i2 → (H.setIfInBounds (adg g i2) cell)[q]? = H[q]? := fun q hq => by simp [Array.getElem?_setIfInBounds, Ne.symm hq]
  have hA : gA g (adg g i2) := by show gB g < adg g i2; rw [adg_lt (by omega)]; omega
  obtain ⟨t, a1, b1⟩ := kk p e s m args below meth c R (H.setIfInBounds (adg g i2) cell) _ cells slots ls F hm hK hC ⟨by simp; exact hS.1, fun q g1 g2 => by
      rw [oq q (fun e => g2 (by rw [e]; exact hA))]
      exact hS.2.1 q g1 g2, fun q hq => by
      rcases List.mem_append.mp hq with h | h
      · exact hS.2.2 q h
      · obtain ⟨z, -, hz⟩ := List.mem_map.mp h
        rw [← hz]
        exact hA⟩ (key _ (by simp [Array.getElem?_setIfInBounds, hlt]) (by simp) oq) hr hcc hs hl r1.tl.tl.tl.tl.tl r2 hfi _ (hheap cell) X'
  exact ⟨t, step t a1, b1⟩
theorem wp_mmax {idx : Nat} {x y : Int} (hw : Cond.methodLink μ.1.cls idx Lib.Math.max.name ∈ TG) (hw2 : Cond.static Lib.Math.max.name ∈ TG) (hw3 : Cond.initialized "java/lang/Math" ∈ TG) (hw4 : Cond.code Lib.Math.max.name Lib.Math.max.code 2 (some .int) ∈ TG) (hst : st.length ≤ 4) (hd1 : 1 ≤ d) (hml : loc.length = μ.2.2.1) (hd : decode μ.2.1 pc = .ok (.invokestatic idx, 3)) (kk : Wp l g d a b n μ (pc + 3) ((0, if x < y then y else x) :: st) loc M Q) : Wp l g d a b n μ pc ((0, y) :: (0, x) :: st) loc M Q := by
  intro p e s m args below meth c R H locs cells slots ls F hm hK hC hS hP hr hcc hs hl r1 r2 hfi
  have hts : ∀ w ∈ TG, w.before args s = true := hm.2.2.2.2.2.1
  have k2 := kk p e s m args below meth c R H locs cells slots ls F hm hK hC hS hP hr hcc hs hl (RS.cons (by split; exact r1.hd; exact r1.tl.hd) r1.tl.tl) r2 hfi
  have hsum := sum_cat (g := g) st
  refine va_mmax hm.1 hm.2.1 (by rw [hl.1, hm.2.2.2.1, hml]) hm.2.2.2.2.1 (hts _ hw) (hts _ hw2) (hts _ hw3) (hts _ hw4) (Nat.le_trans hd1 hr.1) (by have := hr.2; omega) (by omega) (by omega) hd ?_
  have e1 : (if Int32.ofInt x < Int32.ofInt y then Int32.ofInt y else Int32.ofInt x) = Int32.ofInt (if x < y then y else x) := by
    have := r_lt r1.tl.hd r1.hd
    by_cases h : x < y
    · rw [if_pos h, if_pos (this.mpr h)]
    · rw [if_neg h, if_neg (fun q => h (this.mp q))]
  rw [e1]
  exact k2
theorem wp_mmin {idx : Nat} {x y : Int} (hw : Cond.methodLink μ.1.cls idx Lib.Math.min.name ∈ TG) (hw2 : Cond.static Lib.Math.min.name ∈ TG) (hw3 : Cond.initialized "java/lang/Math" ∈ TG) (hw4 : Cond.code Lib.Math.min.name Lib.Math.min.code 2 (some .int) ∈ TG) (hst : st.length ≤ 4) (hd1 : 1 ≤ d) (hml : loc.length = μ.2.2.1) (hd : decode μ.2.1 pc = .ok (.invokestatic idx, 3)) (kk : Wp l g d a b n μ (pc + 3) ((0, if y < x then y else x) :: st) loc M Q) : Wp l g d a b n μ pc ((0, y) :: (0, x) :: st) loc M Q := by
  intro p e s m args below meth c R H locs cells slots ls F hm hK hC hS hP hr hcc hs hl r1 r2 hfi
  have hts : ∀ w ∈ TG, w.before args s = true := hm.2.2.2.2.2.1
  have k2 := kk p e s m args below meth c R H locs cells slots ls F hm hK hC hS hP hr hcc hs hl (RS.cons (by split; exact r1.hd; exact r1.tl.hd) r1.tl.tl) r2 hfi
  have hsum := sum_cat (g := g) st
  refine va_mmin hm.1 hm.2.1 (by rw [hl.1, hm.2.2.2.1, hml]) hm.2.2.2.2.1 (hts _ hw) (hts _ hw2) (hts _ hw3) (hts _ hw4) (Nat.le_trans hd1 hr.1) (by have := hr.2; omega) (by omega) (by omega) hd ?_
  have e1 : (if Int32.ofInt y < Int32.ofInt x then Int32.ofInt y else Int32.ofInt x) = Int32.ofInt (if y < x then y else x) := by
    have := r_lt r1.hd r1.tl.hd
    by_cases h : y < x
    · rw [if_pos h, if_pos (this.mpr h)]
    · rw [if_neg h, if_neg (fun q => h (this.mp q))]
  rw [e1]
  exact k2
end WPF
