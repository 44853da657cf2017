def wrap (x : Int) : Int := Int.bmod x 4294967296
def wrapl (x : Int) : Int := Int.bmod x 18446744073709551616
theorem r_i32 {x : Int} (h : -2147483648 ≤ x ∧ x < 2147483648) : (Int32.ofInt x).toInt = x := by
  rw [Int32.toInt_ofInt]
  exact Int.bmod_eq_of_le (m := 4294967296) (by omega) (by omega)
theorem r_i64 {x : Int} (h : -9223372036854775808 ≤ x ∧ x < 9223372036854775808) : (Int64.ofInt x).toInt = x := by
  rw [Int64.toInt_ofInt]
  exact Int.bmod_eq_of_le (m := 18446744073709551616) (by omega) (by omega)
theorem r_rng (x : Int32) : -2147483648 ≤ x.toInt ∧ x.toInt < 2147483648 := ⟨x.le_toInt, x.toInt_lt⟩
theorem r_rngl (x : Int64) : -9223372036854775808 ≤ x.toInt ∧ x.toInt < 9223372036854775808 := ⟨x.le_toInt, x.toInt_lt⟩
theorem r_wrap (x : Int) : Int32.ofInt (wrap x) = Int32.ofInt x := by
  apply Int32.toInt_inj.mp
  rw [Int32.toInt_ofInt, Int32.toInt_ofInt]
  exact Int.bmod_bmod
theorem r_wrapl (x : Int) : Int64.ofInt (wrapl x) = Int64.ofInt x := by
  apply Int64.toInt_inj.mp
  rw [Int64.toInt_ofInt, Int64.toInt_ofInt]
  exact Int.bmod_bmod
theorem r_wrap_r (x : Int) : -2147483648 ≤ wrap x ∧ wrap x < 2147483648 := by
  have h1 := Int.le_bmod (x := x) (m := 4294967296) (by omega)
  have h2 := Int.bmod_lt (x := x) (m := 4294967296) (by omega)
  unfold wrap
  omega
theorem r_wrapl_r (x : Int) : -9223372036854775808 ≤ wrapl x ∧ wrapl x < 9223372036854775808 := by
  have h1 := Int.le_bmod (x := x) (m := 18446744073709551616) (by omega)
  have h2 := Int.bmod_lt (x := x) (m := 18446744073709551616) (by omega)
  unfold wrapl
  omega
theorem wrap_id {x : Int} (h : -2147483648 ≤ x ∧ x < 2147483648) : wrap x = x := Int.bmod_eq_of_le (by omega) (by omega)
theorem wrapl_id {x : Int} (h : -9223372036854775808 ≤ x ∧ x < 9223372036854775808) : wrapl x = x := Int.bmod_eq_of_le (by omega) (by omega)
theorem wr_i {x : Int} (h : -2147483648 ≤ x ∧ x < 2147483648) : wr (0, x) := h
theorem wr_l {x : Int} (h : -9223372036854775808 ≤ x ∧ x < 9223372036854775808) : wr (1, x) := h
theorem wr_t (x : Int) : wr (2, x) := trivial
theorem RS.cons {w : Wd} {st : List Wd} (h : wr w) (h2 : RS st) : RS (w :: st) := fun v hv => (List.mem_cons.mp hv).elim (fun e => e ▸ h) (h2 v)
theorem RS.tl {w : Wd} {st : List Wd} (h : RS (w :: st)) : RS st := fun v hv => h v (List.mem_cons_of_mem _ hv)
theorem RS.hd {w : Wd} {st : List Wd} (h : RS (w :: st)) : wr w := h w List.mem_cons_self
theorem RS.nil : RS [] := fun _ h => by cases h
theorem r_lt0 {x : Int} (h : wr (0, x)) : Int32.ofInt x < 0 ↔ x < 0 := by
  rw [Int32.lt_iff_toInt_lt, r_i32 h]; rfl
theorem r_le0 {x : Int} (h : wr (0, x)) : Int32.ofInt x ≤ 0 ↔ x ≤ 0 := by
  rw [Int32.le_iff_toInt_le, r_i32 h]; rfl
theorem r_gt0 {x : Int} (h : wr (0, x)) : 0 < Int32.ofInt x ↔ 0 < x := by
  rw [Int32.lt_iff_toInt_lt, r_i32 h]; rfl
theorem r_ge0 {x : Int} (h : wr (0, x)) : 0 ≤ Int32.ofInt x ↔ 0 ≤ x := by
  rw [Int32.le_iff_toInt_le, r_i32 h]; rfl
theorem r_eq {x y : Int} (h : wr (0, x)) (h2 : wr (0, y)) : Int32.ofInt x = Int32.ofInt y ↔ x = y := by
  rw [← Int32.toInt_inj, r_i32 h, r_i32 h2]
theorem r_eq0 {x : Int} (h : wr (0, x)) : Int32.ofInt x = 0 ↔ x = 0 := by
  rw [← Int32.toInt_inj, r_i32 h]; rfl
theorem r_lt {x y : Int} (h : wr (0, x)) (h2 : wr (0, y)) : Int32.ofInt x < Int32.ofInt y ↔ x < y := by
  rw [Int32.lt_iff_toInt_lt, r_i32 h, r_i32 h2]
theorem r_le {x y : Int} (h : wr (0, x)) (h2 : wr (0, y)) : Int32.ofInt x ≤ Int32.ofInt y ↔ x ≤ y := by
  rw [Int32.le_iff_toInt_le, r_i32 h, r_i32 h2]
section WPA
variable {l : Launch} {g : Gw} {d a b n : Nat} {μ : Md} {pc : Nat} {st loc : List Wd} {M : Mm} {Q : Option Wd → Mm → Prop}
theorem Wp.pure {pc' : Nat} {st' : List Wd} (hR : RS st → RS loc → Rng M → RS st')
    (hW : ∀ {p : Program} {e : Env} {s : State} {m : MethodId} {args : Array Value} {below : List Frame} {meth : Method} {c : Code} {R : Room} {H : Heap} {locs : List Loc} {cells slots : Nat} {ls : Array Slot} {F : State → Prop},
      MC p μ s m args meth c → KN g s → CN g s s.heap → va_S (gA g) s.heap H locs → Pic g n M H → LR g ls loc → RS st → RS loc →
      W p l e R s m args below meth c H locs cells slots F (F0 m pc' ls (st'.map (wv g))) → W p l e R s m args below meth c H locs cells slots F (F0 m pc ls (st.map (wv g))))
    (k : Wp l g d a b n μ pc' st' loc M Q) : Wp l g d a b n μ pc st loc M Q := by
  intro p e s m args below meth c R H locs cells slots ls F hm hK hC hS hP hr hc hs hl h1 h2 hf
  exact hW hm hK hC hS hP hl h1 h2 (k p e s m args below meth c R H locs cells slots ls F hm hK hC hS hP hr hc hs hl (hR h1 h2 hP.2.2.2.1) h2 hf)
/-- what is known of the numbers at hand -/
theorem Wp.know (k : RS st → RS loc → Rng M → (∀ i j, n < i → M i j = 0) → Wp l g d a b n μ pc st loc M Q) : Wp l g d a b n μ pc st loc M Q := by
  intro p e s m args below meth c R H locs cells slots ls F hm hK hC hS hP hr hc hs hl h1 h2 hf
  exact k h1 h2 hP.2.2.2.1 hP.2.2.1 p e s m args below meth c R H locs cells slots ls F hm hK hC hS hP hr hc hs hl h1 h2 hf
theorem Wp.mono {Q' : Option Wd → Mm → Prop} (h : ∀ r M', Q' r M' → Q r M') (k : Wp l g d a b n μ pc st loc M Q') : Wp l g d a b n μ pc st loc M Q := by
  intro p e s m args below meth c R H locs cells slots ls F hm hK hC hS hP hr hc hs hl h1 h2 hf
  exact k p e s m args below meth c R H locs cells slots ls F hm hK hC hS hP hr hc hs hl h1 h2 (fun r M' H' locs' pc' ls' op q1 q2 q3 => hf r M' H' locs' pc' ls' op q1 q2 (h r M' q3))
theorem Wp.deeper {d' : Nat} (hd : d' ≤ d) (k : Wp l g d' a b n μ pc st loc M Q) : Wp l g d a b n μ pc st loc M Q := by
  intro p e s m args below meth c R H locs cells slots ls F hm hK hC hS hP hr hc hs hl h1 h2 hf
  exact k p e s m args below meth c R H locs cells slots ls F hm hK hC hS hP ⟨Nat.le_trans hd hr.1, Nat.le_trans (Nat.mul_le_mul_left 60 hd) hr.2⟩ hc hs hl h1 h2 hf
/-- another memory that is the same -/
theorem Wp.same {M' : Mm} (h : ∀ i j, M' i j = M i j) (k : Wp l g d a b n μ pc st loc M' Q) : Wp l g d a b n μ pc st loc M Q := by
  have e : M' = M := funext fun i => funext fun j => h i j
  exact e ▸ k
theorem Wp.stk {st' : List Wd} (h : st' = st) (k : Wp l g d a b n μ pc st' loc M Q) : Wp l g d a b n μ pc st loc M Q := h ▸ k
theorem Wp.lo {loc' : List Wd} (h : loc' = loc) (k : Wp l g d a b n μ pc st loc' M Q) : Wp l g d a b n μ pc st loc M Q := h ▸ k

theorem wp_iconst {v : Int} (hd : decode μ.2.1 pc = .ok (.iconst v, 1)) (hv : -128 ≤ v ∧ v ≤ 127 := by decide) (k : Wp l g d a b n μ (pc + 1) ((0, v) :: st) loc M Q) : Wp l g d a b n μ pc (st) loc M Q := by
  refine Wp.pure (pc' := pc + 1) (st' := (0, v) :: st) (fun h h2 hM => RS.cons (wr_i ⟨by omega, by omega⟩) h) (fun hm hK hC hS hP hl h1 h2 k => ?_) k
  exact lv_iconst hm.1 hm.2.1 hd rfl k
theorem wp_bipush {v : Int} (hd : decode μ.2.1 pc = .ok (.bipush v, 2)) (hv : (Int8.ofInt v).toInt32 = Int32.ofInt v := by decide) (hr : -128 ≤ v ∧ v ≤ 127 := by decide) (k : Wp l g d a b n μ (pc + 2) ((0, v) :: st) loc M Q) : Wp l g d a b n μ pc (st) loc M Q := by
  refine Wp.pure (pc' := pc + 2) (st' := (0, v) :: st) (fun h h2 hM => RS.cons (wr_i ⟨by omega, by omega⟩) h) (fun hm hK hC hS hP hl h1 h2 k => ?_) k
  exact lv_bipush hm.1 hm.2.1 hd hv k
theorem wp_sipush {v : Int} (hd : decode μ.2.1 pc = .ok (.sipush v, 3)) (hv : (Int16.ofInt v).toInt32 = Int32.ofInt v := by decide) (hr : -32768 ≤ v ∧ v ≤ 32767 := by decide) (k : Wp l g d a b n μ (pc + 3) ((0, v) :: st) loc M Q) : Wp l g d a b n μ pc (st) loc M Q := by
  refine Wp.pure (pc' := pc + 3) (st' := (0, v) :: st) (fun h h2 hM => RS.cons (wr_i ⟨by omega, by omega⟩) h) (fun hm hK hC hS hP hl h1 h2 k => ?_) k
  exact lv_sipush hm.1 hm.2.1 hd hv k
theorem wp_lconst {f : Fin 2} {v : Int} (hd : decode μ.2.1 pc = .ok (.lconst f, 1)) (hv : Int64.ofNat (f : Nat) = Int64.ofInt v := by decide) (hr : -128 ≤ v ∧ v ≤ 127 := by decide) (k : Wp l g d a b n μ (pc + 1) ((1, v) :: st) loc M Q) : Wp l g d a b n μ pc (st) loc M Q := by
  refine Wp.pure (pc' := pc + 1) (st' := (1, v) :: st) (fun h h2 hM => RS.cons (wr_l ⟨by omega, by omega⟩) h) (fun hm hK hC hS hP hl h1 h2 k => ?_) k
  exact lv_lconst hm.1 hm.2.1 hd hv k
theorem wp_ldc {i : Nat} {v : Int32} {x : Int} (hd : decode μ.2.1 pc = .ok (.ldc i, 2)) (hw : Cond.constant μ.1.cls i v ∈ TG) (hv : v = Int32.ofInt x) (hr : wr (0, x)) (k : Wp l g d a b n μ (pc + 2) ((0, x) :: st) loc M Q) : Wp l g d a b n μ pc (st) loc M Q := by
  refine Wp.pure (pc' := pc + 2) (st' := (0, x) :: st) (fun h h2 hM => RS.cons hr h) (fun hm hK hC hS hP hl h1 h2 k => ?_) k
  refine lv_ldc hm.1 hm.2.1 hm.2.2.2.2.1 (hm.2.2.2.2.2.1 _ hw) hd ?_
  rw [hv]
  exact k
theorem wp_ldcw {i : Nat} {v : Int32} {x : Int} (hd : decode μ.2.1 pc = .ok (.ldc_w i, 3)) (hw : Cond.constant μ.1.cls i v ∈ TG) (hv : v = Int32.ofInt x) (hr : wr (0, x)) (k : Wp l g d a b n μ (pc + 3) ((0, x) :: st) loc M Q) : Wp l g d a b n μ pc (st) loc M Q := by
  refine Wp.pure (pc' := pc + 3) (st' := (0, x) :: st) (fun h h2 hM => RS.cons hr h) (fun hm hK hC hS hP hl h1 h2 k => ?_) k
  refine lv_ldcw hm.1 hm.2.1 hm.2.2.2.2.1 (hm.2.2.2.2.2.1 _ hw) hd ?_
  rw [hv]
  exact k
theorem wp_ldc2 {i : Nat} {v : Int64} {x : Int} (hd : decode μ.2.1 pc = .ok (.ldc2_w i, 3)) (hw : Cond.constantLong μ.1.cls i v ∈ TG) (hv : v = Int64.ofInt x) (hr : wr (1, x)) (k : Wp l g d a b n μ (pc + 3) ((1, x) :: st) loc M Q) : Wp l g d a b n μ pc (st) loc M Q := by
  refine Wp.pure (pc' := pc + 3) (st' := (1, x) :: st) (fun h h2 hM => RS.cons hr h) (fun hm hK hC hS hP hl h1 h2 k => ?_) k
  refine lv_ldc2 hm.1 hm.2.1 hm.2.2.2.2.1 (hm.2.2.2.2.2.1 _ hw) hd ?_
  rw [hv]
  exact k
theorem wp_null (hd : decode μ.2.1 pc = .ok (.aconst_null, 1)) (k : Wp l g d a b n μ (pc + 1) ((2, 0) :: st) loc M Q) : Wp l g d a b n μ pc (st) loc M Q := by
  refine Wp.pure (pc' := pc + 1) (st' := (2, 0) :: st) (fun h h2 hM => RS.cons (wr_t _) h) (fun hm hK hC hS hP hl h1 h2 k => ?_) k
  exact lv_null hm.1 hm.2.1 hd k
theorem wp_iload_n {f : Fin 4} {i : Nat} {x : Int} (hd : decode μ.2.1 pc = .ok (.iload_n f, 1)) (hi : (f : Nat) = i) (hl0 : loc[i]? = some (0, x)) (k : Wp l g d a b n μ (pc + 1) ((0, x) :: st) loc M Q) : Wp l g d a b n μ pc (st) loc M Q := by
  refine Wp.pure (pc' := pc + 1) (st' := (0, x) :: st) (fun h h2 hM => RS.cons (h2 _ (List.mem_of_getElem? hl0)) h) (fun hm hK hC hS hP hl h1 h2 k => ?_) k
  exact lv_iload_n hm.1 hm.2.1 hd hi (hl.2.2 _ _ hl0 (by decide : 0 < 3)) k
theorem wp_iload {i : Nat} {x : Int} (hd : decode μ.2.1 pc = .ok (.iload i, 2)) (hl0 : loc[i]? = some (0, x)) (k : Wp l g d a b n μ (pc + 2) ((0, x) :: st) loc M Q) : Wp l g d a b n μ pc (st) loc M Q := by
  refine Wp.pure (pc' := pc + 2) (st' := (0, x) :: st) (fun h h2 hM => RS.cons (h2 _ (List.mem_of_getElem? hl0)) h) (fun hm hK hC hS hP hl h1 h2 k => ?_) k
  exact lv_iload hm.1 hm.2.1 hd (hl.2.2 _ _ hl0 (by decide : 0 < 3)) k
theorem wp_lload_n {f : Fin 4} {i : Nat} {x : Int} (hd : decode μ.2.1 pc = .ok (.lload_n f, 1)) (hi : (f : Nat) = i) (hl0 : loc[i]? = some (1, x)) (k : Wp l g d a b n μ (pc + 1) ((1, x) :: st) loc M Q) : Wp l g d a b n μ pc (st) loc M Q := by
  refine Wp.pure (pc' := pc + 1) (st' := (1, x) :: st) (fun h h2 hM => RS.cons (h2 _ (List.mem_of_getElem? hl0)) h) (fun hm hK hC hS hP hl h1 h2 k => ?_) k
  exact lv_lload_n hm.1 hm.2.1 hd hi (hl.2.2 _ _ hl0 (by decide : 1 < 3)) k
theorem wp_lload {i : Nat} {x : Int} (hd : decode μ.2.1 pc = .ok (.lload i, 2)) (hl0 : loc[i]? = some (1, x)) (k : Wp l g d a b n μ (pc + 2) ((1, x) :: st) loc M Q) : Wp l g d a b n μ pc (st) loc M Q := by
  refine Wp.pure (pc' := pc + 2) (st' := (1, x) :: st) (fun h h2 hM => RS.cons (h2 _ (List.mem_of_getElem? hl0)) h) (fun hm hK hC hS hP hl h1 h2 k => ?_) k
  exact lv_lload hm.1 hm.2.1 hd (hl.2.2 _ _ hl0 (by decide : 1 < 3)) k
theorem wp_aload_n {f : Fin 4} {i : Nat} {x : Int} (hd : decode μ.2.1 pc = .ok (.aload_n f, 1)) (hi : (f : Nat) = i) (hl0 : loc[i]? = some (2, x)) (k : Wp l g d a b n μ (pc + 1) ((2, x) :: st) loc M Q) : Wp l g d a b n μ pc (st) loc M Q := by
  refine Wp.pure (pc' := pc + 1) (st' := (2, x) :: st) (fun h h2 hM => RS.cons (wr_t _) h) (fun hm hK hC hS hP hl h1 h2 k => ?_) k
  have e : _ = some (Slot.val (rv g x)) := hl.2.2 _ _ hl0 (by decide : 2 < 3)
  change W _ _ _ _ _ _ _ _ _ _ _ _ _ _ _ (F0 _ _ _ (rv g x :: _)) at k
  unfold rv at e k
  by_cases hx : x = 0
  · rw [if_pos hx] at e k; exact lv_aload_nN hm.1 hm.2.1 hd hi e k
  · rw [if_neg hx] at e k; exact lv_aload_n hm.1 hm.2.1 hd hi e k
theorem wp_aload {i : Nat} {x : Int} (hd : decode μ.2.1 pc = .ok (.aload i, 2)) (hl0 : loc[i]? = some (2, x)) (k : Wp l g d a b n μ (pc + 2) ((2, x) :: st) loc M Q) : Wp l g d a b n μ pc (st) loc M Q := by
  refine Wp.pure (pc' := pc + 2) (st' := (2, x) :: st) (fun h h2 hM => RS.cons (wr_t _) h) (fun hm hK hC hS hP hl h1 h2 k => ?_) k
  have e : _ = some (Slot.val (rv g x)) := hl.2.2 _ _ hl0 (by decide : 2 < 3)
  change W _ _ _ _ _ _ _ _ _ _ _ _ _ _ _ (F0 _ _ _ (rv g x :: _)) at k
  unfold rv at e k
  by_cases hx : x = 0
  · rw [if_pos hx] at e k; exact lv_aloadN hm.1 hm.2.1 hd e k
  · rw [if_neg hx] at e k; exact lv_aload hm.1 hm.2.1 hd e k
theorem wp_iadd {x y : Int} (hd : decode μ.2.1 pc = .ok (.iadd, 1)) (hr : -2147483648 ≤ x + y ∧ x + y < 2147483648) (k : Wp l g d a b n μ (pc + 1) ((0, x + y) :: st) loc M Q) : Wp l g d a b n μ pc ((0, y) :: (0, x) :: st) loc M Q := by
  refine Wp.pure (pc' := pc + 1) (st' := (0, x + y) :: st) (fun h h2 hM => RS.cons (hr) h.tl.tl) (fun hm hK hC hS hP hl h1 h2 k => ?_) k
  refine lv_iadd hm.1 hm.2.1 hd ?_
  rw [← Int32.ofInt_add]
  exact k
theorem wp_iaddw {x y : Int} (hd : decode μ.2.1 pc = .ok (.iadd, 1))  (k : Wp l g d a b n μ (pc + 1) ((0, wrap (x + y)) :: st) loc M Q) : Wp l g d a b n μ pc ((0, y) :: (0, x) :: st) loc M Q := by
  refine Wp.pure (pc' := pc + 1) (st' := (0, wrap (x + y)) :: st) (fun h h2 hM => RS.cons (r_wrap_r _) h.tl.tl) (fun hm hK hC hS hP hl h1 h2 k => ?_) k
  refine lv_iadd hm.1 hm.2.1 hd ?_
  rw [← Int32.ofInt_add, ← r_wrap]
  exact k
theorem wp_isub {x y : Int} (hd : decode μ.2.1 pc = .ok (.isub, 1)) (hr : -2147483648 ≤ x - y ∧ x - y < 2147483648) (k : Wp l g d a b n μ (pc + 1) ((0, x - y) :: st) loc M Q) : Wp l g d a b n μ pc ((0, y) :: (0, x) :: st) loc M Q := by
  refine Wp.pure (pc' := pc + 1) (st' := (0, x - y) :: st) (fun h h2 hM => RS.cons (hr) h.tl.tl) (fun hm hK hC hS hP hl h1 h2 k => ?_) k
  refine lv_isub hm.1 hm.2.1 hd ?_
  rw [← Int32.ofInt_sub]
  exact k
theorem wp_isubw {x y : Int} (hd : decode μ.2.1 pc = .ok (.isub, 1))  (k : Wp l g d a b n μ (pc + 1) ((0, wrap (x - y)) :: st) loc M Q) : Wp l g d a b n μ pc ((0, y) :: (0, x) :: st) loc M Q := by
  refine Wp.pure (pc' := pc + 1) (st' := (0, wrap (x - y)) :: st) (fun h h2 hM => RS.cons (r_wrap_r _) h.tl.tl) (fun hm hK hC hS hP hl h1 h2 k => ?_) k
  refine lv_isub hm.1 hm.2.1 hd ?_
  rw [← Int32.ofInt_sub, ← r_wrap]
  exact k
theorem wp_imul {x y : Int} (hd : decode μ.2.1 pc = .ok (.imul, 1)) (hr : -2147483648 ≤ x * y ∧ x * y < 2147483648) (k : Wp l g d a b n μ (pc + 1) ((0, x * y) :: st) loc M Q) : Wp l g d a b n μ pc ((0, y) :: (0, x) :: st) loc M Q := by
  refine Wp.pure (pc' := pc + 1) (st' := (0, x * y) :: st) (fun h h2 hM => RS.cons (hr) h.tl.tl) (fun hm hK hC hS hP hl h1 h2 k => ?_) k
  refine lv_imul hm.1 hm.2.1 hd ?_
  rw [← Int32.ofInt_mul]
  exact k
theorem wp_imulw {x y : Int} (hd : decode μ.2.1 pc = .ok (.imul, 1))  (k : Wp l g d a b n μ (pc + 1) ((0, wrap (x * y)) :: st) loc M Q) : Wp l g d a b n μ pc ((0, y) :: (0, x) :: st) loc M Q := by
  refine Wp.pure (pc' := pc + 1) (st' := (0, wrap (x * y)) :: st) (fun h h2 hM => RS.cons (r_wrap_r _) h.tl.tl) (fun hm hK hC hS hP hl h1 h2 k => ?_) k
  refine lv_imul hm.1 hm.2.1 hd ?_
  rw [← Int32.ofInt_mul, ← r_wrap]
  exact k
def bnd (x y : Int) : Int := (Int32.ofInt x &&& Int32.ofInt y).toInt
def bor (x y : Int) : Int := (Int32.ofInt x ||| Int32.ofInt y).toInt
def bxr (x y : Int) : Int := (Int32.ofInt x ^^^ Int32.ofInt y).toInt
def shl (x y : Int) : Int := (Int32.ofInt x <<< (Int32.ofInt y &&& 31)).toInt
def shr (x y : Int) : Int := (Int32.ofInt x >>> (Int32.ofInt y &&& 31)).toInt
def ush (x y : Int) : Int := ((Int32.ofInt x).toUInt32 >>> ((Int32.ofInt y).toUInt32 &&& Int32.toUInt32 31)).toInt32.toInt
def lnd (x y : Int) : Int := (Int64.ofInt x &&& Int64.ofInt y).toInt
def lor' (x y : Int) : Int := (Int64.ofInt x ||| Int64.ofInt y).toInt
def lsl' (x y : Int) : Int := (Int64.ofInt x <<< ((Int32.ofInt y).toInt64 &&& 63)).toInt
def lus (x y : Int) : Int := ((Int64.ofInt x).toUInt64 >>> ((Int32.ofInt y).toInt64.toUInt64 &&& Int64.toUInt64 63)).toInt64.toInt
def lcp (x y : Int) : Int := if y < x then 1 else if x = y then 0 else -1
theorem wp_iand {x y : Int} (hd : decode μ.2.1 pc = .ok (.iand, 1))  (k : Wp l g d a b n μ (pc + 1) ((0, bnd x y) :: st) loc M Q) : Wp l g d a b n μ pc ((0, y) :: (0, x) :: st) loc M Q := by
  refine Wp.pure (pc' := pc + 1) (st' := (0, bnd x y) :: st) (fun h h2 hM => RS.cons (r_rng _) h.tl.tl) (fun hm hK hC hS hP hl h1 h2 k => ?_) k
  refine lv_iand hm.1 hm.2.1 hd ?_
  have k : W _ _ _ _ _ _ _ _ _ _ _ _ _ _ _ (F0 _ _ _ (.int (Int32.ofInt (bnd x y)) :: _)) := k
  unfold bnd at k
  rw [Int32.ofInt_toInt] at k
  exact k
theorem wp_ior {x y : Int} (hd : decode μ.2.1 pc = .ok (.ior, 1))  (k : Wp l g d a b n μ (pc + 1) ((0, bor x y) :: st) loc M Q) : Wp l g d a b n μ pc ((0, y) :: (0, x) :: st) loc M Q := by
  refine Wp.pure (pc' := pc + 1) (st' := (0, bor x y) :: st) (fun h h2 hM => RS.cons (r_rng _) h.tl.tl) (fun hm hK hC hS hP hl h1 h2 k => ?_) k
  refine lv_ior hm.1 hm.2.1 hd ?_
  have k : W _ _ _ _ _ _ _ _ _ _ _ _ _ _ _ (F0 _ _ _ (.int (Int32.ofInt (bor x y)) :: _)) := k
  unfold bor at k
  rw [Int32.ofInt_toInt] at k
  exact k
theorem wp_ixor {x y : Int} (hd : decode μ.2.1 pc = .ok (.ixor, 1))  (k : Wp l g d a b n μ (pc + 1) ((0, bxr x y) :: st) loc M Q) : Wp l g d a b n μ pc ((0, y) :: (0, x) :: st) loc M Q := by
  refine Wp.pure (pc' := pc + 1) (st' := (0, bxr x y) :: st) (fun h h2 hM => RS.cons (r_rng _) h.tl.tl) (fun hm hK hC hS hP hl h1 h2 k => ?_) k
  refine lv_ixor hm.1 hm.2.1 hd ?_
  have k : W _ _ _ _ _ _ _ _ _ _ _ _ _ _ _ (F0 _ _ _ (.int (Int32.ofInt (bxr x y)) :: _)) := k
  unfold bxr at k
  rw [Int32.ofInt_toInt] at k
  exact k
theorem wp_ishl {x y : Int} (hd : decode μ.2.1 pc = .ok (.ishl, 1))  (k : Wp l g d a b n μ (pc + 1) ((0, shl x y) :: st) loc M Q) : Wp l g d a b n μ pc ((0, y) :: (0, x) :: st) loc M Q := by
  refine Wp.pure (pc' := pc + 1) (st' := (0, shl x y) :: st) (fun h h2 hM => RS.cons (r_rng _) h.tl.tl) (fun hm hK hC hS hP hl h1 h2 k => ?_) k
  refine lv_ishl hm.1 hm.2.1 hd ?_
  have k : W _ _ _ _ _ _ _ _ _ _ _ _ _ _ _ (F0 _ _ _ (.int (Int32.ofInt (shl x y)) :: _)) := k
  unfold shl at k
  rw [Int32.ofInt_toInt] at k
  exact k
theorem wp_ishr {x y : Int} (hd : decode μ.2.1 pc = .ok (.ishr, 1))  (k : Wp l g d a b n μ (pc + 1) ((0, shr x y) :: st) loc M Q) : Wp l g d a b n μ pc ((0, y) :: (0, x) :: st) loc M Q := by
  refine Wp.pure (pc' := pc + 1) (st' := (0, shr x y) :: st) (fun h h2 hM => RS.cons (r_rng _) h.tl.tl) (fun hm hK hC hS hP hl h1 h2 k => ?_) k
  refine lv_ishr hm.1 hm.2.1 hd ?_
  have k : W _ _ _ _ _ _ _ _ _ _ _ _ _ _ _ (F0 _ _ _ (.int (Int32.ofInt (shr x y)) :: _)) := k
  unfold shr at k
  rw [Int32.ofInt_toInt] at k
  exact k
theorem wp_iushr {x y : Int} (hd : decode μ.2.1 pc = .ok (.iushr, 1))  (k : Wp l g d a b n μ (pc + 1) ((0, ush x y) :: st) loc M Q) : Wp l g d a b n μ pc ((0, y) :: (0, x) :: st) loc M Q := by
  refine Wp.pure (pc' := pc + 1) (st' := (0, ush x y) :: st) (fun h h2 hM => RS.cons (r_rng _) h.tl.tl) (fun hm hK hC hS hP hl h1 h2 k => ?_) k
  refine lv_iushr hm.1 hm.2.1 hd rfl ?_
  have k : W _ _ _ _ _ _ _ _ _ _ _ _ _ _ _ (F0 _ _ _ (.int (Int32.ofInt (ush x y)) :: _)) := k
  unfold ush at k
  rw [Int32.ofInt_toInt] at k
  exact k
theorem r_tdiv {x y : Int} (hx : wr (0, x)) (hy : 0 < y) (hy2 : wr (0, y)) : Int32.ofInt x / Int32.ofInt y = Int32.ofInt (x.tdiv y) ∧ wr (0, x.tdiv y) := by
  have hx' : -2147483648 ≤ x ∧ x < 2147483648 := hx
  have hy' : -2147483648 ≤ y ∧ y < 2147483648 := hy2
  have b1 : x.tdiv y ≤ x.natAbs := by
    have := Int.natAbs_tdiv_le_natAbs x y
    omega
  have b2 : -(x.natAbs : Int) ≤ x.tdiv y := by
    have := Int.natAbs_tdiv_le_natAbs x y
    omega
  have hs : x.tdiv y < 2147483648 := by
    rcases Int.lt_or_le x 0 with h | h
    · have e : x.tdiv y = -((-x).tdiv y) := by rw [Int.neg_tdiv, Int.neg_neg]
      have := Int.tdiv_nonneg (a := -x) (b := y) (by omega) (by omega)
      omega
    · omega
  refine ⟨?_, ⟨by omega, hs⟩⟩
  apply Int32.toInt_inj.mp
  rw [Int32.toInt_div, r_i32 hx, r_i32 hy2, r_i32 ⟨by omega, hs⟩]
  exact Int.bmod_eq_of_le (by omega) (by omega)
theorem r_tmod {x y : Int} (hx : wr (0, x)) (hy : 0 < y) (hy2 : wr (0, y)) : Int32.ofInt x - Int32.ofInt x / Int32.ofInt y * Int32.ofInt y = Int32.ofInt (x.tmod y) ∧ wr (0, x.tmod y) := by
  have hx' : -2147483648 ≤ x ∧ x < 2147483648 := hx
  have hy' : -2147483648 ≤ y ∧ y < 2147483648 := hy2
  rw [(r_tdiv hx hy hy2).1, ← Int32.ofInt_mul, ← Int32.ofInt_sub]
  have e : x - x.tdiv y * y = x.tmod y := by
    have := Int.tmod_def x y
    rw [this, Int.mul_comm]
  rw [e]
  have h1 := tmod_bounds (a := x) hy
  refine ⟨rfl, ?_, ?_⟩ <;> omega
theorem r_tdivl {x y : Int} (hx : wr (1, x)) (hy : 0 < y) (hy2 : wr (1, y)) : Int64.ofInt x / Int64.ofInt y = Int64.ofInt (x.tdiv y) ∧ wr (1, x.tdiv y) := by
  have hx' : -9223372036854775808 ≤ x ∧ x < 9223372036854775808 := hx
  have hy' : -9223372036854775808 ≤ y ∧ y < 9223372036854775808 := hy2
  have b1 : x.tdiv y ≤ x.natAbs := by
    have := Int.natAbs_tdiv_le_natAbs x y
    omega
  have b2 : -(x.natAbs : Int) ≤ x.tdiv y := by
    have := Int.natAbs_tdiv_le_natAbs x y
    omega
  have hs : x.tdiv y < 9223372036854775808 := by
    rcases Int.lt_or_le x 0 with h | h
    · have e : x.tdiv y = -((-x).tdiv y) := by rw [Int.neg_tdiv, Int.neg_neg]
      have := Int.tdiv_nonneg (a := -x) (b := y) (by omega) (by omega)
      omega
    · omega
  refine ⟨?_, ⟨by omega, hs⟩⟩
  apply Int64.toInt_inj.mp
  rw [Int64.toInt_div, r_i64 hx, r_i64 hy2, r_i64 ⟨by omega, hs⟩]
  exact Int.bmod_eq_of_le (by omega) (by omega)
theorem r_tmodl {x y : Int} (hx : wr (1, x)) (hy : 0 < y) (hy2 : wr (1, y)) : Int64.ofInt x - Int64.ofInt x / Int64.ofInt y * Int64.ofInt y = Int64.ofInt (x.tmod y) ∧ wr (1, x.tmod y) := by
  have hx' : -9223372036854775808 ≤ x ∧ x < 9223372036854775808 := hx
  have hy' : -9223372036854775808 ≤ y ∧ y < 9223372036854775808 := hy2
  rw [(r_tdivl hx hy hy2).1, ← Int64.ofInt_mul, ← Int64.ofInt_sub]
  have e : x - x.tdiv y * y = x.tmod y := by
    have := Int.tmod_def x y
    rw [this, Int.mul_comm]
  rw [e]
  have h1 := tmod_bounds (a := x) hy
  refine ⟨rfl, ?_, ?_⟩ <;> omega
theorem r_ne0 {y : Int} (hy : 0 < y) (h : wr (0, y)) : ¬ Int32.ofInt y = 0 := fun q => by
  have := (r_eq0 h).mp q
  omega
theorem r_ne0l {y : Int} (hy : 0 < y) (h : wr (1, y)) : ¬ Int64.ofInt y = 0 := fun q => by
  have h2 := congrArg Int64.toInt q
  rw [r_i64 h] at h2
  have : y = 0 := h2
  omega
theorem wp_idiv {x y : Int} (hd : decode μ.2.1 pc = .ok (.idiv, 1)) (hy : 0 < y) (k : Wp l g d a b n μ (pc + 1) ((0, x.tdiv y) :: st) loc M Q) : Wp l g d a b n μ pc ((0, y) :: (0, x) :: st) loc M Q := by
  refine Wp.pure (pc' := pc + 1) (st' := (0, x.tdiv y) :: st) (fun h h2 hM => RS.cons ((r_tdiv h.tl.hd hy h.hd).2) h.tl.tl) (fun hm hK hC hS hP hl h1 h2 k => ?_) k
  refine lv_idiv hm.1 hm.2.1 hd (r_ne0 hy h1.hd) ?_
  rw [(r_tdiv h1.tl.hd hy h1.hd).1]
  exact k
theorem wp_irem {x y : Int} (hd : decode μ.2.1 pc = .ok (.irem, 1)) (hy : 0 < y) (k : Wp l g d a b n μ (pc + 1) ((0, x.tmod y) :: st) loc M Q) : Wp l g d a b n μ pc ((0, y) :: (0, x) :: st) loc M Q := by
  refine Wp.pure (pc' := pc + 1) (st' := (0, x.tmod y) :: st) (fun h h2 hM => RS.cons ((r_tmod h.tl.hd hy h.hd).2) h.tl.tl) (fun hm hK hC hS hP hl h1 h2 k => ?_) k
  refine lv_irem hm.1 hm.2.1 hd (r_ne0 hy h1.hd) ?_
  rw [(r_tmod h1.tl.hd hy h1.hd).1]
  exact k
theorem wp_ineg {x : Int} (hd : decode μ.2.1 pc = .ok (.ineg, 1)) (k : Wp l g d a b n μ (pc + 1) ((0, wrap (-x)) :: st) loc M Q) : Wp l g d a b n μ pc ((0, x) :: st) loc M Q := by
  refine Wp.pure (pc' := pc + 1) (st' := (0, wrap (-x)) :: st) (fun h h2 hM => RS.cons (r_wrap_r _) h.tl) (fun hm hK hC hS hP hl h1 h2 k => ?_) k
  refine lv_ineg hm.1 hm.2.1 hd ?_
  rw [← Int32.ofInt_neg, ← r_wrap]
  exact k
theorem wp_ladd {x y : Int} (hd : decode μ.2.1 pc = .ok (.ladd, 1))  (k : Wp l g d a b n μ (pc + 1) ((1, wrapl (x + y)) :: st) loc M Q) : Wp l g d a b n μ pc ((1, y) :: (1, x) :: st) loc M Q := by
  refine Wp.pure (pc' := pc + 1) (st' := (1, wrapl (x + y)) :: st) (fun h h2 hM => RS.cons (r_wrapl_r _) h.tl.tl) (fun hm hK hC hS hP hl h1 h2 k => ?_) k
  refine lv_ladd hm.1 hm.2.1 hd ?_
  rw [← Int64.ofInt_add, ← r_wrapl]
  exact k
theorem wp_lsub {x y : Int} (hd : decode μ.2.1 pc = .ok (.lsub, 1))  (k : Wp l g d a b n μ (pc + 1) ((1, wrapl (x - y)) :: st) loc M Q) : Wp l g d a b n μ pc ((1, y) :: (1, x) :: st) loc M Q := by
  refine Wp.pure (pc' := pc + 1) (st' := (1, wrapl (x - y)) :: st) (fun h h2 hM => RS.cons (r_wrapl_r _) h.tl.tl) (fun hm hK hC hS hP hl h1 h2 k => ?_) k
  refine lv_lsub hm.1 hm.2.1 hd ?_
  rw [← Int64.ofInt_sub, ← r_wrapl]
  exact k
theorem wp_lmul {x y : Int} (hd : decode μ.2.1 pc = .ok (.lmul, 1))  (k : Wp l g d a b n μ (pc + 1) ((1, wrapl (x * y)) :: st) loc M Q) : Wp l g d a b n μ pc ((1, y) :: (1, x) :: st) loc M Q := by
  refine Wp.pure (pc' := pc + 1) (st' := (1, wrapl (x * y)) :: st) (fun h h2 hM => RS.cons (r_wrapl_r _) h.tl.tl) (fun hm hK hC hS hP hl h1 h2 k => ?_) k
  refine lv_lmul hm.1 hm.2.1 hd ?_
  rw [← Int64.ofInt_mul, ← r_wrapl]
  exact k
theorem wp_land {x y : Int} (hd : decode μ.2.1 pc = .ok (.land, 1))  (k : Wp l g d a b n μ (pc + 1) ((1, lnd x y) :: st) loc M Q) : Wp l g d a b n μ pc ((1, y) :: (1, x) :: st) loc M Q := by
  refine Wp.pure (pc' := pc + 1) (st' := (1, lnd x y) :: st) (fun h h2 hM => RS.cons (r_rngl _) h.tl.tl) (fun hm hK hC hS hP hl h1 h2 k => ?_) k
  refine lv_land hm.1 hm.2.1 hd ?_
  have k : W _ _ _ _ _ _ _ _ _ _ _ _ _ _ _ (F0 _ _ _ (.long (Int64.ofInt (lnd x y)) :: _)) := k
  unfold lnd at k
  rw [Int64.ofInt_toInt] at k
  exact k
theorem wp_lor {x y : Int} (hd : decode μ.2.1 pc = .ok (.lor, 1))  (k : Wp l g d a b n μ (pc + 1) ((1, lor' x y) :: st) loc M Q) : Wp l g d a b n μ pc ((1, y) :: (1, x) :: st) loc M Q := by
  refine Wp.pure (pc' := pc + 1) (st' := (1, lor' x y) :: st) (fun h h2 hM => RS.cons (r_rngl _) h.tl.tl) (fun hm hK hC hS hP hl h1 h2 k => ?_) k
  refine lv_lor hm.1 hm.2.1 hd ?_
  have k : W _ _ _ _ _ _ _ _ _ _ _ _ _ _ _ (F0 _ _ _ (.long (Int64.ofInt (lor' x y)) :: _)) := k
  unfold lor' at k
  rw [Int64.ofInt_toInt] at k
  exact k
theorem wp_lshl {x y : Int} (hd : decode μ.2.1 pc = .ok (.lshl, 1)) (k : Wp l g d a b n μ (pc + 1) ((1, lsl' x y) :: st) loc M Q) : Wp l g d a b n μ pc ((0, y) :: (1, x) :: st) loc M Q := by
  refine Wp.pure (pc' := pc + 1) (st' := (1, lsl' x y) :: st) (fun h h2 hM => RS.cons (r_rngl _) h.tl.tl) (fun hm hK hC hS hP hl h1 h2 k => ?_) k
  refine lv_lshl hm.1 hm.2.1 hd rfl ?_
  have k : W _ _ _ _ _ _ _ _ _ _ _ _ _ _ _ (F0 _ _ _ (.long (Int64.ofInt (lsl' x y)) :: _)) := k
  unfold lsl' at k
  rw [Int64.ofInt_toInt] at k
  exact k
theorem wp_lushr {x y : Int} (hd : decode μ.2.1 pc = .ok (.lushr, 1)) (k : Wp l g d a b n μ (pc + 1) ((1, lus x y) :: st) loc M Q) : Wp l g d a b n μ pc ((0, y) :: (1, x) :: st) loc M Q := by
  refine Wp.pure (pc' := pc + 1) (st' := (1, lus x y) :: st) (fun h h2 hM => RS.cons (r_rngl _) h.tl.tl) (fun hm hK hC hS hP hl h1 h2 k => ?_) k
  refine lv_lushr hm.1 hm.2.1 hd rfl ?_
  have k : W _ _ _ _ _ _ _ _ _ _ _ _ _ _ _ (F0 _ _ _ (.long (Int64.ofInt (lus x y)) :: _)) := k
  unfold lus at k
  rw [Int64.ofInt_toInt] at k
  exact k
theorem wp_ldiv {x y : Int} (hd : decode μ.2.1 pc = .ok (.ldiv, 1)) (hy : 0 < y) (k : Wp l g d a b n μ (pc + 1) ((1, x.tdiv y) :: st) loc M Q) : Wp l g d a b n μ pc ((1, y) :: (1, x) :: st) loc M Q := by
  refine Wp.pure (pc' := pc + 1) (st' := (1, x.tdiv y) :: st) (fun h h2 hM => RS.cons ((r_tdivl h.tl.hd hy h.hd).2) h.tl.tl) (fun hm hK hC hS hP hl h1 h2 k => ?_) k
  refine lv_ldiv hm.1 hm.2.1 hd (r_ne0l hy h1.hd) ?_
  rw [(r_tdivl h1.tl.hd hy h1.hd).1]
  exact k
theorem wp_lrem {x y : Int} (hd : decode μ.2.1 pc = .ok (.lrem, 1)) (hy : 0 < y) (k : Wp l g d a b n μ (pc + 1) ((1, x.tmod y) :: st) loc M Q) : Wp l g d a b n μ pc ((1, y) :: (1, x) :: st) loc M Q := by
  refine Wp.pure (pc' := pc + 1) (st' := (1, x.tmod y) :: st) (fun h h2 hM => RS.cons ((r_tmodl h.tl.hd hy h.hd).2) h.tl.tl) (fun hm hK hC hS hP hl h1 h2 k => ?_) k
  refine lv_lrem hm.1 hm.2.1 hd (r_ne0l hy h1.hd) ?_
  rw [(r_tmodl h1.tl.hd hy h1.hd).1]
  exact k
theorem r_lcp {x y : Int} (hx : wr (1, x)) (hy : wr (1, y)) : lg_cmp (Int64.ofInt x) (Int64.ofInt y) = Int32.ofInt (lcp x y) := by
  have h1 : Int64.ofInt y < Int64.ofInt x ↔ y < x := by rw [Int64.lt_iff_toInt_lt, r_i64 hx, r_i64 hy]
  have h2 : Int64.ofInt x = Int64.ofInt y ↔ x = y := by rw [← Int64.toInt_inj, r_i64 hx, r_i64 hy]
  unfold lg_cmp lcp
  by_cases c1 : y < x
  · simp [h1.mpr c1, c1]
  · have c1' : ¬ Int64.ofInt y < Int64.ofInt x := fun q => c1 (h1.mp q)
    by_cases c2 : x = y
    · simp [c2]
    · have c2' : ¬ Int64.ofInt x = Int64.ofInt y := fun q => c2 (h2.mp q)
      simp [c1, c2, c1', c2']
theorem lcp_3 (x y : Int) : lcp x y = 1 ∨ lcp x y = 0 ∨ lcp x y = -1 := by
  unfold lcp
  by_cases h : y < x
  · simp [h]
  · by_cases h2 : x = y
    · simp [h2]
    · simp [h, h2]
theorem lcp_r (x y : Int) : wr (0, lcp x y) := by
  rcases lcp_3 x y with h | h | h <;> rw [h] <;> exact wr_i (by omega)
theorem wp_lcmp {x y : Int} (hd : decode μ.2.1 pc = .ok (.lcmp, 1)) (k : Wp l g d a b n μ (pc + 1) ((0, lcp x y) :: st) loc M Q) : Wp l g d a b n μ pc ((1, y) :: (1, x) :: st) loc M Q := by
  refine Wp.pure (pc' := pc + 1) (st' := (0, lcp x y) :: st) (fun h h2 hM => RS.cons (lcp_r _ _) h.tl.tl) (fun hm hK hC hS hP hl h1 h2 k => ?_) k
  refine W.lcmp hm.1 hm.2.1 hd ?_
  rw [r_lcp h1.tl.hd h1.hd]
  exact k
theorem wp_i2l {x : Int} (hd : decode μ.2.1 pc = .ok (.i2l, 1)) (k : Wp l g d a b n μ (pc + 1) ((1, x) :: st) loc M Q) : Wp l g d a b n μ pc ((0, x) :: st) loc M Q := by
  refine Wp.pure (pc' := pc + 1) (st' := (1, x) :: st) (fun h h2 hM => RS.cons (by have q : -2147483648 ≤ x ∧ x < 2147483648 := h.hd; exact ⟨by omega, by omega⟩) h.tl) (fun hm hK hC hS hP hl h1 h2 k => ?_) k
  refine lv_i2l hm.1 hm.2.1 hd ?_ k
  apply Int64.toInt_inj.mp
  have q : -2147483648 ≤ x ∧ x < 2147483648 := h1.hd
  rw [Int32.toInt_toInt64, r_i32 h1.hd, r_i64 ⟨by omega, by omega⟩]
theorem wp_l2i {x : Int} (hd : decode μ.2.1 pc = .ok (.l2i, 1)) (k : Wp l g d a b n μ (pc + 1) ((0, wrap x) :: st) loc M Q) : Wp l g d a b n μ pc ((1, x) :: st) loc M Q := by
  refine Wp.pure (pc' := pc + 1) (st' := (0, wrap x) :: st) (fun h h2 hM => RS.cons (r_wrap_r _) h.tl) (fun hm hK hC hS hP hl h1 h2 k => ?_) k
  refine lv_l2i hm.1 hm.2.1 hd ?_ k
  rw [r_wrap]
  apply Int32.toInt_inj.mp
  rw [Int64.toInt_toInt32, r_i64 h1.hd, Int32.toInt_ofInt]
def i8 (x : Int) : Int := (Int32.ofInt x).toInt8.toInt32.toInt
def i16 (x : Int) : Int := (Int32.ofInt x).toInt16.toInt32.toInt
def u16 (x : Int) : Int := ((Int32.ofInt x).toUInt32 % 65536).toInt32.toInt
theorem wp_i2b {x : Int} (hd : decode μ.2.1 pc = .ok (.i2b, 1)) (k : Wp l g d a b n μ (pc + 1) ((0, i8 x) :: st) loc M Q) : Wp l g d a b n μ pc ((0, x) :: st) loc M Q := by
  refine Wp.pure (pc' := pc + 1) (st' := (0, i8 x) :: st) (fun h h2 hM => RS.cons (r_rng _) h.tl) (fun hm hK hC hS hP hl h1 h2 k => ?_) k
  refine lv_i2b hm.1 hm.2.1 hd ?_ k
  unfold i8
  rw [Int32.ofInt_toInt]
theorem wp_i2s {x : Int} (hd : decode μ.2.1 pc = .ok (.i2s, 1)) (k : Wp l g d a b n μ (pc + 1) ((0, i16 x) :: st) loc M Q) : Wp l g d a b n μ pc ((0, x) :: st) loc M Q := by
  refine Wp.pure (pc' := pc + 1) (st' := (0, i16 x) :: st) (fun h h2 hM => RS.cons (r_rng _) h.tl) (fun hm hK hC hS hP hl h1 h2 k => ?_) k
  refine lv_i2s hm.1 hm.2.1 hd ?_ k
  unfold i16
  rw [Int32.ofInt_toInt]
theorem wp_i2c {x : Int} (hd : decode μ.2.1 pc = .ok (.i2c, 1)) (k : Wp l g d a b n μ (pc + 1) ((0, u16 x) :: st) loc M Q) : Wp l g d a b n μ pc ((0, x) :: st) loc M Q := by
  refine Wp.pure (pc' := pc + 1) (st' := (0, u16 x) :: st) (fun h h2 hM => RS.cons (r_rng _) h.tl) (fun hm hK hC hS hP hl h1 h2 k => ?_) k
  refine lv_i2c hm.1 hm.2.1 hd ?_ k
  unfold u16
  rw [Int32.ofInt_toInt]
theorem wv_cat0 (x : Int) : (wv g (0, x)).category = 1 := rfl
theorem wv_cat2 (x : Int) : (wv g (2, x)).category = 1 := by
  show (rv g x).category = 1
  unfold rv
  split <;> rfl
theorem wv_cat {w : Wd} (h : w.1 = 0 ∨ w.1 = 2) : (wv g w).category = 1 := by
  obtain ⟨t, x⟩ := w
  rcases h with h | h
  · change t = 0 at h; subst h; rfl
  · change t = 2 at h; subst h; exact wv_cat2 x
theorem wp_dup {w : Wd} (hd : decode μ.2.1 pc = .ok (.dup, 1)) (hw : w.1 = 0 ∨ w.1 = 2 := by decide) (k : Wp l g d a b n μ (pc + 1) (w :: w :: st) loc M Q) : Wp l g d a b n μ pc (w :: st) loc M Q := by
  refine Wp.pure (pc' := pc + 1) (st' := w :: w :: st) (fun h h2 hM => RS.cons h.hd h) (fun hm hK hC hS hP hl h1 h2 k => ?_) k
  exact lv_dup hm.1 hm.2.1 hd (wv_cat hw) k
theorem wp_pop {w : Wd} (hd : decode μ.2.1 pc = .ok (.pop, 1)) (hw : w.1 = 0 ∨ w.1 = 2 := by decide) (k : Wp l g d a b n μ (pc + 1) (st) loc M Q) : Wp l g d a b n μ pc (w :: st) loc M Q := by
  refine Wp.pure (pc' := pc + 1) (st' := st) (fun h h2 hM => h.tl) (fun hm hK hC hS hP hl h1 h2 k => ?_) k
  exact lv_pop hm.1 hm.2.1 hd (wv_cat hw) k
theorem wp_dup2 {w v : Wd} (hd : decode μ.2.1 pc = .ok (.dup2, 1)) (hw : w.1 = 0 ∨ w.1 = 2 := by decide) (hv : v.1 = 0 ∨ v.1 = 2 := by decide) (k : Wp l g d a b n μ (pc + 1) (w :: v :: w :: v :: st) loc M Q) : Wp l g d a b n μ pc (w :: v :: st) loc M Q := by
  refine Wp.pure (pc' := pc + 1) (st' := w :: v :: w :: v :: st) (fun h h2 hM => RS.cons h.hd (RS.cons h.tl.hd h)) (fun hm hK hC hS hP hl h1 h2 k => ?_) k
  exact lv_dup2_11 hm.1 hm.2.1 hd (wv_cat hw) (wv_cat hv) k
theorem wp_if_eq {x : Int} {off : Int} {tgt : Nat} (hd : decode μ.2.1 pc = .ok (.ifCond .eq off, 3)) (ht : (pc : Int) + off = (tgt : Int)) (kt : x = 0 → Wp l g d a b n μ tgt st loc M Q) (kf : ¬ (x = 0) → Wp l g d a b n μ (pc + 3) st loc M Q) : Wp l g d a b n μ pc ((0, x) :: st) loc M Q := by
  intro p e s m args below meth c R H locs cells slots ls F hm hK hC hS hP hr hc hs hl h1 h2 hf
  exact lv_if_eq hm.1 hm.2.1 hd ht (fun q => kt ((r_eq0 h1.hd).mp q) p e s m args below meth c R H locs cells slots ls F hm hK hC hS hP hr hc hs hl h1.tl h2 hf) (fun q => kf (fun z => q ((r_eq0 h1.hd).mpr z)) p e s m args below meth c R H locs cells slots ls F hm hK hC hS hP hr hc hs hl h1.tl h2 hf)
theorem wp_icmp_eq {x y : Int} {off : Int} {tgt : Nat} (hd : decode μ.2.1 pc = .ok (.if_icmp .eq off, 3)) (ht : (pc : Int) + off = (tgt : Int)) (kt : x = y → Wp l g d a b n μ tgt st loc M Q) (kf : ¬ (x = y) → Wp l g d a b n μ (pc + 3) st loc M Q) : Wp l g d a b n μ pc ((0, y) :: (0, x) :: st) loc M Q := by
  intro p e s m args below meth c R H locs cells slots ls F hm hK hC hS hP hr hc hs hl h1 h2 hf
  exact lv_icmp_eq hm.1 hm.2.1 hd ht (fun q => kt ((r_eq h1.tl.hd h1.hd).mp q) p e s m args below meth c R H locs cells slots ls F hm hK hC hS hP hr hc hs hl h1.tl.tl h2 hf) (fun q => kf (fun z => q ((r_eq h1.tl.hd h1.hd).mpr z)) p e s m args below meth c R H locs cells slots ls F hm hK hC hS hP hr hc hs hl h1.tl.tl h2 hf)
theorem wp_if_ne {x : Int} {off : Int} {tgt : Nat} (hd : decode μ.2.1 pc = .ok (.ifCond .ne off, 3)) (ht : (pc : Int) + off = (tgt : Int)) (kt : ¬ x = 0 → Wp l g d a b n μ tgt st loc M Q) (kf : x = 0 → Wp l g d a b n μ (pc + 3) st loc M Q) : Wp l g d a b n μ pc ((0, x) :: st) loc M Q := by
  intro p e s m args below meth c R H locs cells slots ls F hm hK hC hS hP hr hc hs hl h1 h2 hf
  refine lv_if_ne hm.1 hm.2.1 hd ht (fun q => ?_) (fun q => ?_)
  · exact kt (fun z => q ((r_eq0 h1.hd).mpr z)) p e s m args below meth c R H locs cells slots ls F hm hK hC hS hP hr hc hs hl h1.tl h2 hf
  · exact kf ((r_eq0 h1.hd).mp q) p e s m args below meth c R H locs cells slots ls F hm hK hC hS hP hr hc hs hl h1.tl h2 hf
theorem wp_icmp_ne {x y : Int} {off : Int} {tgt : Nat} (hd : decode μ.2.1 pc = .ok (.if_icmp .ne off, 3)) (ht : (pc : Int) + off = (tgt : Int)) (kt : ¬ x = y → Wp l g d a b n μ tgt st loc M Q) (kf : x = y → Wp l g d a b n μ (pc + 3) st loc M Q) : Wp l g d a b n μ pc ((0, y) :: (0, x) :: st) loc M Q := by
  intro p e s m args below meth c R H locs cells slots ls F hm hK hC hS hP hr hc hs hl h1 h2 hf
  refine lv_icmp_ne hm.1 hm.2.1 hd ht (fun q => ?_) (fun q => ?_)
  · exact kt (fun z => q ((r_eq h1.tl.hd h1.hd).mpr z)) p e s m args below meth c R H locs cells slots ls F hm hK hC hS hP hr hc hs hl h1.tl.tl h2 hf
  · exact kf ((r_eq h1.tl.hd h1.hd).mp q) p e s m args below meth c R H locs cells slots ls F hm hK hC hS hP hr hc hs hl h1.tl.tl h2 hf
theorem wp_if_lt {x : Int} {off : Int} {tgt : Nat} (hd : decode μ.2.1 pc = .ok (.ifCond .lt off, 3)) (ht : (pc : Int) + off = (tgt : Int)) (kt : x < 0 → Wp l g d a b n μ tgt st loc M Q) (kf : ¬ (x < 0) → Wp l g d a b n μ (pc + 3) st loc M Q) : Wp l g d a b n μ pc ((0, x) :: st) loc M Q := by
  intro p e s m args below meth c R H locs cells slots ls F hm hK hC hS hP hr hc hs hl h1 h2 hf
  exact lv_if_lt hm.1 hm.2.1 hd ht (fun q => kt ((r_lt0 h1.hd).mp q) p e s m args below meth c R H locs cells slots ls F hm hK hC hS hP hr hc hs hl h1.tl h2 hf) (fun q => kf (fun z => q ((r_lt0 h1.hd).mpr z)) p e s m args below meth c R H locs cells slots ls F hm hK hC hS hP hr hc hs hl h1.tl h2 hf)
theorem wp_icmp_lt {x y : Int} {off : Int} {tgt : Nat} (hd : decode μ.2.1 pc = .ok (.if_icmp .lt off, 3)) (ht : (pc : Int) + off = (tgt : Int)) (kt : x < y → Wp l g d a b n μ tgt st loc M Q) (kf : ¬ (x < y) → Wp l g d a b n μ (pc + 3) st loc M Q) : Wp l g d a b n μ pc ((0, y) :: (0, x) :: st) loc M Q := by
  intro p e s m args below meth c R H locs cells slots ls F hm hK hC hS hP hr hc hs hl h1 h2 hf
  exact lv_icmp_lt hm.1 hm.2.1 hd ht (fun q => kt ((r_lt h1.tl.hd h1.hd).mp q) p e s m args below meth c R H locs cells slots ls F hm hK hC hS hP hr hc hs hl h1.tl.tl h2 hf) (fun q => kf (fun z => q ((r_lt h1.tl.hd h1.hd).mpr z)) p e s m args below meth c R H locs cells slots ls F hm hK hC hS hP hr hc hs hl h1.tl.tl h2 hf)
theorem wp_if_ge {x : Int} {off : Int} {tgt : Nat} (hd : decode μ.2.1 pc = .ok (.ifCond .ge off, 3)) (ht : (pc : Int) + off = (tgt : Int)) (kt : 0 ≤ x → Wp l g d a b n μ tgt st loc M Q) (kf : ¬ (0 ≤ x) → Wp l g d a b n μ (pc + 3) st loc M Q) : Wp l g d a b n μ pc ((0, x) :: st) loc M Q := by
  intro p e s m args below meth c R H locs cells slots ls F hm hK hC hS hP hr hc hs hl h1 h2 hf
  exact lv_if_ge hm.1 hm.2.1 hd ht (fun q => kt ((r_ge0 h1.hd).mp q) p e s m args below meth c R H locs cells slots ls F hm hK hC hS hP hr hc hs hl h1.tl h2 hf) (fun q => kf (fun z => q ((r_ge0 h1.hd).mpr z)) p e s m args below meth c R H locs cells slots ls F hm hK hC hS hP hr hc hs hl h1.tl h2 hf)
theorem wp_icmp_ge {x y : Int} {off : Int} {tgt : Nat} (hd : decode μ.2.1 pc = .ok (.if_icmp .ge off, 3)) (ht : (pc : Int) + off = (tgt : Int)) (kt : y ≤ x → Wp l g d a b n μ tgt st loc M Q) (kf : ¬ (y ≤ x) → Wp l g d a b n μ (pc + 3) st loc M Q) : Wp l g d a b n μ pc ((0, y) :: (0, x) :: st) loc M Q := by
  intro p e s m args below meth c R H locs cells slots ls F hm hK hC hS hP hr hc hs hl h1 h2 hf
  exact lv_icmp_ge hm.1 hm.2.1 hd ht (fun q => kt ((r_le h1.hd h1.tl.hd).mp q) p e s m args below meth c R H locs cells slots ls F hm hK hC hS hP hr hc hs hl h1.tl.tl h2 hf) (fun q => kf (fun z => q ((r_le h1.hd h1.tl.hd).mpr z)) p e s m args below meth c R H locs cells slots ls F hm hK hC hS hP hr hc hs hl h1.tl.tl h2 hf)
theorem wp_if_gt {x : Int} {off : Int} {tgt : Nat} (hd : decode μ.2.1 pc = .ok (.ifCond .gt off, 3)) (ht : (pc : Int) + off = (tgt : Int)) (kt : 0 < x → Wp l g d a b n μ tgt st loc M Q) (kf : ¬ (0 < x) → Wp l g d a b n μ (pc + 3) st loc M Q) : Wp l g d a b n μ pc ((0, x) :: st) loc M Q := by
  intro p e s m args below meth c R H locs cells slots ls F hm hK hC hS hP hr hc hs hl h1 h2 hf
  exact lv_if_gt hm.1 hm.2.1 hd ht (fun q => kt ((r_gt0 h1.hd).mp q) p e s m args below meth c R H locs cells slots ls F hm hK hC hS hP hr hc hs hl h1.tl h2 hf) (fun q => kf (fun z => q ((r_gt0 h1.hd).mpr z)) p e s m args below meth c R H locs cells slots ls F hm hK hC hS hP hr hc hs hl h1.tl h2 hf)
theorem wp_icmp_gt {x y : Int} {off : Int} {tgt : Nat} (hd : decode μ.2.1 pc = .ok (.if_icmp .gt off, 3)) (ht : (pc : Int) + off = (tgt : Int)) (kt : y < x → Wp l g d a b n μ tgt st loc M Q) (kf : ¬ (y < x) → Wp l g d a b n μ (pc + 3) st loc M Q) : Wp l g d a b n μ pc ((0, y) :: (0, x) :: st) loc M Q := by
  intro p e s m args below meth c R H locs cells slots ls F hm hK hC hS hP hr hc hs hl h1 h2 hf
  exact lv_icmp_gt hm.1 hm.2.1 hd ht (fun q => kt ((r_lt h1.hd h1.tl.hd).mp q) p e s m args below meth c R H locs cells slots ls F hm hK hC hS hP hr hc hs hl h1.tl.tl h2 hf) (fun q => kf (fun z => q ((r_lt h1.hd h1.tl.hd).mpr z)) p e s m args below meth c R H locs cells slots ls F hm hK hC hS hP hr hc hs hl h1.tl.tl h2 hf)
theorem wp_if_le {x : Int} {off : Int} {tgt : Nat} (hd : decode μ.2.1 pc = .ok (.ifCond .le off, 3)) (ht : (pc : Int) + off = (tgt : Int)) (kt : x ≤ 0 → Wp l g d a b n μ tgt st loc M Q) (kf : ¬ (x ≤ 0) → Wp l g d a b n μ (pc + 3) st loc M Q) : Wp l g d a b n μ pc ((0, x) :: st) loc M Q := by
  intro p e s m args below meth c R H locs cells slots ls F hm hK hC hS hP hr hc hs hl h1 h2 hf
  exact lv_if_le hm.1 hm.2.1 hd ht (fun q => kt ((r_le0 h1.hd).mp q) p e s m args below meth c R H locs cells slots ls F hm hK hC hS hP hr hc hs hl h1.tl h2 hf) (fun q => kf (fun z => q ((r_le0 h1.hd).mpr z)) p e s m args below meth c R H locs cells slots ls F hm hK hC hS hP hr hc hs hl h1.tl h2 hf)
theorem wp_icmp_le {x y : Int} {off : Int} {tgt : Nat} (hd : decode μ.2.1 pc = .ok (.if_icmp .le off, 3)) (ht : (pc : Int) + off = (tgt : Int)) (kt : x ≤ y → Wp l g d a b n μ tgt st loc M Q) (kf : ¬ (x ≤ y) → Wp l g d a b n μ (pc + 3) st loc M Q) : Wp l g d a b n μ pc ((0, y) :: (0, x) :: st) loc M Q := by
  intro p e s m args below meth c R H locs cells slots ls F hm hK hC hS hP hr hc hs hl h1 h2 hf
  exact lv_icmp_le hm.1 hm.2.1 hd ht (fun q => kt ((r_le h1.tl.hd h1.hd).mp q) p e s m args below meth c R H locs cells slots ls F hm hK hC hS hP hr hc hs hl h1.tl.tl h2 hf) (fun q => kf (fun z => q ((r_le h1.tl.hd h1.hd).mpr z)) p e s m args below meth c R H locs cells slots ls F hm hK hC hS hP hr hc hs hl h1.tl.tl h2 hf)
theorem wp_goto {off : Int} {tgt : Nat} (hd : decode μ.2.1 pc = .ok (.goto off, 3)) (ht : (pc : Int) + off = (tgt : Int)) (k : Wp l g d a b n μ tgt st loc M Q) : Wp l g d a b n μ pc st loc M Q := by
  refine Wp.pure (pc' := tgt) (st' := st) (fun h _ _ => h) (fun hm hK hC hS hP hl h1 h2 k => ?_) k
  exact lv_goto hm.1 hm.2.1 hd ht k
theorem wp_ifnull {x : Int} {off : Int} {tgt : Nat} (hd : decode μ.2.1 pc = .ok (.ifnull off, 3)) (ht : (pc : Int) + off = (tgt : Int)) (kt : x = 0 → Wp l g d a b n μ tgt st loc M Q) (kf : ¬ x = 0 → Wp l g d a b n μ (pc + 3) st loc M Q) : Wp l g d a b n μ pc ((2, x) :: st) loc M Q := by
  intro p e s m args below meth c R H locs cells slots ls F hm hK hC hS hP hr hc hs hl h1 h2 hf
  show W _ _ _ _ _ _ _ _ _ _ _ _ _ _ _ (F0 _ _ _ (rv g x :: _))
  unfold rv
  by_cases hx : x = 0
  · rw [if_pos hx]
    exact lv_ifnullN hm.1 hm.2.1 hd ht (kt hx p e s m args below meth c R H locs cells slots ls F hm hK hC hS hP hr hc hs hl h1.tl h2 hf)
  · rw [if_neg hx]
    exact lv_ifnull hm.1 hm.2.1 hd (kf hx p e s m args below meth c R H locs cells slots ls F hm hK hC hS hP hr hc hs hl h1.tl h2 hf)
theorem wp_ifnonnull {x : Int} {off : Int} {tgt : Nat} (hd : decode μ.2.1 pc = .ok (.ifnonnull off, 3)) (ht : (pc : Int) + off = (tgt : Int)) (kt : ¬ x = 0 → Wp l g d a b n μ tgt st loc M Q) (kf : x = 0 → Wp l g d a b n μ (pc + 3) st loc M Q) : Wp l g d a b n μ pc ((2, x) :: st) loc M Q := by
  intro p e s m args below meth c R H locs cells slots ls F hm hK hC hS hP hr hc hs hl h1 h2 hf
  show W _ _ _ _ _ _ _ _ _ _ _ _ _ _ _ (F0 _ _ _ (rv g x :: _))
  unfold rv
  by_cases hx : x = 0
  · rw [if_pos hx]
    exact lv_ifnonnullN hm.1 hm.2.1 hd (kf hx p e s m args below meth c R H locs cells slots ls F hm hK hC hS hP hr hc hs hl h1.tl h2 hf)
  · rw [if_neg hx]
    exact lv_ifnonnull hm.1 hm.2.1 hd ht (kt hx p e s m args below meth c R H locs cells slots ls F hm hK hC hS hP hr hc hs hl h1.tl h2 hf)
theorem wp_tabIn {x : Int} {dflt lo hi : Int} {offs : Array Int} {len : Nat} {off : Int} {tgt : Nat} (hd : decode μ.2.1 pc = .ok (.tableswitch dflt lo hi offs, len)) (i : Nat) (hx : x = lo + i) (h2 : lo + i ≤ hi) (ho : offs[i]? = some off) (ht : (pc : Int) + off = (tgt : Int)) (k : Wp l g d a b n μ tgt st loc M Q) : Wp l g d a b n μ pc ((0, x) :: st) loc M Q := by
  refine Wp.pure (pc' := tgt) (st' := st) (fun h _ _ => h.tl) (fun hm hK hC hS hP hl h1 h2 k => ?_) k
  have e : (Int32.ofInt x).toInt = x := r_i32 h1.hd
  exact lv_tableIn hm.1 hm.2.1 hd (by rw [e]; omega) (by rw [e]; omega) (by rw [e, show (x - lo).toNat = i by omega]; exact ho) ht k
theorem wp_tabOut {x : Int} {dflt lo hi : Int} {offs : Array Int} {len : Nat} {tgt : Nat} (hd : decode μ.2.1 pc = .ok (.tableswitch dflt lo hi offs, len)) (h : x < lo ∨ hi < x) (ht : (pc : Int) + dflt = (tgt : Int)) (k : Wp l g d a b n μ tgt st loc M Q) : Wp l g d a b n μ pc ((0, x) :: st) loc M Q := by
  refine Wp.pure (pc' := tgt) (st' := st) (fun h _ _ => h.tl) (fun hm hK hC hS hP hl h1 h2 k => ?_) k
  exact lv_tableOut hm.1 hm.2.1 hd (by rw [r_i32 h1.hd]; exact h) ht k
end WPA
