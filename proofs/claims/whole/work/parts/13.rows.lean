/-! ===== rules of the plain machine: rows ===== -/
theorem r_tn {j : Int} (h : wr (0, j)) : (Int32.ofInt j).toNatClampNeg = j.toNat := by
  show (Int32.ofInt j).toInt.toNat = j.toNat
  rw [r_i32 h]
theorem r_in {j : Int} {N : Nat} (h : wr (0, j)) (hj : 0 ≤ j ∧ j < (N : Int)) : ¬ (Int32.ofInt j < 0 ∨ N ≤ (Int32.ofInt j).toNatClampNeg) := by
  rw [r_tn h, r_lt0 h]
  omega
theorem KN.arr {g : Gw} {U : State} (h : KN g U) (t : Nat) {c : ClassId} {ty : FieldType} (ht : (aTys g)[t]? = some (c, ty)) : ArrOfT U c ty := (h.2 t _ ht).1
section WPD
variable {l : Launch} {g : Gw} {d a b n : Nat} {μ : Md} {pc : Nat} {st loc : List Wd} {M : Mm} {Q : Option Wd → Mm → Prop}
theorem wp_iald (i : Nat) {x : Int} (hx : x = (i : Int)) {N : Nat} {j : Int} (hk : kd i = (10, N)) (hi : 1 ≤ i ∧ i ≤ n) (hj : 0 ≤ j ∧ j < (N : Int)) (hd : decode μ.2.1 pc = .ok (.iaload, 1)) {v : Int} (hv : M i j.toNat = v) (kk : Wp l g d a b n μ (pc + 1) ((0, v) :: st) loc M Q) : Wp l g d a b n μ pc ((0, j) :: (2, x) :: st) loc M Q := by
  subst hx
  subst hv
  refine Wp.pure (pc' := pc + 1) (st' := (0, M i j.toNat) :: st) (fun h h2 hM => RS.cons (wr_i (hM i _)) h.tl.tl) (fun hm hK hC hS hP hl h1 h2 kk => ?_) kk
  show W _ _ _ _ _ _ _ _ _ _ _ _ _ _ _ (F0 _ _ _ (.int (Int32.ofInt j) :: rv g (i : Int) :: _))
  rw [rv_pos hi.1]
  refine W.iald (v := wv g (0, M i j.toNat)) hm.1 hm.2.1 (hP.ar hi hk (by omega)) (hK.arr 0 rfl N _) (fun q => by cases q) (by rw [arrV_size]; exact r_in h1.hd hj) ?_ rfl rfl hd kk
  rw [r_tn h1.hd, arrV_read _ _ (by omega)]
  rfl
theorem wp_zald (i : Nat) {x : Int} (hx : x = (i : Int)) {N : Nat} {j : Int} (hk : kd i = (11, N)) (hi : 1 ≤ i ∧ i ≤ n) (hj : 0 ≤ j ∧ j < (N : Int)) (hd : decode μ.2.1 pc = .ok (.baload, 1)) {v : Int} (hv : M i j.toNat = v) (kk : Wp l g d a b n μ (pc + 1) ((0, v) :: st) loc M Q) : Wp l g d a b n μ pc ((0, j) :: (2, x) :: st) loc M Q := by
  subst hx
  subst hv
  refine Wp.pure (pc' := pc + 1) (st' := (0, M i j.toNat) :: st) (fun h h2 hM => RS.cons (wr_i (hM i _)) h.tl.tl) (fun hm hK hC hS hP hl h1 h2 kk => ?_) kk
  show W _ _ _ _ _ _ _ _ _ _ _ _ _ _ _ (F0 _ _ _ (.int (Int32.ofInt j) :: rv g (i : Int) :: _))
  rw [rv_pos hi.1]
  refine W.zald (v := wv g (0, M i j.toNat)) hm.1 hm.2.1 (hP.ar hi hk (by omega)) (hK.arr 1 rfl N _) (fun q => by cases q) (by rw [arrV_size]; exact r_in h1.hd hj) ?_ rfl rfl hd kk
  rw [r_tn h1.hd, arrV_read _ _ (by omega)]
  rfl
theorem wp_aald (i : Nat) {x : Int} (hx : x = (i : Int)) {c t N : Nat} {j : Int} (hk : kd i = (c, N)) (hc : c = 12 ∧ t = 2 ∨ c = 13 ∧ t = 3) (hi : 1 ≤ i ∧ i ≤ n) (hj : 0 ≤ j ∧ j < (N : Int)) (hd : decode μ.2.1 pc = .ok (.aaload, 1)) {v : Int} (hv : M i j.toNat = v) (kk : Wp l g d a b n μ (pc + 1) ((2, v) :: st) loc M Q) : Wp l g d a b n μ pc ((0, j) :: (2, x) :: st) loc M Q := by
  subst hx
  subst hv
  refine Wp.pure (pc' := pc + 1) (st' := (2, M i j.toNat) :: st) (fun h h2 hM => RS.cons (wr_t _) h.tl.tl) (fun hm hK hC hS hP hl h1 h2 kk => ?_) kk
  show W _ _ _ _ _ _ _ _ _ _ _ _ _ _ _ (F0 _ _ _ (.int (Int32.ofInt j) :: rv g (i : Int) :: _))
  rw [rv_pos hi.1]
  rcases hc with ⟨rfl, -⟩ | ⟨rfl, -⟩
  · refine W.aald (v := wv g (2, M i j.toNat)) hm.1 hm.2.1 (hP.ar hi hk (by omega)) (hK.arr 2 rfl N _) rfl (fun q => by cases q) (by rw [arrV_size]; exact r_in h1.hd hj) ?_ rfl rfl hd kk
    rw [r_tn h1.hd, arrV_read _ _ (by omega)]
    rfl
  · refine W.aald (v := wv g (2, M i j.toNat)) hm.1 hm.2.1 (hP.ar hi hk (by omega)) (hK.arr 3 rfl N _) rfl (fun q => by cases q) (by rw [arrV_size]; exact r_in h1.hd hj) ?_ rfl rfl hd kk
    rw [r_tn h1.hd, arrV_read _ _ (by omega)]
    rfl
theorem wp_alen (i : Nat) {x : Int} (hx : x = (i : Int)) {c N : Nat} (hk : kd i = (c, N)) (hc : c = 10 ∨ c = 11) (hN : N < 2147483648) (hi : 1 ≤ i ∧ i ≤ n) (hd : decode μ.2.1 pc = .ok (.arraylength, 1)) (kk : Wp l g d a b n μ (pc + 1) ((0, (N : Int)) :: st) loc M Q) : Wp l g d a b n μ pc ((2, x) :: st) loc M Q := by
  subst hx
  refine Wp.pure (pc' := pc + 1) (st' := (0, (N : Int)) :: st) (fun h h2 hM => RS.cons (wr_i (by omega)) h.tl) (fun hm hK hC hS hP hl h1 h2 kk => ?_) kk
  show W _ _ _ _ _ _ _ _ _ _ _ _ _ _ _ (F0 _ _ _ (rv g (i : Int) :: _))
  rw [rv_pos hi.1]
  rcases hc with rfl | rfl
  · exact W.alen (n := Int32.ofInt (N : Int)) hm.1 hm.2.1 (hP.ar hi hk (by omega)) (hK.arr 0 rfl N _) (by rw [arrV_size]; rfl) rfl rfl hd kk
  · exact W.alen (n := Int32.ofInt (N : Int)) hm.1 hm.2.1 (hP.ar hi hk (by omega)) (hK.arr 1 rfl N _) (by rw [arrV_size]; rfl) rfl rfl hd kk
theorem cell_set {g : Gw} {M : Mm} {i c N k : Nat} {v : Int} {H' : Heap} (hk : kd i = (c, N)) (hc : 9 ≤ c) (h : H'[adg g i]? = some ((arrV (g.2.2.1 (c - 10)) N (fun j => wv g (et c, M i j))).setSlot k (wv g (et c, v)))) : cellOK g (mu M i k v) i H' := by
  unfold cellOK
  rw [hk, if_neg (by omega), h, arrV_store]
  congr 2
  funext j
  by_cases hj : j = k
  · subst hj; simp [updV, mu]
  · simp [updV, mu, hj]
theorem wp_iast (i : Nat) {x : Int} (hx : x = (i : Int)) {N : Nat} {j v : Int} (hk : kd i = (10, N)) (hi : 1 ≤ i ∧ i ≤ n) (hj : 0 ≤ j ∧ j < (N : Int)) (hd : decode μ.2.1 pc = .ok (.iastore, 1)) {jn : Nat} (hjn : j.toNat = jn) (kk : Wp l g d a b n μ (pc + 1) st loc (mu M i jn v) Q) : Wp l g d a b n μ pc ((0, v) :: (0, j) :: (2, x) :: st) loc M Q := by
  subst hx
  subst hjn
  intro p e s m args below meth cd R H locs cells slots ls F hm hK hC hS hP hr hcc hs hl h1 h2 hfi
  show W _ _ _ _ _ _ _ _ _ _ _ _ _ _ _ (F0 _ _ _ (.int (Int32.ofInt v) :: .int (Int32.ofInt j) :: rv g (i : Int) :: _))
  rw [rv_pos hi.1]
  refine W.iast hm.1 hm.2.1 (hP.ar hi hk (by omega)) (hK.arr 0 rfl N _) (fun q => by cases q) (by rw [arrV_size]; exact r_in h1.tl.hd hj) rfl rfl hd fun H' e1 e2 e3 => ?_
  rw [r_tn h1.tl.hd] at e1
  exact kk p e s m args below meth cd R H' _ cells slots ls F hm hK hC (hS.put e2 e3 (by show gB g < adg g i; rw [adg_lt (by have := hP.2.2.2.2; omega)]; omega)) (hP.upd hi h1.hd e2 e3 (cell_set hk (by omega) e1)) hr hcc hs hl h1.tl.tl.tl h2 hfi
theorem wp_zast (i : Nat) {x : Int} (hx : x = (i : Int)) {N : Nat} {j v : Int} (hk : kd i = (11, N)) (hi : 1 ≤ i ∧ i ≤ n) (hj : 0 ≤ j ∧ j < (N : Int)) (hv : v = 0 ∨ v = 1) (hd : decode μ.2.1 pc = .ok (.bastore, 1)) {jn : Nat} (hjn : j.toNat = jn) (kk : Wp l g d a b n μ (pc + 1) st loc (mu M i jn v) Q) : Wp l g d a b n μ pc ((0, v) :: (0, j) :: (2, x) :: st) loc M Q := by
  subst hx
  subst hjn
  intro p e s m args below meth cd R H locs cells slots ls F hm hK hC hS hP hr hcc hs hl h1 h2 hfi
  show W _ _ _ _ _ _ _ _ _ _ _ _ _ _ _ (F0 _ _ _ (.int (Int32.ofInt v) :: .int (Int32.ofInt j) :: rv g (i : Int) :: _))
  rw [rv_pos hi.1]
  refine W.zast hm.1 hm.2.1 (hP.ar hi hk (by omega)) (hK.arr 1 rfl N _) (fun q => by cases q) (by rw [arrV_size]; exact r_in h1.tl.hd hj) rfl rfl hd fun H' e1 e2 e3 => ?_
  rw [r_tn h1.tl.hd] at e1
  have e1' : H'[adg g i]? = some ((arrV (g.2.2.1 (11 - 10)) N (fun j => wv g (et 11, M i j))).setSlot j.toNat (wv g (et 11, v))) := by
    rw [e1]
    congr 2
    exact (fit_z g hv).1
  exact kk p e s m args below meth cd R H' _ cells slots ls F hm hK hC (hS.put e2 e3 (by show gB g < adg g i; rw [adg_lt (by have := hP.2.2.2.2; omega)]; omega)) (hP.upd hi h1.hd e2 e3 (cell_set hk (by omega) e1')) hr hcc hs hl h1.tl.tl.tl h2 hfi
/-- a reference into a row of Text (12) or Sheet (13) -/
theorem wp_aast (i : Nat) {x : Int} (hx : x = (i : Int)) (i2 : Nat) {x2 : Int} (hx2 : x2 = (i2 : Int)) {c c2 t N N2 : Nat} {j : Int} (hk : kd i = (c, N)) (hk2 : kd i2 = (c2, N2)) (hc : c = 12 ∧ t = 2 ∧ c2 = 5 ∨ c = 13 ∧ t = 3 ∧ c2 = 4) (hi : 1 ≤ i ∧ i ≤ n) (hi2 : 1 ≤ i2 ∧ i2 ≤ n) (hj : 0 ≤ j ∧ j < (N : Int)) (hd : decode μ.2.1 pc = .ok (.aastore, 1)) (kk : Wp l g d a b n μ (pc + 1) st loc (mu M i j.toNat x2) Q) : Wp l g d a b n μ pc ((2, x2) :: (0, j) :: (2, x) :: st) loc M Q := by
  subst hx
  subst hx2
  intro p e s m args below meth cd R H locs cells slots ls F hm hK hC hS hP hr hcc hs hl h1 h2 hfi
  show W _ _ _ _ _ _ _ _ _ _ _ _ _ _ _ (F0 _ _ _ (rv g (i2 : Int) :: .int (Int32.ofInt j) :: rv g (i : Int) :: _))
  have e9 : et c = 2 := by rcases hc with ⟨rfl, -⟩ | ⟨rfl, -⟩ <;> rfl
  have hn := hP.2.2.2.2
  have key : ∀ H' : Heap, H'[adg g i]? = some ((arrV (g.2.2.1 (c - 10)) N (fun j => wv g (et c, M i j))).setSlot (Int32.ofInt j).toNatClampNeg (.ref (adg g i2))) → H'.size = H.size → (∀ q, q ≠ adg g i → H'[q]? = H[q]?) → W p l e R s m args below meth cd H' (locs ++ [⟨adg g i, (Int32.ofInt j).toNatClampNeg⟩]) cells slots F (F0 m (pc + 1) ls (st.map (wv g))) := by
    intro H' e1 e2 e3
    rw [r_tn h1.tl.hd] at e1
    have e1' : H'[adg g i]? = some ((arrV (g.2.2.1 (c - 10)) N (fun j => wv g (et c, M i j))).setSlot j.toNat (wv g (et c, (i2 : Int)))) := by
      rw [e1, e9]
      show _ = some ((arrV _ _ _).setSlot j.toNat (rv g (i2 : Int)))
      rw [rv_pos hi2.1]
    exact kk p e s m args below meth cd R H' _ cells slots ls F hm hK hC (hS.put e2 e3 (by show gB g < adg g i; rw [adg_lt (by omega)]; omega)) (hP.upd hi (by omega) e2 e3 (cell_set hk (by omega) e1')) hr hcc hs hl h1.tl.tl.tl h2 hfi
  rw [rv_pos hi.1, rv_pos hi2.1]
  rcases hc with ⟨rfl, -, rfl⟩ | ⟨rfl, -, rfl⟩
  · obtain ⟨cellV, g1, g2, g3, -⟩ := hP.ob hi2 hk2 (by omega)
    have hcls := (hK.1 5 _ (clT_at 5 (by omega))).2
    obtain ⟨kA, comp, k1, k2, k3, -⟩ := (hK.2 2 _ rfl).2
    have hcomp : comp = g.1 5 := Option.some.inj (k3.symm.trans hcls.1)
    subst hcomp
    obtain ⟨kC, hkC, -⟩ := hcls.2
    exact W.aast hm.1 hm.2.1 (hP.ar hi hk (by omega)) (fun q h => by cases h) (fun h => by cases h) k1 k2 rfl hkC ⟨by rw [r_lt0 h1.tl.hd]; omega, by rw [arrV_size, r_tn h1.tl.hd]; omega⟩ g1 (fun q h => by rw [g3] at h; cases h) (by rw [g2]; exact hkC) (by rw [g2]; exact va_assign hcls) rfl rfl hd key
  · obtain ⟨cellV, g1, g2, g3, -⟩ := hP.ob hi2 hk2 (by omega)
    have hcls := (hK.1 4 _ (clT_at 4 (by omega))).2
    obtain ⟨kA, comp, k1, k2, k3, -⟩ := (hK.2 3 _ rfl).2
    have hcomp : comp = g.1 4 := Option.some.inj (k3.symm.trans hcls.1)
    subst hcomp
    obtain ⟨kC, hkC, -⟩ := hcls.2
    exact W.aast hm.1 hm.2.1 (hP.ar hi hk (by omega)) (fun q h => by cases h) (fun h => by cases h) k1 k2 rfl hkC ⟨by rw [r_lt0 h1.tl.hd]; omega, by rw [arrV_size, r_tn h1.tl.hd]; omega⟩ g1 (fun q h => by rw [g3] at h; cases h) (by rw [g2]; exact hkC) (by rw [g2]; exact va_assign hcls) rfl rfl hd key
/-! making -/
def okTy : FieldType → Bool
  | .int => true
  | .boolean => true
  | .long => true
  | .object _ => true
  | .array _ => true
  | _ => false
theorem ty_ok : ∀ c, c < 9 → ∀ k, k < (clT c).2.2 → okTy (tyOf c k) = true := by decide +kernel
theorem dv_ok {t : FieldType} (h : okTy t = true) : defaultValue t = wv g (tagOf t, 0) := by
  cases t <;> first | rfl | cases h
theorem Pic.push {M : Mm} {H H' : Heap} (hP : Pic g n M H) (hn : n + 1 ≤ 90) (hz : H'.size = H.size + 1) (ho : ∀ q, q < H.size → H'[q]? = H[q]?) (hc : cellOK g M (n + 1) H') : Pic g (n + 1) M H' := by
  obtain ⟨h1, h2, h3, h4, h5⟩ := hP
  refine ⟨by rw [hz, h1]; omega, fun i a1 a2 => ?_, fun i j hi => h3 i j (by omega), h4, hn⟩
  by_cases e : i = n + 1
  · subst e; exact hc
  · refine (h2 i a1 (by omega)).kept (ho _ ?_) (fun _ => rfl)
    rw [adg_lt (by omega), h1]
    omega
theorem S_push {s : State} {H H' : Heap} {locs : List Loc} (hS : va_S (gA g) s.heap H locs) (hz : H'.size = H.size + 1) (ho : ∀ q, q < H.size → H'[q]? = H[q]?) : va_S (gA g) s.heap H' locs :=
  ⟨Nat.le_trans hS.1 (by omega), fun x h1 h2 => (ho x (Nat.lt_of_lt_of_le h1 hS.1)).trans (hS.2.1 x h1 h2), hS.2.2⟩
theorem wp_new {idx c N : Nat} (hk : kd (n + 1) = (c, N)) (hc : c < 9) (hn : n + 1 ≤ 90) (hcl : Cond.classLink μ.1.cls idx (clT c).1 ∈ TG) (hin : Cond.instantiable (clT c).1 (clT c).2.2 ∈ TG) (hini : Cond.initialized (clT c).1 ∈ TG) (hd : decode μ.2.1 pc = .ok (.new idx, 3)) (kk : Wp l g d a b (n + 1) μ (pc + 3) ((2, ((n + 1 : Nat) : Int)) :: st) loc M Q) : Wp l g d (a + 1) (b + N) n μ pc st loc M Q := by
  intro p e s m args below meth cd R H locs cells slots ls F hm hK hC hS hP hr hcc hs hl h1 h2 hfi
  have hts : ∀ w ∈ TG, w.before args s = true := hm.2.2.2.2.2.1
  have hKn := hK.1 c _ (clT_at c hc)
  have hN := kd_ok (n + 1) hn (by rw [hk]; exact hc)
  rw [hk] at hN
  change N = (clT c).2.2 at hN
  subst hN
  refine W.newcK hm.1 hm.2.1 hm.2.2.2.2.1 (hts _ hcl) (hts _ hin) (hts _ hini) rfl hd (by omega) (by omega) hKn.2.1 rfl fun H1 kC hkC e1 z1 o1 => ?_
  have ead : adg g (n + 1) = H.size := by rw [adg_lt (by omega), hP.1]; omega
  have hcell : cellOK g M (n + 1) H1 := by
    unfold cellOK
    rw [hk, if_pos hc, ead]
    refine (u_born (tyOf c) hts (in_cl c hc) hKn hkC e1 (tyOf_ok c hc)).to (fun k hkN => ?_)
    rw [hP.2.2.1 (n + 1) k (by omega)]
    exact dv_ok (ty_ok c hc k hkN)
  have k2 := kk p e s m args below meth cd R H1 locs (cells + 1) (slots + (clT c).2.2) ls F hm hK hC (S_push hS z1 o1) (hP.push hn z1 o1 hcell) hr (by omega) (by omega) hl (RS.cons (wr_t _) h1) h2 (by rw [show n + 1 + a = n + (a + 1) by omega]; exact hfi)
  have k3 : W p l e R s m args below meth cd H1 locs (cells + 1) (slots + (clT c).2.2) F (F0 m (pc + 3) ls (rv g ((n + 1 : Nat) : Int) :: st.map (wv g))) := k2
  rw [rv_pos (by omega), ead] at k3
  exact k3
theorem wp_newa {at_ : ArrayType} {c t N : Nat} {v : Int} (hk : kd (n + 1) = (c, N)) (hc : c = 10 ∧ at_ = .int ∨ c = 11 ∧ at_ = .boolean) (hv : v = (N : Int)) (hN : N ≤ 10000) (hn : n + 1 ≤ 90) (hw : Cond.arrayClass (newarray.typeOf at_) ∈ TG) (hd : decode μ.2.1 pc = .ok (.newarray at_, 2)) (kk : Wp l g d a b (n + 1) μ (pc + 2) ((2, ((n + 1 : Nat) : Int)) :: st) loc M Q) : Wp l g d (a + 1) (b + N) n μ pc ((0, v) :: st) loc M Q := by
  subst hv
  intro p e s m args below meth cd R H locs cells slots ls F hm hK hC hS hP hr hcc hs hl h1 h2 hfi
  have hts : ∀ w ∈ TG, w.before args s = true := hm.2.2.2.2.2.1
  have hwN : wr (0, (N : Int)) := h1.hd
  refine va_newaK (N := N) hm.1 hm.2.1 (hts _ hw) rfl hd rfl (by rw [r_lt0 hwN]; omega) (by rw [r_tn hwN]; omega) (by rcases hc with ⟨-, rfl⟩ | ⟨-, rfl⟩ <;> simp [newarray.typeOf, componentBytes] <;> omega) (by omega) (by omega) rfl fun H1 cA e1 z1 o1 hAr hNm => ?_
  have ead : adg g (n + 1) = H.size := by rw [adg_lt (by omega), hP.1]; omega
  have hcell : cellOK g M (n + 1) H1 := by
    unfold cellOK
    rw [hk, if_neg (by show ¬ c < 9; rcases hc with ⟨h, -⟩ | ⟨h, -⟩ <;> omega), ead, e1]
    have hM : ∀ j, M (n + 1) j = 0 := fun j => hP.2.2.1 (n + 1) j (by omega)
    rcases hc with ⟨rfl, rfl⟩ | ⟨rfl, rfl⟩
    · have h0 : s.vm.findClass ("[" ++ FieldType.int.toString) = some (g.2.2.1 0) := (hK.2 0 _ rfl).2
      have e2 : cA = g.2.2.1 0 := Option.some.inj (hNm.symm.trans h0)
      subst e2
      simp only [hM]
      rfl
    · have h0 : s.vm.findClass ("[" ++ FieldType.boolean.toString) = some (g.2.2.1 1) := (hK.2 1 _ rfl).2
      have e2 : cA = g.2.2.1 1 := Option.some.inj (hNm.symm.trans h0)
      subst e2
      simp only [hM]
      rfl
  have k2 := kk p e s m args below meth cd R H1 locs (cells + 1) (slots + N) ls F hm hK hC (S_push hS z1 o1) (hP.push hn z1 o1 hcell) hr (by omega) (by omega) hl (RS.cons (wr_t _) h1.tl) h2 (by rw [show n + 1 + a = n + (a + 1) by omega]; exact hfi)
  have k3 : W p l e R s m args below meth cd H1 locs (cells + 1) (slots + N) F (F0 m (pc + 2) ls (rv g ((n + 1 : Nat) : Int) :: st.map (wv g))) := k2
  rw [rv_pos (by omega), ead] at k3
  exact k3
theorem wp_anew {idx c N : Nat} {C : String} {v : Int} (hk : kd (n + 1) = (c, N)) (hc : c = 12 ∧ C = RX5 ∨ c = 13 ∧ C = RX4) (hv : v = (N : Int)) (hN : N ≤ 10000) (hn : n + 1 ≤ 90) (hcl : Cond.classLink μ.1.cls idx C ∈ TG) (hd : decode μ.2.1 pc = .ok (.anewarray idx, 3)) (kk : Wp l g d a b (n + 1) μ (pc + 3) ((2, ((n + 1 : Nat) : Int)) :: st) loc M Q) : Wp l g d (a + 1) (b + N) n μ pc ((0, v) :: st) loc M Q := by
  subst hv
  intro p e s m args below meth cd R H locs cells slots ls F hm hK hC hS hP hr hcc hs hl h1 h2 hfi
  have hts : ∀ w ∈ TG, w.before args s = true := hm.2.2.2.2.2.1
  have hwN : wr (0, (N : Int)) := h1.hd
  have hNt : (Int32.ofInt (N : Int)).toNatClampNeg = N := by rw [r_tn hwN]; omega
  refine W.anew hm.1 hm.2.1 hm.2.2.2.2.1 (hts _ hcl) (by rcases hc with ⟨-, rfl⟩ | ⟨-, rfl⟩; exact va_AO.use hC.2.2.2.2.2.1; exact va_AO.use hC.2.2.2.2.2.2.1) rfl hd rfl (by rw [r_lt0 hwN]; omega) (by rw [hNt]; omega) (by omega) (by rw [hNt]; omega) fun cA kA comp f1 f2 f3 f4 => ?_
  rw [hNt]
  generalize hH1 : H.push ({ cls := cA, slots := Array.replicate N .null, vm := .none } : Cell) = H1
  have z1 : H1.size = H.size + 1 := by rw [← hH1, Array.size_push]
  have e1 : H1[H.size]? = some (arrV cA N (fun _ => .null)) := by rw [← hH1, Array.getElem?_push_size, ← arrV_new]
  have o1 : ∀ q : Nat, q < H.size → H1[q]? = H[q]? := fun q hq => by rw [← hH1, Array.getElem?_push, if_neg (Nat.ne_of_lt hq)]
  have ead : adg g (n + 1) = H.size := by rw [adg_lt (by omega), hP.1]; omega
  have hcell : cellOK g M (n + 1) H1 := by
    unfold cellOK
    rw [hk, if_neg (by show ¬ c < 9; rcases hc with ⟨h, -⟩ | ⟨h, -⟩ <;> omega), ead, e1]
    have hM : ∀ j, M (n + 1) j = 0 := fun j => hP.2.2.1 (n + 1) j (by omega)
    rcases hc with ⟨rfl, rfl⟩ | ⟨rfl, rfl⟩
    · obtain ⟨kA', comp', -, -, -, h0⟩ := (hK.2 2 _ rfl).2
      have e2 : cA = g.2.2.1 2 := Option.some.inj (f1.symm.trans h0)
      subst e2
      simp only [hM]
      rfl
    · obtain ⟨kA', comp', -, -, -, h0⟩ := (hK.2 3 _ rfl).2
      have e2 : cA = g.2.2.1 3 := Option.some.inj (f1.symm.trans h0)
      subst e2
      simp only [hM]
      rfl
  have k2 := kk p e s m args below meth cd R H1 locs (cells + 1) (slots + N) ls F hm hK hC (S_push hS z1 o1) (hP.push hn z1 o1 hcell) hr (by omega) (by omega) hl (RS.cons (wr_t _) h1.tl) h2 (by rw [show n + 1 + a = n + (a + 1) by omega]; exact hfi)
  have k3 : W p l e R s m args below meth cd H1 locs (cells + 1) (slots + N) F (F0 m (pc + 3) ls (rv g ((n + 1 : Nat) : Int) :: st.map (wv g))) := k2
  rw [rv_pos (by omega), ead] at k3
  exact k3
/-- Object's own start -/
theorem wp_obj {idx : Nat} {x : Int} (i : Nat) (hx : x = (i : Int)) (hi : 1 ≤ i) (hl1 : Cond.methodLink μ.1.cls idx Lib.objectInit ∈ TG) (hl2 : Cond.instanceMethod Lib.objectInit ∈ TG) (hl3 : Cond.code Lib.objectInit ⟨#[0xb1]⟩ 1 none ∈ TG) (hst : st.length ≤ 4) (hd1 : 1 ≤ d) (hml : loc.length = μ.2.2.1) (hd : decode μ.2.1 pc = .ok (.invokespecial idx, 3)) (kk : Wp l g d a b n μ (pc + 3) st loc M Q) : Wp l g d a b n μ pc ((2, x) :: st) loc M Q := by
  subst hx
  intro p e s m args below meth cd R H locs cells slots ls F hm hK hC hS hP hr hcc hs hl h1 h2 hfi
  have hts : ∀ w ∈ TG, w.before args s = true := hm.2.2.2.2.2.1
  have k2 := kk p e s m args below meth cd R H locs cells slots ls F hm hK hC hS hP hr hcc hs hl h1.tl h2 hfi
  show W _ _ _ _ _ _ _ _ _ _ _ _ _ _ _ (F0 _ _ _ (rv g (i : Int) :: _))
  rw [rv_pos hi]
  have hsum : ∀ st : List Wd, ((st.map (wv g)).map fun v => v.category).sum ≤ 2 * st.length := by
    intro st
    induction st with
    | nil => exact Nat.le_refl 0
    | cons w r ih =>
      have := lv_cat (wv g w)
      simp only [List.map_cons, List.sum_cons, List.length_cons]
      omega
  have hs2 := hsum st
  exact W.objInit hm.1 hm.2.1 hm.2.2.2.2.1 (hts _ hl1) (hts _ hl2) (hts _ hl3) rfl (by show ls.size = _; rw [hl.1, hm.2.2.2.1, hml]) rfl hd (Nat.le_trans hd1 hr.1) (by show 2 * 0 + _ + 12 ≤ _; have := hr.2; omega) k2
end WPD
