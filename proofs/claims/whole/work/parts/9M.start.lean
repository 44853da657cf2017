/-! THE CLAIM OUT OF ONE WALK OF THE LAW'S BODY. Your part is whole_start (and what it stands on); all else here is the same for every law, but numbers. -/
def R_law : String := "AheadOfAFriendLaw"
def lw_P (b : Addr) (xs : List Int32) (args : Array Value) (s : State) : Prop := args = #[.ref b] ∧ s.IntsAt b xs ∧ xs.length ≤ 3072 ∧ (Jvm.Cond.and given_1 narrow_1).before args s = true
def lw_Q (_ : Array Value) (s : State) (o : Outcome) (t : State) : Prop := o = .returned (some (.int 1)) ∧ Framed s o t [] 600000 7302250
def lw_Z (below : List Frame) (a : Array Value) (s : State) : State → Prop := fun t => ∃ o, t.status = .running ∧ Ended t below o ∧ lw_Q a s o t
/-- the law's own end, with 1 on the stack, nothing written that was there before, its room as the claim has it -/
theorem lw_ret {p : Program} {l : Launch} {e : Env} {s : State} {m : MethodId} {below : List Frame} {meth : Method} {c : Code} {b : Nat} (hx : p.tables.exec = Jvm.exec) (hb : c.code = code) (hr : meth.sig.returnType = ret) (hlocks : meth.locks = false) {pc : Nat} {H : Heap} {ls : Array Slot} (hdg : decode code pc = .ok (.ireturn, 1)) : W p l e room_1 s m #[Value.ref b] below meth c H [] 600000 7302250 (lw_Z below #[Value.ref b] s) (F0 m pc ls [.int 1]) := by
  intro T hT X
  obtain ⟨fs, hret, hrun, hended, hW, hframe⟩ := X.leave (v := some (.int 1)) (hlocks := hlocks) (fun h => by rw [hr] at h; cases h)
  have hmeth' : T.vm.method? m = some meth := X.method'
  refine ⟨T.setFrames fs, ?_, .returned (some (.int 1)), hrun, hended, rfl, ⟨_, rfl⟩, hW, hframe⟩
  jvm_step X.here [X.here.top, hx, hb, hdg, hmeth', hr, ret, narrow_b1]
  (try refine ⟨rfl, ?_⟩); (try refine ⟨rfl, ?_⟩)
  first | (intro acts; rw [hret _ acts rfl rfl rfl]) | rw [hret _ _ rfl rfl rfl]
  exact Steps.refl _
/-- what holds at the law's entry: the machine, the code, the tables' words (any of lw_tbl by 'hts w (by decide +kernel)'), the script of L ints xs at the cell b, what the Statement gives of the start (any of its parts by flat_of_before) -/
def lw_At (p : Program) (s : State) (m : MethodId) (meth : Method) (c : Code) (b L : Nat) (xs : Nat → Int32) : Prop :=
  p.tables.exec = Jvm.exec ∧ c.code = code ∧ meth.sig.returnType = ret ∧ c.maxLocals = 4 ∧ s.vm.findClass R_law = some m.cls ∧ (∀ w ∈ lw_tbl, w.before #[Value.ref b] s = true) ∧ va_X b L xs s s.heap ∧ b < s.heap.size ∧ meth.locks = false ∧ (Jvm.Cond.and given_1 narrow_1).before #[Value.ref b] s = true
theorem in_ins : ∀ c, c < 9 → Cond.instantiable (clT c).1 (clT c).2.2 ∈ TG := by decide +kernel
/-- the String constants as terms -/
def tmS (i : Nat) : Term := .string (strL.getD i ("", 0, "")).1 (strL.getD i ("", 0, "")).2.1
def nrW : List Cond := flatC (Jvm.Cond.and given_1 narrow_1)
theorem st_ex : ∀ i, i < 14 → Cond.exactly (tmS i) "java/lang/String" ∈ nrW := by decide +kernel
theorem st_co : ∀ i, i < 14 → Cond.eq (.field (tmS i) "java/lang/String" "coder" "B") (.int 0) ∈ nrW := by decide +kernel
theorem st_ar : ∀ i, i < 14 → Cond.arrayOf (.field (tmS i) "java/lang/String" "value" "[B") .byte ∈ nrW := by decide +kernel
theorem st_le : ∀ i, i < 14 → Cond.eq (.length (.field (tmS i) "java/lang/String" "value" "[B")) (.int (Int32.ofNat (lenL.getD i 0))) ∈ nrW := by decide +kernel
def elB : List Nat := [40, 89, 99, 110, 121, 131, 143, 156, 172, 190, 209, 229, 249, 271]
theorem st_e2 : ∀ i, i < 14 → ∀ j, j < lenL.getD i 0 → nrW[elB.getD i 0 + j]? = some (Cond.eq (.elem (.field (tmS i) "java/lang/String" "value" "[B") (.int (Int32.ofNat j))) (.int ((bytL.getD i []).getD j 0))) := by decide +kernel
theorem st_el : ∀ i, i < 14 → ∀ j, j < lenL.getD i 0 → Cond.eq (.elem (.field (tmS i) "java/lang/String" "value" "[B") (.int (Int32.ofNat j))) (.int ((bytL.getD i []).getD j 0)) ∈ nrW := fun i hi j hj => List.mem_of_getElem? (st_e2 i hi j hj)
def neB : List Nat := [0, 94, 104, 114, 123, 134, 146, 161, 178, 196, 215, 234, 255, 279]
theorem st_n2 : ∀ j, j < 14 → ∀ i, i < j → nrW[neB.getD j 0 + i]? = some (Cond.not (.eq (tmS i) (tmS j))) := by decide +kernel
theorem st_ne : ∀ i, i < 14 → ∀ j, j < 14 → i ≠ j → Cond.not (.eq (tmS i) (tmS j)) ∈ nrW ∨ Cond.not (.eq (tmS j) (tmS i)) ∈ nrW := by
  intro i hi j hj h
  by_cases c : i < j
  · exact Or.inl (List.mem_of_getElem? (st_n2 j hj i c))
  · exact Or.inr (List.mem_of_getElem? (st_n2 i hi j (by omega)))
theorem st_rf : ∀ i, i < 14 → Cond.stringRef (strL.getD i ("", 0, "")).1 (strL.getD i ("", 0, "")).2.1 (strL.getD i ("", 0, "")).2.2 ∈ lw_tbl := by decide +kernel
theorem st_n : ∀ i, i < 14 → lenL.getD i 0 < 2 ^ 31 := by decide +kernel
theorem ov_el : ∀ j, j < 6 → Cond.eq (.elem (.static "AheadOfAFriend$Manners" "OVER" "[I") (.int (Int32.ofNat j))) (.int (Int32.ofInt (overL.getD j 0))) ∈ nrW := by decide +kernel
theorem ov_ar : Cond.arrayOf (.static "AheadOfAFriend$Manners" "OVER" "[I") .int ∈ nrW := by decide +kernel
theorem ov_le : Cond.eq (.length (.static "AheadOfAFriend$Manners" "OVER" "[I")) (.int (Int32.ofNat 6)) ∈ nrW := by decide +kernel
theorem cp_eq : Cond.eq (.static "java/lang/String" "COMPACT_STRINGS" "Z") (.int 1) ∈ nrW := by decide +kernel
theorem fm_rf : Cond.isRef (.static "jdk/internal/util/Preconditions" "SIOOBE_FORMATTER" "Ljava/util/function/BiFunction;") ∈ nrW := by decide +kernel
theorem ly_ov : Cond.laysStatic "AheadOfAFriend$Manners" "OVER" "[I" ∈ lw_tbl := by decide +kernel
theorem ly_cp : Cond.laysStatic "java/lang/String" "COMPACT_STRINGS" "Z" ∈ lw_tbl := by decide +kernel
theorem ly_fm : Cond.laysStatic "jdk/internal/util/Preconditions" "SIOOBE_FORMATTER" "Ljava/util/function/BiFunction;" ∈ lw_tbl := by decide +kernel
theorem in_ov : Cond.initialized "AheadOfAFriend$Manners" ∈ lw_tbl := by decide +kernel
theorem in_cp : Cond.initialized "java/lang/String" ∈ lw_tbl := by decide +kernel
theorem in_fm : Cond.initialized "jdk/internal/util/Preconditions" ∈ lw_tbl := by decide +kernel
theorem ac_i : Cond.arrayClass .int ∈ lw_tbl := by decide +kernel
theorem ac_z : Cond.arrayClass .boolean ∈ lw_tbl := by decide +kernel
theorem ao_5 : Cond.arrayOver (.object RX5) ∈ lw_tbl := by decide +kernel
theorem ao_4 : Cond.arrayOver (.object RX4) ∈ lw_tbl := by decide +kernel
theorem scI_at {g : Gw} {xs : Nat → Int32} {j : Nat} (h : g.2.2.2.2.1 (101 + j) = ((xs j).toInt + 2147483648).toNat) : scI g j = xs j := by
  have := r_rng (xs j)
  unfold scI
  rw [h, show ((((xs j).toInt + 2147483648).toNat : Nat) : Int) - 2147483648 = (xs j).toInt by omega]
  exact Int32.ofInt_toInt _
set_option maxHeartbeats 4000000 in
set_option maxRecDepth 100000 in
/-- THE LAW, from its entry -/
theorem whole_start {p : Program} {e : Env} {s : State} {m : MethodId} {below : List Frame} {meth : Method} {c : Code} (l : Launch) {b L : Nat} {xs : Nat → Int32} (hL : L ≤ 3072) (C0 : lw_At p s m meth c b L xs) : W p l e room_1 s m #[Value.ref b] below meth c s.heap [] 0 0 (lw_Z below #[Value.ref b] s) (entryFrame m ([Value.ref b] : List Value).toArray 4) := by
  obtain ⟨hx, hb, hr, hml, hown, hts, hX, hbl, hlocks, hgv⟩ := C0
  have hT : ∀ w ∈ TG, w.before #[Value.ref b] s = true := fun w hw => hts w (tg_in hw)
  have hN : ∀ w ∈ nrW, w.before #[Value.ref b] s = true := flat_of_before _ hgv
  have hA : ∀ a : Nat, a < s.heap.size → ¬ (fun q : Nat => s.heap.size - 1 < q) a := fun a h => by show ¬ s.heap.size - 1 < a; omega
  have k1 : ∀ c : Nat, c < 9 → ∃ (cC : ClassId) (iS : Nat → Nat), u_Kn s (clT c).1 (clT c).2.1 (clT c).2.2 cC iS := fun c hc => u_known hT (in_cl c hc) (hT _ (in_ins c hc))
  have k2 : ∀ c : Nat, ∃ q : ClassId × (Nat → Nat), c < 9 → u_Kn s (clT c).1 (clT c).2.1 (clT c).2.2 q.1 q.2 := by
    intro c
    by_cases hc : c < 9
    · obtain ⟨cC, iS, h⟩ := k1 c hc
      exact ⟨(cC, iS), fun _ => h⟩
    · obtain ⟨cC, iS, h⟩ := k1 0 (by decide)
      exact ⟨(cC, iS), fun h => absurd h hc⟩
  obtain ⟨D, hD⟩ := Classical.axiomOfChoice k2
  obtain ⟨ci, ki, pi, i1, i2, i3⟩ := Cond.arrayClass_spec (hts _ ac_i)
  obtain ⟨cz, kz, pz, z1, z2, z3⟩ := Cond.arrayClass_spec (hts _ ac_z)
  obtain ⟨p5, c5, q5, t1, t2, t3, t4, t5⟩ := Cond.arrayOver_spec (hts _ ao_5)
  obtain ⟨p4, c4, q4, s1, s2, s3, s4, s5⟩ := Cond.arrayOver_spec (hts _ ao_4)
  obtain ⟨adK, adV, hS, hSe⟩ := vk_Sof (tm := tmS) (len := lenL) (byt := bytL) (A := fun q : Nat => s.heap.size - 1 < q) st_n (fun i hi => hN _ (st_ex i hi)) (fun i hi => hN _ (st_co i hi)) (fun i hi => hN _ (st_ar i hi)) (fun i hi => hN _ (st_le i hi)) (fun i hi j hj => hN _ (st_el i hi j hj)) (fun i j hi hj hij => (st_ne i hi j hj hij).imp (fun h => hN _ h) (fun h => hN _ h)) hA
  obtain ⟨ov, ov1, ov2⟩ := va_Tof (f := fun j => .int (Int32.ofInt (overL.getD j 0))) (A := fun q : Nat => s.heap.size - 1 < q) (N := 6) (by decide) (hN _ ov_ar) (va_eqt (hN _ ov_le)) (fun j hj => va_eqt (hN _ (ov_el j hj))) hA
  have hO := va_Zof (A := fun q : Nat => s.heap.size - 1 < q) (hts _ ly_ov) (hts _ in_ov) ov1 hA
  have hCp := va_Zof (A := fun q : Nat => s.heap.size - 1 < q) (hts _ ly_cp) (hts _ in_cp) (va_eqt (hN _ cp_eq)) hA
  obtain ⟨fl, fm, hF⟩ : ∃ fl fm : Nat, va_Z "jdk/internal/util/Preconditions" "SIOOBE_FORMATTER" "Ljava/util/function/BiFunction;" (if fl = 0 then .null else .ref fm) (fun q : Nat => s.heap.size - 1 < q) s s.heap := by
    rcases va_Zqof (A := fun q : Nat => s.heap.size - 1 < q) (hts _ ly_fm) (hts _ in_fm) (hN _ fm_rf) hA with h | ⟨t, h⟩
    · exact ⟨0, 0, h⟩
    · exact ⟨1, t, h⟩
  obtain ⟨g, hg⟩ : ∃ g : Gw, g = (fun c => (D c).1, fun c => (D c).2, fun k => if k = 0 then ci else if k = 1 then cz else if k = 2 then c5 else c4, fun i => if i < 14 then adK i else if i = 14 then fm else b, fun i => if i < 14 then adV i else if i = 99 then fl else if i = 100 then L else ((xs (i - 101)).toInt + 2147483648).toNat, ov, s.heap.size - 1) := ⟨_, rfl⟩
  have g1 : g.1 = fun c => (D c).1 := by rw [hg]
  have g2 : g.2.1 = fun c => (D c).2 := by rw [hg]
  have gB' : gB g = s.heap.size - 1 := by rw [hg]
  have gA' : gA g = fun q : Nat => s.heap.size - 1 < q := by unfold gA; rw [gB']
  have gK : ∀ i, i < 14 → g.2.2.2.1 i = adK i := fun i hi => by rw [hg]; exact if_pos hi
  have gV : ∀ i, i < 14 → g.2.2.2.2.1 i = adV i := fun i hi => by rw [hg]; exact if_pos hi
  have g14 : g.2.2.2.1 14 = fm := by rw [hg]; rfl
  have g15 : g.2.2.2.1 15 = b := by rw [hg]; rfl
  have g99 : g.2.2.2.2.1 99 = fl := by rw [hg]; rfl
  have g100 : g.2.2.2.2.1 100 = L := by rw [hg]; rfl
  have gS : ∀ j : Nat, g.2.2.2.2.1 (101 + j) = ((xs j).toInt + 2147483648).toNat := fun j => by
    rw [hg]
    show (if 101 + j < 14 then adV (101 + j) else if 101 + j = 99 then fl else if 101 + j = 100 then L else ((xs (101 + j - 101)).toInt + 2147483648).toNat) = _
    rw [if_neg (by omega), if_neg (by omega), if_neg (by omega), show 101 + j - 101 = j by omega]
  have gO : g.2.2.2.2.2.1 = ov := by rw [hg]
  have ga : aTys g = [(ci, .int), (cz, .boolean), (c5, .object RX5), (c4, .object RX4)] := by rw [hg]; rfl
  clear hg
  have hK : KN g s := by
    refine ⟨fun c q hq => ?_, fun k q hq => ?_⟩
    · have hc : c < 9 := (List.getElem?_eq_some_iff.mp hq).1
      have e : clT c = q := by
        unfold clT
        rw [List.getD_eq_getElem?_getD, hq]
        rfl
      have h := hD c hc
      rw [e] at h
      show u_Kn s q.1 q.2.1 q.2.2 (g.1 c) (g.2.1 c)
      rw [g1, g2]
      exact h
    · rw [ga] at hq
      match k, hq with
      | 0, hq => cases hq; exact ⟨fun n z => ⟨fun k h => (by cases h), ki, i2, pi, i3⟩, i1⟩
      | 1, hq => cases hq; exact ⟨fun n z => ⟨fun k h => (by cases h), kz, z2, pz, z3⟩, z1⟩
      | 2, hq => cases hq; exact ⟨fun n z => ⟨fun k h => (by cases h), q5, t3, p5, t4⟩, ⟨q5, p5, t3, t4, t1, t5⟩⟩
      | 3, hq => cases hq; exact ⟨fun n z => ⟨fun k h => (by cases h), q4, s3, p4, s4⟩, ⟨q4, p4, s3, s4, s1, s5⟩⟩
      | k + 4, hq => simp at hq
  have hC : CN g s s.heap := by
    unfold CN CT SCR
    rw [gA', gO, gB', g15, g100]
    refine ⟨fun i q hq => ?_, ⟨fun i hi => ?_, fun i j hi hj e => ?_⟩, hCp, hO, ov2, va_AO.of (hts _ ao_5), va_AO.of (hts _ ao_4), ?_, ?_, by omega, hL⟩
    · have hi : i < 14 := (List.getElem?_eq_some_iff.mp hq).1
      have e : strL.getD i ("", 0, "") = q := by
        rw [List.getD_eq_getElem?_getD, hq]
        rfl
      have h1 := hts _ (st_rf i hi)
      have h2 := hSe i hi
      unfold tmS at h2
      rw [e] at h1 h2
      rw [gK i hi]
      exact vk_R.of h1 h2
    · rw [gK i hi, gV i hi]
      exact hS.1 i hi
    · rw [gK i hi, gK j hj] at e
      exact hS.2 i j hi hj e
    · have e : rv g (fmW g) = if fl = 0 then .null else .ref fm := by
        unfold fmW
        rw [g99]
        by_cases h : fl = 0
        · rw [if_pos h, if_pos h]
          rfl
        · rw [if_neg h, if_neg h]
          show Value.ref (g.2.2.2.1 14) = _
          rw [g14]
      rw [e]
      exact hF
    · obtain ⟨scr, x1, x2, x3, x4, x5⟩ := hX
      exact ⟨scr, x1, x2, x3, x4, fun j hj => by rw [scI_at (gS j)]; exact x5 j hj⟩
  have hP : Pic g 0 Z0 s.heap := ⟨by rw [gB']; omega, fun i h1 h2 => by omega, fun i j _ => rfl, fun i j => ⟨by show -2147483648 ≤ (0 : Int); decide, by show (0 : Int) < 2147483648; decide⟩, by decide⟩
  have hm : MC p m_L_law s m #[Value.ref b] meth c := ⟨hx, hb, hr, hml, hown, hT, hlocks, fun h => absurd (show ("law" : String) = "<init>" from h) (by decide)⟩
  have hv : ([(2, 1015)] : List Wd).map (wv g) = [Value.ref b] := by
    show [Value.ref (g.2.2.2.1 15)] = _
    rw [g15]
  have hl : LR g _ (loc0 [(2, 1015)] 4) := loc0_LR (g := g) (ar := [(2, 1015)]) (nL := 4) (by decide)
  rw [hv] at hl
  rw [lg_entry_eq]
  refine law_all (l := l) (g := g) (d := 1400) (by decide) (by rw [g100]; exact hL) p e s m #[Value.ref b] below meth c room_1 s.heap [] 0 0 _ (lw_Z below #[Value.ref b] s) hm hK hC va_S.rf hP ⟨by decide, by decide⟩ (by decide) (by decide) hl RS.nil (fun w hw => ?_) ?_
  · have hw : w ∈ [((2, 1015) : Wd), (9, 0), (9, 0), (9, 0)] := hw
    simp at hw
    rcases hw with rfl | rfl
    · trivial
    · trivial
  · intro r M' H' locs' pc' ls' op h1 h2 h3 h4 h5 h6
    have h3 : r = some (0, 1) := h3
    subst h3
    cases op with
    | ireturn =>
      refine va_forget (fun q hq => ?_) ?_
      · have h := h5.2.2 q hq
        rw [gA'] at h
        have h : s.heap.size - 1 < q.base := h
        omega
      · exact lw_ret hx hb hr hlocks h2
    | lreturn =>
      obtain ⟨x, h, _⟩ := h1
      cases h
    | areturn =>
      obtain ⟨x, rt, h, _⟩ := h1
      cases h
    | return_ =>
      obtain ⟨h, _⟩ := h1
      cases h
    | _ => exact h1.elim
set_option maxHeartbeats 4000000 in
theorem lw_walk (l : Launch) (b : Addr) (xs : List Int32) : MetFree l x (headSpec (Jvm.Cond.code x code maxLocals ret :: tables_1) room_1) (lw_P b xs) (fun _ _ _ _ _ => True) lw_Q := by
  refine MetFree.of_bodyS (code := code) (maxLocals := maxLocals) (ret := ret) (by decide) ?_ ?_
  · intro args s m h hn
    obtain ⟨meth, c, h1, h2, h3, h4, h5, h6, -, -⟩ := Cond.code_spec hn (atoms_spec (ws := Jvm.Cond.code x code maxLocals ret :: tables_1) h _ List.mem_cons_self)
    exact ⟨meth, c, h1, h2, h3, h4, h5, h6⟩
  · intro p e s m args below meth c s₁ B hml0 hP _
    obtain ⟨rfl, hx, hbd, hgv⟩ := hP
    obtain ⟨scr, harrAt, hlist, hof, hsmall⟩ := hx
    obtain ⟨hcb, hkn, -, -⟩ := State.arrayAt?_spec harrAt
    have hown : s.vm.findClass R_law = some m.cls := findClass_of_methodNamed B.named
    have hts0 : ∀ c ∈ (Jvm.Cond.code x code maxLocals ret :: tables_1), c.before #[Value.ref b] s = true := atoms_spec (ws := Jvm.Cond.code x code maxLocals ret :: tables_1) B.pre
    have hts : ∀ w ∈ lw_tbl, w.before #[Value.ref b] s = true := k2_hts_sels lw_privs (fun w hw => hts0 w (List.mem_cons_of_mem _ hw)) lw_privs_ok
    have hml : c.maxLocals = 4 := B.maxLocals_eq (hts0 _ List.mem_cons_self)
    have X₀ : Stand p l e room_1 s m #[Value.ref b] below meth c s₁ [] 0 0 := Stand.of_body B
    have hh0 : s₁.heap = s.heap := by rw [B.state]; rfl
    have hsz : scr.slots.size = xs.length := by rw [← Array.length_toList, hlist, List.length_map]
    have hval : ∀ j : Nat, j < xs.length → scr.slots[j]? = some (.int (xs.getD j 0)) := fun j hj => by
      rw [← Array.getElem?_toList, hlist]
      simp [hj]
    have hbl : b < s.heap.size := (Array.getElem?_eq_some_iff.mp hcb).1
    have hX : va_X b xs.length (fun j => xs.getD j 0) s s.heap := ⟨scr, hcb, hof, hkn, hsz, hval⟩
    have K : W p l e room_1 s m #[Value.ref b] below meth c s₁.heap [] 0 0 (lw_Z below #[Value.ref b] s) (entryFrame m ([Value.ref b] : List Value).toArray 4) := by
      rw [hh0]
      exact whole_start l hbd ⟨B.exec, B.bytes, B.returns, hml, hown, hts, hX, hbl, B.notSynchronized, hgv⟩
    obtain ⟨t, a1, o, b1, b2, b3⟩ := K s₁ rfl X₀
    exact ⟨t, o, a1, b1, b2, b3⟩
theorem lw_pre_spec {args : Array Value} {s : State} (h : (Jvm.Cond.and given_1 narrow_1).before args s = true) (hr : rest_1_c.before args s = true) : ∃ (b : Addr) (xs : List Int32), lw_P b xs args s := by
  have hs := flat_of_before _ h
  have hq := flat_of_before _ hr
  have hc : (Cond.count 1).before args s = true := hs _ (by decide +kernel)
  have harr : (Cond.arrayOf (.arg 0) .int).before args s = true := hs _ (by decide +kernel)
  have hle : (Cond.le (.length (.arg 0)) (.int 3072)).before args s = true := hs _ (by decide +kernel)
  have hlen : (Cond.isInt (.length (.arg 0))).before args s = true := hq _ (by decide +kernel)
  have hall : (Cond.all (.arg 0) (.isInt (.elem (.arg 0) (.index 0)))).before args s = true := hq _ (by decide +kernel)
  obtain ⟨b, xs, hb, hx⟩ := State.ints_of_pre rfl harr hlen hall
  have hsm : xs.length < 2 ^ 31 := hx.choose_spec.2.2.2
  have hev : (Term.length (.arg 0)).eval args s none [] s = some (.int xs.length.toInt32) := hx.length_eval hb
  have hv := Cond.le_ints hev (show (Term.int 3072).eval args s none [] s = some (.int 3072) from rfl)
  have hd : xs.length.toInt32 ≤ 3072 := by
    simpa [Cond.before, Cond.holds, hv] using hle
  have hN : xs.length ≤ 3072 := (Int32.ofNat_le_ofNat hsm (by decide)).mp (show Int32.ofNat xs.length ≤ Int32.ofNat 3072 from hd)
  exact ⟨b, xs, Cond.one_arg hc (show args[0]? = some (.ref b) from hb), hx, hN, h⟩
theorem lw_comes (l : Launch) : Comes l x (Jvm.Cond.code x code maxLocals ret :: tables_1) room_1 (fun tb e args s => Calls_1 tb e args s ∧ rest_1 tb e args s ∧ Pre_1 tb e args s)
    (fun _ _ args s o t => lw_Q args s o t) := by
  intro p e ha hc hk s m args below hf hfit hheap happ hpre
  obtain ⟨b, xs, hP⟩ := lw_pre_spec hpre.2.2 hpre.2.1
  obtain ⟨k, o, h1, h2, h3, hQ⟩ := lw_walk l b xs p e ha hc hk s m args below hf ((Spec.applies_iff_loose hf).mp happ).1 hP trivial
  exact ⟨k, o, h1, h2, h3, hQ⟩
theorem lw_frame {s t : State} {o : Outcome} {args : Array Value} (h : Framed s o t [] 600000 7302250) :
    Framed s o t (fieldLocs frame_1_writes args s ++ arrayLocs frame_1_arrays args s ++ staticLocs frame_1_statics s) 600000 7302250 := h
theorem lw_limb (L : Cond) (hL : ∀ (args : Array Value) (s t : State), L.after args s (.returned (some (.int 1))) t = true) :
    ArmFor flags0 classFile x code maxLocals ret World_1 tables_1 room_1 Calls_1 rest_1 Pre_1
      (fun tb e a s o t => postC L tb e a s o t ∧ Framed s o t (fieldLocs frame_1_writes a s ++ arrayLocs frame_1_arrays a s ++ staticLocs frame_1_statics s) 600000 7302250) := by
  intro l _ _ _ p e ha hc hk s m args below hf hfit hheap happ hpre
  obtain ⟨k, o, h1, h2, h3, rfl, hF⟩ := lw_comes l p e ha hc hk s m args below hf hfit hheap happ hpre
  exact ⟨k, _, h1, h2, h3, hL args s _, lw_frame hF⟩
theorem i_vc : Claimed_1_1 ∧ Claimed_1_2 := ⟨lw_limb limb_1_1 (fun args s t => by simp [limb_1_1, Cond.after, Cond.holds, Cond.value]), lw_limb limb_1_2 (fun args s t => Cond.after_iff.mpr (by
  first | (rw [show limb_1_2 = Cond.eq .result (.int 1) from rfl, Cond.eq_ints (x := 1) (y := 1) rfl rfl]; simp; done) | (simp [limb_1_2, Cond.value, Term.eval]; done)))⟩
