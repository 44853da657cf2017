/-! ===== rules of the plain machine: answers, calls ===== -/
def el : List Wd → List Wd
  | [] => []
  | w :: r => if w.1 = 1 then w :: (9, 0) :: el r else w :: el r
def rmOf (d a b : Nat) : Room := { frames := d, cells := a, slots := b, locals := 60 * d }
def wsOf (μ : Md) : List Cond := Cond.code μ.1 μ.2.1 μ.2.2.1 μ.2.2.2 :: TG
def PM (g : Gw) (n : Nat) (M : Mm) (ar : List Wd) : Array Value → State → Prop := va_Pc (ar.map (wv g)) (fun U => KN g U ∧ CN g U U.heap ∧ Pic g n M U.heap ∧ RS ar)
def QM (g : Gw) (n' : Nat) (Q : Option Wd → Mm → Prop) : Array Value → State → Outcome → State → Prop := fun _ st o t => ∃ (r : Option Wd) (M' : Mm), o = .returned (r.map (wv g)) ∧ Q r M' ∧ Pic g n' M' t.heap ∧ RS r.toList ∧ va_F (gA g) st t
theorem CN.moved {g : Gw} {u U : State} (hW : u.WarmedH U.vm) (hh : U.heap = u.heap) (h : CN g u u.heap) : CN g U U.heap := by
  obtain ⟨h1, h2, h3, h4, h5⟩ := h
  have ha := hW.alike
  rw [hh]
  exact ⟨fun i q hq => (h1 i q hq).warm hW, h2.moved ha, h3.moved ha, h4.moved ha, h5.moved ha⟩
theorem CN.kept {g : Gw} {U : State} {H H1 : Heap} (h : CN g U H) (hq : ∀ a : Nat, a < H.size → ¬ gA g a → H1[a]? = H[a]?) : CN g U H1 := by
  obtain ⟨h1, h2, h3, h4, h5⟩ := h
  exact ⟨h1, h2.kept hq, h3.kept hq, h4.kept hq, h5.kept hq⟩
theorem CN.same {g : Gw} {u U : State} {H : Heap} (hv : U.vm = u.vm) (h : CN g u H) : CN g U H := by
  obtain ⟨h1, h2, h3, h4, h5⟩ := h
  have ha : u.vm.Alike U.vm := by rw [hv]; exact Vm.Alike.refl _
  exact ⟨fun i q hq => (h1 i q hq).same hv, h2.moved ha, h3.moved ha, h4.moved ha, h5.moved ha⟩
theorem PM_blind {g : Gw} {n : Nat} {M : Mm} {ar : List Wd} : FrameBlind (PM g n M ar) := by
  intro a U gf mk h
  obtain ⟨h0, h1, h2, h3, h4⟩ := h
  exact ⟨h0, va_K.moved (u := U) (U := U.calling gf mk a) (Vm.Alike.refl U.vm) h1, CN.same (u := U) (U := U.calling gf mk a) rfl h2, h3, h4⟩
theorem wv_c2 {g : Gw} {w : Wd} : (wv g w).category = 2 ↔ w.1 = 1 := by
  obtain ⟨t, x⟩ := w
  match t with
  | 0 =>
    constructor
    · intro h
      cases h
    · intro h
      cases h
  | 1 => exact ⟨fun _ => rfl, fun _ => rfl⟩
  | t + 2 =>
    constructor
    · intro h
      change (rv g x).category = 2 at h
      unfold rv at h
      split at h <;> cases h
    · intro h
      change t + 2 = 1 at h
      omega
theorem el_len {g : Gw} : ∀ ar : List Wd, (lg_sl (ar.map (wv g))).length = (el ar).length
  | [] => rfl
  | w :: r => by
    have ih := el_len (g := g) r
    by_cases h : w.1 = 1
    · have h2 : (wv g w).category = 2 := wv_c2.mpr h
      simp only [List.map_cons, lg_sl, List.flatMap_cons, h2, el, h] at ih ⊢
      simp [ih]
    · have h2 : ¬ (wv g w).category = 2 := fun q => h (wv_c2.mp q)
      simp only [List.map_cons, lg_sl, List.flatMap_cons, h2, el, h] at ih ⊢
      simp [ih]
theorem el_at {g : Gw} : ∀ (ar : List Wd) (off i : Nat) (w : Wd), (el ar)[i]? = some w → w.1 < 3 → (off + i, wv g w) ∈ lv_args off (ar.map (wv g))
  | [], _, _, _, h, _ => by simp [el] at h
  | v :: r, off, i, w, h, hw => by
    by_cases hv : v.1 = 1
    · have h2 : (wv g v).category = 2 := wv_c2.mpr hv
      simp only [el, hv, if_true] at h
      simp only [List.map_cons, lv_args, h2, if_true]
      match i, h with
      | 0, h => simp at h; subst h; exact List.mem_cons_self
      | 1, h => simp at h; subst h; simp at hw
      | i + 2, h =>
        simp only [List.getElem?_cons_succ] at h
        have := el_at (g := g) r (off + 2) i w h hw
        rw [show off + 2 + i = off + (i + 2) by omega] at this
        exact List.mem_cons_of_mem _ this
    · have h2 : ¬ (wv g v).category = 2 := fun q => hv (wv_c2.mp q)
      simp only [el, hv, if_false] at h
      simp only [List.map_cons, lv_args, h2, if_false]
      match i, h with
      | 0, h => simp at h; subst h; exact List.mem_cons_self
      | i + 1, h =>
        simp only [List.getElem?_cons_succ] at h
        have := el_at (g := g) r (off + 1) i w h hw
        rw [show off + 1 + i = off + (i + 1) by omega] at this
        exact List.mem_cons_of_mem _ this
theorem el_RS : ∀ ar : List Wd, RS ar → RS (el ar)
  | [], h => h
  | w :: r, h => by
    unfold el
    split
    · exact RS.cons h.hd (RS.cons trivial (el_RS r h.tl))
    · exact RS.cons h.hd (el_RS r h.tl)
def loc0 (ar : List Wd) (nL : Nat) : List Wd := el ar ++ List.replicate (nL - (el ar).length) (9, 0)
theorem loc0_RS {ar : List Wd} {nL : Nat} (h : RS ar) : RS (loc0 ar nL) := by
  intro w hw
  rcases List.mem_append.mp hw with q | q
  · exact el_RS ar h w q
  · obtain ⟨-, rfl⟩ := List.mem_replicate.mp q
    trivial
theorem loc0_LR {g : Gw} {ar : List Wd} {nL : Nat} (h : (el ar).length ≤ nL) : LR g ((lg_sl (ar.map (wv g)) ++ List.replicate (nL - (lg_sl (ar.map (wv g))).length) Slot.unset).toArray) (loc0 ar nL) := by
  have hl := lv_entry (ar.map (wv g)) (n := nL) (by rw [el_len]; exact h)
  refine ⟨by rw [hl.1]; unfold loc0; simp; omega, hl.2.1, fun i w hi hw => ?_⟩
  unfold loc0 at hi
  by_cases hlt : i < (el ar).length
  · rw [List.getElem?_append_left hlt] at hi
    have := hl.2.2 _ (el_at (g := g) ar 0 i w hi hw)
    simpa using this
  · rw [List.getElem?_append_right (by omega)] at hi
    have hm := List.mem_of_getElem? hi
    obtain ⟨-, rfl⟩ := List.mem_replicate.mp hm
    simp at hw
set_option maxHeartbeats 4000000 in
/-- a walk from a method's start is its contract -/
theorem met_of {l : Launch} {g : Gw} {d a b n : Nat} {μ : Md} {ar : List Wd} {M : Mm} {Q : Option Wd → Mm → Prop} (hpn : plainName μ.1.cls = true) (hlen : (el ar).length ≤ μ.2.2.1) (h : Wp l g d a b n μ 0 [] (loc0 ar μ.2.2.1) M Q) : Met l μ.1 (wsOf μ) (rmOf d a b) (PM g n M ar) (QM g (n + a) Q) a b (gA g) := by
  refine Met.ofW (cc := μ.2.1) (maxL := μ.2.2.1) (ret := μ.2.2.2) hpn rfl ?_
  intro p e s m args below meth c s₁ B hml hv
  obtain ⟨rfl, hK, hC, hP, hR⟩ := hv
  have hts := atoms_spec (ws := wsOf μ) B.pre
  have hown : s.vm.findClass μ.1.cls = some m.cls := findClass_of_methodNamed B.named
  have hnm : meth.name = μ.1.name := (name_of_methodNamed B.named B.method).1
  have hlocks := B.notSynchronized
  rw [lg_entry_eq]
  have hm : MC p μ s m (ar.map (wv g)).toArray meth c := ⟨B.exec, B.bytes, B.returns, hml, hown, fun w hw => hts w (List.mem_cons_of_mem _ hw), hlocks, fun h => hnm.trans h⟩
  refine h p e s m _ below meth c _ s.heap [] 0 0 _ _ hm hK hC va_S.rf hP ⟨Nat.le_refl _, Nat.le_refl _⟩ (by show 0 + a ≤ a; omega) (by show 0 + b ≤ b; omega) (loc0_LR hlen) RS.nil (loc0_RS hR) ?_
  intro r M' H' locs' pc' ls' op h1 h2 h3 h4 h5 h6
  have hq : ∀ t : State, t.heap = H' → QM g (n + a) Q (ar.map (wv g)).toArray s (.returned (r.map (wv g))) t := fun t ht => ⟨r, M', rfl, h3, by rw [ht]; exact h4, h6, h5.F ht⟩
  cases op with
  | ireturn =>
    obtain ⟨x, ty, rfl, hret, hn⟩ := h1
    exact W.zret (ty := ty) hm.1 hm.2.1 (hm.2.2.1.trans hret) hn (fun t ht _ => hq t ht) h5.2.2 h2
  | lreturn =>
    obtain ⟨x, rfl, hret⟩ := h1
    exact W.lret hm.1 hm.2.1 (hm.2.2.1.trans hret) (fun t ht _ => hq t ht) h5.2.2 h2
  | areturn =>
    obtain ⟨x, rt, rfl, hret, hrt⟩ := h1
    have hv : rv g x = .null ∨ ∃ a, rv g x = .ref a := by
      unfold rv
      split
      · exact Or.inl rfl
      · exact Or.inr ⟨_, rfl⟩
    exact W.aret (rt := rt) (v := rv g x) hm.1 hm.2.1 (hm.2.2.1.trans hret) hrt hv (fun t ht _ => hq t ht) h5.2.2 h2
  | return_ =>
    obtain ⟨rfl, hret⟩ := h1
    exact W.vret hm.1 hm.2.1 (hm.2.2.1.trans hret) (fun t ht _ => hq t ht) h5.2.2 h2
  | _ => exact h1.elim
theorem sum_cat {g : Gw} : ∀ st : List Wd, ((st.map (wv g)).map fun v => v.category).sum ≤ 2 * st.length
  | [] => Nat.le_refl 0
  | w :: r => by
    have := lv_cat (wv g w)
    have := sum_cat (g := g) r
    simp only [List.map_cons, List.sum_cons, List.length_cons] at *
    omega
/-- what a call of an own method, named through a class's pool, rests on -/
def CB (own : String) (idx : Nat) (μ' : Md) (np : Nat) : Prop := Cond.methodLink own idx μ'.1 ∈ TG ∧ Cond.code μ'.1 μ'.2.1 μ'.2.2.1 μ'.2.2.2 ∈ TG ∧ Cond.initialized μ'.1.cls ∈ TG ∧ (μ'.1.cls ≠ "java/lang/invoke/MethodHandle" ∧ μ'.1.cls ≠ "java/lang/invoke/VarHandle") ∧ (parseMethodDescriptor μ'.1.desc).map (fun d => d.parameters.length) = some np ∧ plainName μ'.1.cls = true ∧ μ'.2.2.1 ≤ 40
def CV (own : String) (idx : Nat) (μ' : Md) (np : Nat) : Prop := CB own idx μ' np ∧ Cond.instanceMethod μ'.1 ∈ TG ∧ Cond.selects μ'.1.cls μ'.1 μ'.1 ∈ TG
def CS (own : String) (idx : Nat) (μ' : Md) (np : Nat) : Prop := CB own idx μ' np ∧ Cond.static μ'.1 ∈ TG
def CI (own : String) (idx : Nat) (μ' : Md) (np : Nat) : Prop := CB own idx μ' np ∧ Cond.instanceMethod μ'.1 ∈ TG ∧ μ'.1.name = "<init>"
theorem tg_good {w : Cond} (h : w ∈ TG) : (w.onTables && w.keeps) = true ∨ ∃ ty, w = .arrayClass ty := good_of_word (List.mem_filter.mp h).2
theorem good_ws {μ' : Md} (h : Cond.code μ'.1 μ'.2.1 μ'.2.2.1 μ'.2.2.2 ∈ TG) : GoodIn TG (wsOf μ') := by
  intro w hw
  rcases List.mem_cons.mp hw with rfl | hw
  · exact ⟨h, tg_good h⟩
  · exact ⟨hw, tg_good hw⟩
/-- the receiver's class -/
def isC (g : Gw) (i : Nat) (C : String) : Prop := (∃ c N, kd i = (c, N) ∧ c < 9 ∧ (clT c).1 = C ∧ 1 ≤ i ∧ i < 1000) ∨ (1000 ≤ i ∧ i < 1014 ∧ C = "java/lang/String")
section WPE
variable {l : Launch} {g : Gw} {d a b n : Nat} {μ μ' : Md} {pc : Nat} {st loc : List Wd} {M : Mm} {Q : Option Wd → Mm → Prop}
set_option maxHeartbeats 4000000 in
theorem run_k {p : Program} {e : Env} {s : State} {m : MethodId} {args : Array Value} {below : List Frame} {meth : Method} {c : Code} {R : Room} {H : Heap} {locs : List Loc} {cells slots a1 b1 : Nat} {ls : Array Slot} {F : State → Prop} {rest : List Wd} {st0 : List Value} {av : Array Value} {Q1 : Option Wd → Mm → Prop} {n' : Nat}
    (hS : va_S (gA g) s.heap H locs) (hr : va_Run p l e R s m args below meth c H locs cells slots a1 b1 (F0 m pc ls st0) (rest.map (wv g)) (QM g n' Q1 av) (gA g))
    (kk : ∀ (r : Option Wd) (M' : Mm) (H1 : Heap) (locs1 : List Loc), Q1 r M' → Pic g n' M' H1 → RS r.toList → va_S (gA g) s.heap H1 locs1 → W p l e R s m args below meth c H1 locs1 (cells + a1) (slots + b1) F (F0 m (pc + 3) ls ((r.toList ++ rest).map (wv g)))) :
    W p l e R s m args below meth c H locs cells slots F (F0 m pc ls st0) := by
  intro T hT X
  obtain ⟨v, st₀, t, T', L, h0, X', hL, e1, e2, ⟨r, M', hv, hq, hp, hR, hz, hk⟩, st⟩ := hr T hT X
  have hv := Outcome.returned.inj hv
  subst hv
  rw [h0] at hz hk
  obtain ⟨t2, a1, b1⟩ := kk r M' T'.heap (locs ++ L) hq (by rw [e1]; exact hp) hR
    ⟨Nat.le_trans hS.1 (by rw [e1]; exact hz), fun q h1 h2 => by rw [e1, hk q (Nat.lt_of_lt_of_le h1 hS.1) h2]; exact hS.2.1 q h1 h2, fun q hq => by
      rcases List.mem_append.mp hq with h | h
      · exact hS.2.2 q h
      · exact hL q h⟩ T' rfl X'
  refine ⟨t2, st t2 ?_, b1⟩
  have e9 : (r.toList ++ rest).map (wv g) = (r.map (wv g)).toList ++ rest.map (wv g) := by cases r <;> simp
  rw [e9] at a1
  exact a1
set_option maxHeartbeats 4000000 in
theorem wp_callV {idx np a1 b1 : Nat} (hC : CV μ.1.cls idx μ' np) (i : Nat) {x : Int} (hx : x = (i : Int)) (ar rest : List Wd) (hst : st = ar.reverse ++ (2, x) :: rest) (hnp : ar.length = np) (hrec : isC g i μ'.1.cls) (hi : i < 1000 → i ≤ n) (hrest : rest.length ≤ 4) (hd : decode μ.2.1 pc = .ok (.invokevirtual idx, 3)) (hml : loc.length = μ.2.2.1) (hlen : (el ((2, x) :: ar)).length ≤ μ'.2.2.1)
    {d' : Nat} (hdd : d' + 1 ≤ d) (kk : Wp l g d' a1 b1 n μ' 0 [] (loc0 ((2, x) :: ar) μ'.2.2.1) M (fun r M' => Wp l g d a b (n + a1) μ (pc + 3) (r.toList ++ rest) loc M' Q)) : Wp l g d (a1 + a) (b1 + b) n μ pc st loc M Q := by
  subst hx
  subst hst
  intro p e s m args below meth c R H locs cells slots ls F hm hK hCn hS hP hr hcc hs hl h1 h2 hf
  have hts : ∀ w ∈ TG, w.before args s = true := hm.2.2.2.2.2.1
  have hRar : RS ((2, (i : Int)) :: ar) := fun w hw => by
    rcases List.mem_cons.mp hw with rfl | hw
    · trivial
    · exact h1 w (List.mem_append_left _ (List.mem_reverse.mpr hw))
  have hRrest : RS rest := fun w hw => h1 w (List.mem_append_right _ (List.mem_cons_of_mem _ hw))
  have hM := met_of (l := l) hC.1.2.2.2.2.2.1 hlen kk
  have hi1 : 1 ≤ i := by
    rcases hrec with ⟨_, _, _, _, _, h, _⟩ | ⟨h, _⟩ <;> omega
  have hH := CN.kept hCn hS.2.1
  have hcw : CallW R s args μ.1.cls μ'.1.cls idx μ'.1 μ'.2.1 μ'.2.2.1 μ'.2.2.2 (wsOf μ') (rmOf d' a1 b1) a1 b1 np := by
    refine ⟨callB_of (ws' := TG) np hts (good_ws hC.1.2.1) rfl rfl rfl (hts _ hC.1.2.2.1) (hts _ hC.1.1) ⟨hC.1.2.2.2.1.1, hC.1.2.2.2.1.2, hC.1.2.2.2.2.1⟩ ⟨?_, ?_⟩, hts _ hC.2.1, hts _ hC.2.2⟩
    · show d' + 1 ≤ R.frames
      exact Nat.le_trans hdd hr.1
    · show 8 + (μ'.2.2.1 + 11) + 60 * d' ≤ R.locals
      have := hr.2
      have := hC.1.2.2.2.2.2.2
      omega
  have hpre : PreV s H μ'.1.cls (adg g i) (PM g n M ((2, (i : Int)) :: ar)) (ar.map (wv g)) := by
    refine ⟨PM_blind, ?_, fun U hU hW => ?_⟩
    · rcases hrec with ⟨c0, N, hk, hc9, hcl, hi1, hi2⟩ | ⟨g1, g2, g3⟩
      · obtain ⟨cell, q1, q2, q3, -⟩ := hP.ob ⟨hi1, hi hi2⟩ hk hc9
        exact ⟨cell, q1, by rw [q3]; rfl, by rw [q2, ← hcl]; exact (hK.1 c0 _ (clT_at c0 hc9)).2.1⟩
      · have e1 : adg g i = g.2.2.2.1 (i - 1000) := by unfold adg; rw [if_neg (by omega), if_pos (by omega)]
        rw [e1, g3]
        exact vk_recv hCn.2.1 (by omega) hS
    · refine ⟨?_, va_K.moved hW.alike hK, ?_, by rw [hU]; exact hP, hRar⟩
      · show (Value.ref (adg g i) :: ar.map (wv g)).toArray = (rv g (i : Int) :: ar.map (wv g)).toArray
        rw [rv_pos hi1]
      · have h9 : CN g s H := hH
        obtain ⟨q1, q2, q3, q4, q5⟩ := h9
        have ha := hW.alike
        rw [hU]
        exact ⟨fun i q hq => (q1 i q hq).warm hW, q2.moved ha, q3.moved ha, q4.moved ha, q5.moved ha⟩
  have hrun := va_runV (e := e) (below := below) (meth := meth) (locs := locs) (cells := cells) (slots := slots) (g := F0 m pc ls ((ar.reverse ++ (2, (i : Int)) :: rest).map (wv g))) (rest := rest.map (wv g)) (R := R) (n := np) ⟨hm.1, hm.2.1, hm.2.2.2.1, hm.2.2.2.2.1, hts⟩ hM hcw hpre rfl (by rw [List.length_map]; exact hnp) (by show ls.size = _; rw [hl.1, hml]) (by
      show (ar.reverse ++ (2, (i : Int)) :: rest).map (wv g) = (ar.map (wv g)).reverse ++ .ref (adg g i) :: rest.map (wv g)
      rw [List.map_append, List.map_cons, List.map_reverse]
      show _ ++ rv g (i : Int) :: _ = _
      rw [rv_pos hi1]) (lv_room (by have := sum_cat (g := g) rest; omega)) hd ⟨by omega, by omega⟩
  refine run_k hS hrun fun r M' H1 locs1 k1 k2 k3 k4 => ?_
  refine k1 p e s m args below meth c R H1 locs1 (cells + a1) (slots + b1) ls F hm hK hCn k4 k2 hr (by omega) (by omega) hl ?_ h2 (by rw [show n + a1 + a = n + (a1 + a) by omega]; exact hf)
  intro w hw
  rcases List.mem_append.mp hw with q | q
  · exact k3 w q
  · exact hRrest w q
set_option maxHeartbeats 4000000 in
theorem wp_callS {idx np a1 b1 : Nat} (hC : CS μ.1.cls idx μ' np) (ar rest : List Wd) (hst : st = ar.reverse ++ rest) (hnp : ar.length = np) (hrest : rest.length ≤ 4) (hd : decode μ.2.1 pc = .ok (.invokestatic idx, 3)) (hml : loc.length = μ.2.2.1) (hlen : (el ar).length ≤ μ'.2.2.1)
    {d' : Nat} (hdd : d' + 1 ≤ d) (kk : Wp l g d' a1 b1 n μ' 0 [] (loc0 ar μ'.2.2.1) M (fun r M' => Wp l g d a b (n + a1) μ (pc + 3) (r.toList ++ rest) loc M' Q)) : Wp l g d (a1 + a) (b1 + b) n μ pc st loc M Q := by
  subst hst
  intro p e s m args below meth c R H locs cells slots ls F hm hK hCn hS hP hr hcc hs hl h1 h2 hf
  have hts : ∀ w ∈ TG, w.before args s = true := hm.2.2.2.2.2.1
  have hRar : RS ar := fun w hw => h1 w (List.mem_append_left _ (List.mem_reverse.mpr hw))
  have hRrest : RS rest := fun w hw => h1 w (List.mem_append_right _ hw)
  have hM := met_of (l := l) hC.1.2.2.2.2.2.1 hlen kk
  have hH := CN.kept hCn hS.2.1
  have hcw : CallB R s args μ.1.cls idx μ'.1 μ'.2.1 μ'.2.2.1 μ'.2.2.2 (wsOf μ') (rmOf d' a1 b1) a1 b1 np ∧ (Cond.static μ'.1).before args s = true := by
    refine ⟨callB_of (ws' := TG) np hts (good_ws hC.1.2.1) rfl rfl rfl (hts _ hC.1.2.2.1) (hts _ hC.1.1) ⟨hC.1.2.2.2.1.1, hC.1.2.2.2.1.2, hC.1.2.2.2.2.1⟩ ⟨?_, ?_⟩, hts _ hC.2⟩
    · show d' + 1 ≤ R.frames
      exact Nat.le_trans hdd hr.1
    · show 8 + (μ'.2.2.1 + 11) + 60 * d' ≤ R.locals
      have := hr.2
      have := hC.1.2.2.2.2.2.2
      omega
  have hpre : PreS s H (PM g n M ar) (ar.map (wv g)) := by
    refine ⟨PM_blind, fun U hU hW => ?_⟩
    refine ⟨rfl, va_K.moved hW.alike hK, ?_, by rw [hU]; exact hP, hRar⟩
    obtain ⟨q1, q2, q3, q4, q5⟩ := hH
    have ha := hW.alike
    rw [hU]
    exact ⟨fun i q hq => (q1 i q hq).warm hW, q2.moved ha, q3.moved ha, q4.moved ha, q5.moved ha⟩
  have hrun := va_runS (e := e) (below := below) (meth := meth) (locs := locs) (cells := cells) (slots := slots) (g := F0 m pc ls ((ar.reverse ++ rest).map (wv g))) (rest := rest.map (wv g)) (R := R) (n := np) ⟨hm.1, hm.2.1, hm.2.2.2.1, hm.2.2.2.2.1, hts⟩ hM hcw hpre rfl (by rw [List.length_map]; exact hnp) (by show ls.size = _; rw [hl.1, hml]) (by
      show (ar.reverse ++ rest).map (wv g) = (ar.map (wv g)).reverse ++ rest.map (wv g)
      rw [List.map_append, List.map_reverse]) (lv_room (by have := sum_cat (g := g) rest; omega)) hd ⟨by omega, by omega⟩
  refine run_k hS hrun fun r M' H1 locs1 k1 k2 k3 k4 => ?_
  refine k1 p e s m args below meth c R H1 locs1 (cells + a1) (slots + b1) ls F hm hK hCn k4 k2 hr (by omega) (by omega) hl ?_ h2 (by rw [show n + a1 + a = n + (a1 + a) by omega]; exact hf)
  intro w hw
  rcases List.mem_append.mp hw with q | q
  · exact k3 w q
  · exact hRrest w q
set_option maxHeartbeats 4000000 in
theorem wp_callI {idx np a1 b1 : Nat} (hC : CI μ.1.cls idx μ' np) (hret : μ'.2.2.2 = none) (i : Nat) {x : Int} (hx : x = (i : Int)) (ar rest : List Wd) (hst : st = ar.reverse ++ (2, x) :: rest) (hnp : ar.length = np) (hi1 : 1 ≤ i) (hrest : rest.length ≤ 4) (hd : decode μ.2.1 pc = .ok (.invokespecial idx, 3)) (hml : loc.length = μ.2.2.1) (hlen : (el ((2, x) :: ar)).length ≤ μ'.2.2.1)
    {d' : Nat} (hdd : d' + 1 ≤ d) (kk : Wp l g d' a1 b1 n μ' 0 [] (loc0 ((2, x) :: ar) μ'.2.2.1) M (fun r M' => Wp l g d a b (n + a1) μ (pc + 3) (r.toList ++ rest) loc M' Q)) : Wp l g d (a1 + a) (b1 + b) n μ pc st loc M Q := by
  subst hx
  subst hst
  intro p e s m args below meth c R H locs cells slots ls F hm hK hCn hS hP hr hcc hs hl h1 h2 hf
  have hts : ∀ w ∈ TG, w.before args s = true := hm.2.2.2.2.2.1
  have hRar : RS ((2, (i : Int)) :: ar) := fun w hw => by
    rcases List.mem_cons.mp hw with rfl | hw
    · trivial
    · exact h1 w (List.mem_append_left _ (List.mem_reverse.mpr hw))
  have hRrest : RS rest := fun w hw => h1 w (List.mem_append_right _ (List.mem_cons_of_mem _ hw))
  have hM := met_of (l := l) hC.1.2.2.2.2.2.1 hlen kk
  have hH := CN.kept hCn hS.2.1
  have hcw : CallB R s args μ.1.cls idx μ'.1 μ'.2.1 μ'.2.2.1 none (wsOf μ') (rmOf d' a1 b1) a1 b1 np ∧ μ'.1.name = "<init>" ∧ (Cond.instanceMethod μ'.1).before args s = true := by
    refine ⟨callB_of (ws' := TG) np hts (good_ws hC.1.2.1) (by unfold wsOf; rw [hret]) rfl rfl (hts _ hC.1.2.2.1) (hts _ hC.1.1) ⟨hC.1.2.2.2.1.1, hC.1.2.2.2.1.2, hC.1.2.2.2.2.1⟩ ⟨?_, ?_⟩, hC.2.2, hts _ hC.2.1⟩
    · show d' + 1 ≤ R.frames
      exact Nat.le_trans hdd hr.1
    · show 8 + (μ'.2.2.1 + 11) + 60 * d' ≤ R.locals
      have := hr.2
      have := hC.1.2.2.2.2.2.2
      omega
  have hpre : PreS s H (PM g n M ((2, (i : Int)) :: ar)) (.ref (adg g i) :: ar.map (wv g)) := by
    refine ⟨PM_blind, fun U hU hW => ?_⟩
    refine ⟨?_, va_K.moved hW.alike hK, ?_, by rw [hU]; exact hP, hRar⟩
    · show (Value.ref (adg g i) :: ar.map (wv g)).toArray = (rv g (i : Int) :: ar.map (wv g)).toArray
      rw [rv_pos hi1]
    · obtain ⟨q1, q2, q3, q4, q5⟩ := hH
      have ha := hW.alike
      rw [hU]
      exact ⟨fun i q hq => (q1 i q hq).warm hW, q2.moved ha, q3.moved ha, q4.moved ha, q5.moved ha⟩
  have hrun := va_runI (e := e) (below := below) (meth := meth) (locs := locs) (cells := cells) (slots := slots) (g := F0 m pc ls ((ar.reverse ++ (2, (i : Int)) :: rest).map (wv g))) (rest := rest.map (wv g)) (R := R) (n := np) ⟨hm.1, hm.2.1, hm.2.2.2.1, hm.2.2.2.2.1, hts⟩ hM hcw hpre rfl (by rw [List.length_map]; exact hnp) (by show ls.size = _; rw [hl.1, hml]) (by
      show (ar.reverse ++ (2, (i : Int)) :: rest).map (wv g) = (ar.map (wv g)).reverse ++ .ref (adg g i) :: rest.map (wv g)
      rw [List.map_append, List.map_cons, List.map_reverse]
      show _ ++ rv g (i : Int) :: _ = _
      rw [rv_pos hi1]) (lv_room (by have := sum_cat (g := g) rest; omega)) hd ⟨by omega, by omega⟩
  refine run_k hS hrun fun r M' H1 locs1 k1 k2 k3 k4 => ?_
  refine k1 p e s m args below meth c R H1 locs1 (cells + a1) (slots + b1) ls F hm hK hCn k4 k2 hr (by omega) (by omega) hl ?_ h2 (by rw [show n + a1 + a = n + (a1 + a) by omega]; exact hf)
  intro w hw
  rcases List.mem_append.mp hw with q | q
  · exact k3 w q
  · exact hRrest w q
/-! answers -/
theorem wp_ret {r : Option Wd} {op : Instr} (h : retOp r μ.2.2.2 op) (hd : decode μ.2.1 pc = .ok (op, 1)) (hq : Q r M) : Wp l g d 0 0 n μ pc r.toList loc M Q := by
  intro p e s m args below meth c R H locs cells slots ls F hm hK hC hS hP hr hcc hs hl h1 h2 hf
  exact W.widen (by omega) (by omega) (hf r M H locs pc ls op h hd hq hP hS h1)
theorem wp_iret {x : Int} (hr : μ.2.2.2 = some .int) (hd : decode μ.2.1 pc = .ok (.ireturn, 1)) (hq : Q (some (0, x)) M) : Wp l g d 0 0 n μ pc [(0, x)] loc M Q :=
  wp_ret (r := some (0, x)) (op := .ireturn) ⟨x, .int, rfl, hr, rfl⟩ hd hq
theorem wp_zret {x : Int} (hr : μ.2.2.2 = some .boolean) (hx : x = 0 ∨ x = 1) (hd : decode μ.2.1 pc = .ok (.ireturn, 1)) (hq : Q (some (0, x)) M) : Wp l g d 0 0 n μ pc [(0, x)] loc M Q :=
  wp_ret (r := some (0, x)) (op := .ireturn) ⟨x, .boolean, rfl, hr, (fit_z g hx).1⟩ hd hq
theorem wp_cret {x : Int} {ty : FieldType} (hr : μ.2.2.2 = some ty) (hn : narrow ty (.int (Int32.ofInt x)) = .int (Int32.ofInt x)) (hd : decode μ.2.1 pc = .ok (.ireturn, 1)) (hq : Q (some (0, x)) M) : Wp l g d 0 0 n μ pc [(0, x)] loc M Q :=
  wp_ret (r := some (0, x)) (op := .ireturn) ⟨x, ty, rfl, hr, hn⟩ hd hq
theorem wp_lret {x : Int} (hr : μ.2.2.2 = some .long) (hd : decode μ.2.1 pc = .ok (.lreturn, 1)) (hq : Q (some (1, x)) M) : Wp l g d 0 0 n μ pc [(1, x)] loc M Q :=
  wp_ret (r := some (1, x)) (op := .lreturn) ⟨x, rfl, hr⟩ hd hq
theorem wp_aret {x : Int} {rt : FieldType} (hr : μ.2.2.2 = some rt) (hrt : (∃ n, rt = .object n) ∨ ∃ t, rt = .array t) (hd : decode μ.2.1 pc = .ok (.areturn, 1)) (hq : Q (some (2, x)) M) : Wp l g d 0 0 n μ pc [(2, x)] loc M Q :=
  wp_ret (r := some (2, x)) (op := .areturn) ⟨x, rt, rfl, hr, hrt⟩ hd hq
theorem wp_vret (hr : μ.2.2.2 = none) (hd : decode μ.2.1 pc = .ok (.return_, 1)) (hq : Q none M) : Wp l g d 0 0 n μ pc [] loc M Q :=
  wp_ret (r := none) (op := .return_) ⟨rfl, hr⟩ hd hq
end WPE
