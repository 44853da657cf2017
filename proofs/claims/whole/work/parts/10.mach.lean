/-! ===== the plain machine: words with a tag, a memory of objects and slots ===== -/
abbrev Wd : Type := Nat × Int
abbrev Mm : Type := Nat → Nat → Int
abbrev Md : Type := MethodName × ByteArray × Nat × Option FieldType
abbrev Gw : Type := (Nat → ClassId) × (Nat → Nat → Nat) × (Nat → ClassId) × (Nat → Nat) × (Nat → Nat) × Nat × Nat
def mu (M : Mm) (i j : Nat) (v : Int) : Mm := fun a b => if a = i then (if b = j then v else M a b) else M a b
abbrev gB (g : Gw) : Nat := g.2.2.2.2.2.2
abbrev gA (g : Gw) : Nat → Prop := fun q => gB g < q
def adg (g : Gw) (i : Nat) : Nat := if i < 1000 then gB g + i else if i < 1100 then g.2.2.2.1 (i - 1000) else if i < 1200 then g.2.2.2.2.1 (i - 1100) else g.2.2.2.2.2.1
def rv (g : Gw) (x : Int) : Value := if x = 0 then .null else .ref (adg g x.toNat)
def wv (g : Gw) : Wd → Value
  | (0, x) => .int (Int32.ofInt x)
  | (1, x) => .long (Int64.ofInt x)
  | (_, x) => rv g x
def wr : Wd → Prop
  | (0, x) => -2147483648 ≤ x ∧ x < 2147483648
  | (1, x) => -9223372036854775808 ≤ x ∧ x < 9223372036854775808
  | _ => True
def RS (st : List Wd) : Prop := ∀ w ∈ st, wr w
def LR (g : Gw) (ls : Array Slot) (loc : List Wd) : Prop := ls.size = loc.length ∧ lv_wf ls ∧ ∀ (i : Nat) (w : Wd), loc[i]? = some w → w.1 < 3 → ls[i]? = some (.val (wv g w))
/-- the objects, in the order in which they are made: kind and size; 0 .. 8 classes, 10 int rows, 11 boolean rows, 12 rows of Text, 13 rows of Sheet -/
def kdL : List (Nat × Nat) := [(99, 0), (7, 9),
  (0, 10), (10, 5), (10, 5), (10, 5), (10, 5), (10, 5), (10, 5),
  (0, 10), (10, 5), (10, 5), (10, 5), (10, 5), (10, 5), (10, 5),
  (0, 10), (10, 5), (10, 5), (10, 5), (10, 5), (10, 5), (10, 5),
  (2, 9), (10, 160), (6, 2), (12, 6),
  (5, 5), (10, 160), (10, 3), (10, 160), (5, 5), (10, 160), (10, 3), (10, 160), (5, 5), (10, 160), (10, 3), (10, 160),
  (5, 5), (10, 160), (10, 3), (10, 160), (5, 5), (10, 160), (10, 3), (10, 160), (5, 5), (10, 160), (10, 3), (10, 160),
  (1, 1), (3, 13), (10, 120), (10, 120), (10, 3125), (10, 5), (11, 25), (10, 5), (10, 5), (13, 4),
  (4, 3), (10, 40), (4, 3), (10, 40), (4, 3), (10, 40), (4, 3), (10, 40),
  (8, 53), (10, 960), (10, 6), (10, 160), (10, 5), (10, 20), (10, 5), (10, 120), (10, 120), (11, 25), (10, 5), (10, 5), (10, 5),
  (10, 5), (10, 20), (10, 5), (10, 5), (10, 20), (11, 4), (10, 4), (10, 4), (10, 160)]
def kd (i : Nat) : Nat × Nat := kdL.getD i (99, 0)
def tyOf (c : Nat) : Nat → FieldType := match c with
  | 0 => tyX0
  | 1 => tyX1
  | 2 => tyX2
  | 3 => tyX3
  | 4 => tyX4
  | 5 => tyX5
  | 6 => tyX6
  | 7 => tyX7
  | _ => tyX8
def tagOf (t : FieldType) : Nat := match t with
  | .int => 0
  | .boolean => 0
  | .long => 1
  | _ => 2
def ft (c k : Nat) : Nat := tagOf (tyOf c k)
def et (k : Nat) : Nat := if k < 12 then 0 else 2
def clT (c : Nat) : vw_C := vwCl.getD c (RX0, TX0, 0)
def cellOK (g : Gw) (M : Mm) (i : Nat) (H : Heap) : Prop :=
  if (kd i).1 < 9 then t_OB (adg g i) (g.1 (kd i).1) (kd i).2 (g.2.1 (kd i).1) H (fun k => wv g (ft (kd i).1 k, M i k))
  else H[adg g i]? = some (arrV (g.2.2.1 ((kd i).1 - 10)) (kd i).2 (fun j => wv g (et (kd i).1, M i j)))
def Rng (M : Mm) : Prop := ∀ i j, -2147483648 ≤ M i j ∧ M i j < 2147483648
def Pic (g : Gw) (n : Nat) (M : Mm) (H : Heap) : Prop := H.size = gB g + 1 + n ∧ (∀ i, 1 ≤ i → i ≤ n → cellOK g M i H) ∧ (∀ i j, n < i → M i j = 0) ∧ Rng M ∧ n ≤ 90
def aTys (g : Gw) : List (ClassId × FieldType) := [(g.2.2.1 0, .int), (g.2.2.1 1, .boolean), (g.2.2.1 2, .object RX5), (g.2.2.1 3, .object RX4)]
def KN (g : Gw) (U : State) : Prop := va_K (g.1, g.2.1) vwCl (aTys g) U
def strL : List (String × Nat × String) := [("AheadOfAFriend", 60, "minds not liked ; lasts 3 + number ; irks 1 ;"), ("AheadOfAFriend$Reader", 136, "minds"), ("AheadOfAFriend$Reader", 138, "lasts"), ("AheadOfAFriend$Reader", 140, "irks"), ("AheadOfAFriend$Reader", 142, "or"), ("AheadOfAFriend$Reader", 144, "and"), ("AheadOfAFriend$Reader", 146, "not"), ("AheadOfAFriend$Reader", 148, "liked"), ("AheadOfAFriend$Reader", 150, "number"), ("AheadOfAFriend$Reader", 152, "theirs"), ("AheadOfAFriend$Reader", 154, "minute"), ("AheadOfAFriend$Reader", 156, "gifts"), ("AheadOfAFriend$Reader", 158, "errand"), ("AheadOfAFriend$Reader", 131, "();+-*<=")]
def bytL : List (List Int32) := [[109,105,110,100,115,32,110,111,116,32,108,105,107,101,100,32,59,32,108,97,115,116,115,32,51,32,43,32,110,117,109,98,101,114,32,59,32,105,114,107,115,32,49,32,59],
  [109,105,110,100,115], [108,97,115,116,115], [105,114,107,115], [111,114], [97,110,100], [110,111,116], [108,105,107,101,100], [110,117,109,98,101,114], [116,104,101,105,114,115], [109,105,110,117,116,101], [103,105,102,116,115], [101,114,114,97,110,100], [40,41,59,43,45,42,60,61]]
def lenL : List Nat := [45, 5, 5, 4, 2, 3, 3, 5, 6, 6, 6, 5, 6, 8]
def overL : List Int := [-1, 0, 0, 1, 2, 0]
/-- the script: its length, its ints (kept behind the strings' bytes) -/
def scI (g : Gw) (j : Nat) : Int32 := Int32.ofInt ((g.2.2.2.2.1 (101 + j) : Int) - 2147483648)
def SCR (g : Gw) (U : State) (H : Heap) : Prop := va_X (g.2.2.2.1 15) (g.2.2.2.2.1 100) (scI g) U H ∧ g.2.2.2.1 15 ≤ gB g ∧ g.2.2.2.2.1 100 ≤ 3072
theorem SCR.kept {g : Gw} {U : State} {H H1 : Heap} (h : SCR g U H) (hq : ∀ a : Nat, a < H.size → ¬ gA g a → H1[a]? = H[a]?) : SCR g U H1 := by
  obtain ⟨h1, h2, h3⟩ := h
  obtain ⟨scr, q1, q2⟩ := id h1
  exact ⟨h1.kept (hq _ (Array.getElem?_eq_some_iff.mp q1).1 (by show ¬ gB g < _; omega)), h2, h3⟩
/-- the JDK's formatter: a reference or null -/
def fmW (g : Gw) : Int := if g.2.2.2.2.1 99 = 0 then 0 else 1014
def CT (g : Gw) (U : State) (H : Heap) : Prop := va_T .int g.2.2.2.2.2.1 6 (fun j => .int (Int32.ofInt (overL.getD j 0))) (gA g) U H ∧ va_AO RX5 U ∧ va_AO RX4 U ∧ va_Z "jdk/internal/util/Preconditions" "SIOOBE_FORMATTER" "Ljava/util/function/BiFunction;" (rv g (fmW g)) (gA g) U H ∧ SCR g U H
theorem CT.moved {g : Gw} {u U : State} {H : Heap} (hvm : u.vm.Alike U.vm) (h : CT g u H) : CT g U H := ⟨h.1.moved hvm, h.2.1.moved hvm, h.2.2.1.moved hvm, h.2.2.2.1.moved hvm, h.2.2.2.2.1.moved hvm, h.2.2.2.2.2⟩
theorem CT.kept {g : Gw} {U : State} {H H1 : Heap} (h : CT g U H) (hq : ∀ a : Nat, a < H.size → ¬ gA g a → H1[a]? = H[a]?) : CT g U H1 := ⟨h.1.kept hq, h.2.1, h.2.2.1, h.2.2.2.1.kept hq, h.2.2.2.2.kept hq⟩
def CN (g : Gw) (U : State) (H : Heap) : Prop :=
  (∀ (i : Nat) (q : String × Nat × String), strL[i]? = some q → vk_R q.1 q.2.1 q.2.2 (g.2.2.2.1 i) U) ∧ vk_S 14 lenL bytL g.2.2.2.1 g.2.2.2.2.1 (gA g) U H ∧
  va_Z "java/lang/String" "COMPACT_STRINGS" "Z" (.int 1) (gA g) U H ∧ va_Z "AheadOfAFriend$Manners" "OVER" "[I" (.ref g.2.2.2.2.2.1) (gA g) U H ∧
  CT g U H
def TG : List Cond := lw_tbl.filter goodWord
theorem tg {w : Cond} (i : Nat) (h : lw_tbl[i]? = some w) (hg : goodWord w = true) : w ∈ TG := List.mem_filter.mpr ⟨List.mem_of_getElem? h, hg⟩
theorem tg_in {w : Cond} (h : w ∈ TG) : w ∈ lw_tbl := (List.mem_filter.mp h).1
/-- the method at hand -/
def MC (p : Program) (μ : Md) (s : State) (m : MethodId) (args : Array Value) (meth : Method) (c : Code) : Prop :=
  p.tables.exec = Jvm.exec ∧ c.code = μ.2.1 ∧ meth.sig.returnType = μ.2.2.2 ∧ c.maxLocals = μ.2.2.1 ∧ s.vm.findClass μ.1.cls = some m.cls ∧ (∀ w ∈ TG, w.before args s = true) ∧ meth.locks = false ∧ (μ.1.name = "<init>" → meth.name = "<init>")
def RM (d : Nat) (R : Room) : Prop := d ≤ R.frames ∧ 60 * d ≤ R.locals
/-- which instruction gives that answer -/
def retOp (r : Option Wd) (ret : Option FieldType) : Instr → Prop
  | .ireturn => ∃ x ty, r = some (0, x) ∧ ret = some ty ∧ narrow ty (.int (Int32.ofInt x)) = .int (Int32.ofInt x)
  | .lreturn => ∃ x, r = some (1, x) ∧ ret = some .long
  | .areturn => ∃ x rt, r = some (2, x) ∧ ret = some rt ∧ ((∃ n, rt = .object n) ∨ ∃ t, rt = .array t)
  | .return_ => r = none ∧ ret = none
  | _ => False
def Wp (l : Launch) (g : Gw) (d a b n : Nat) (μ : Md) (pc : Nat) (st loc : List Wd) (M : Mm) (Q : Option Wd → Mm → Prop) : Prop :=
  ∀ (p : Program) (e : Env) (s : State) (m : MethodId) (args : Array Value) (below : List Frame) (meth : Method) (c : Code) (R : Room) (H : Heap) (locs : List Loc) (cells slots : Nat) (ls : Array Slot) (F : State → Prop),
    MC p μ s m args meth c → KN g s → CN g s s.heap → va_S (gA g) s.heap H locs → Pic g n M H → RM d R → cells + a ≤ R.cells → slots + b ≤ R.slots → LR g ls loc → RS st → RS loc →
    (∀ (r : Option Wd) (M' : Mm) (H' : Heap) (locs' : List Loc) (pc' : Nat) (ls' : Array Slot) (op : Instr), retOp r μ.2.2.2 op → decode μ.2.1 pc' = .ok (op, 1) → Q r M' → Pic g (n + a) M' H' → va_S (gA g) s.heap H' locs' → RS r.toList →
      W p l e R s m args below meth c H' locs' R.cells R.slots F (F0 m pc' ls' (r.toList.map (wv g)))) →
    W p l e R s m args below meth c H locs cells slots F (F0 m pc ls (st.map (wv g)))
