/-! The world of the claim: the cells of one TableWright (489) and of the law's own arrays, each under a key (family, object, row); what they hold of numbers is one function M; references never change. -/
abbrev KY : Type := Nat × Nat × Nat
abbrev Mem : Type := Nat → Nat → Nat → Nat → Int32
/-- classes; addresses; the classes of int[], boolean[], Row[]; the length of isText; the law's arrays; the script -/
abbrev GG : Type := va_G × (KY → Nat) × (ClassId × ClassId × ClassId) × Nat × List KY × (Nat × Nat × (Nat → Int32))
def gD (G : GG) : va_G := G.1
def gA (G : GG) : KY → Nat := G.2.1
def gI (G : GG) : ClassId := G.2.2.1.1
def gZ (G : GG) : ClassId := G.2.2.1.2.1
def gR (G : GG) : ClassId := G.2.2.1.2.2
def gN (G : GG) : Nat := G.2.2.2.1
def gX (G : GG) : List KY := G.2.2.2.2.1
def gB (G : GG) : Nat := G.2.2.2.2.2.1
def gL (G : GG) : Nat := G.2.2.2.2.2.2.1
def gS (G : GG) : Nat → Int32 := G.2.2.2.2.2.2.2
def K1 : List (Nat × Nat) := [(0, 1), (1, 2), (2, 2), (3, 5), (5, 2), (6, 2), (7, 2), (8, 2), (9, 2), (10, 2), (11, 2), (18, 5), (19, 5), (20, 5), (21, 5), (22, 5), (23, 5), (24, 5), (25, 5), (26, 5)]
def K2 : List Nat := [4, 12, 13, 14, 15, 16, 17]
def KS0 : List KY := (K1.flatMap fun q => (List.range q.2).map fun o => (q.1, o, 0)) ++ (K2.flatMap fun f => (List.range 2).flatMap fun o => (List.range 30).map fun i => (f, o, i))
def KS (G : GG) : List KY := KS0 ++ gX G
theorem k_1 {G : GG} {f o : Nat} (n : Nat) (h : (f, n) ∈ K1) (ho : o < n) : (f, o, 0) ∈ KS G :=
  List.mem_append_left _ (List.mem_append_left _ (List.mem_flatMap.mpr ⟨(f, n), h, List.mem_map.mpr ⟨o, List.mem_range.mpr ho, rfl⟩⟩))
theorem k_2 {G : GG} {f o i : Nat} (h : f ∈ K2) (ho : o < 2) (hi : i < 30) : (f, o, i) ∈ KS G :=
  List.mem_append_left _ (List.mem_append_right _ (List.mem_flatMap.mpr ⟨f, h, List.mem_flatMap.mpr ⟨o, List.mem_range.mpr ho, List.mem_map.mpr ⟨i, List.mem_range.mpr hi, rfl⟩⟩⟩))
theorem k_x {G : GG} {k : KY} (h : k ∈ gX G) : k ∈ KS G := List.mem_append_right _ h
def aLen (G : GG) (f : Nat) : Nat := if f = 27 then gN G else ([0, 0, 0, 0, 0, 6, 6, 6, 6, 6, 6, 30, 6, 6, 6, 6, 6, 6, 6, 30, 30, 30, 60, 60, 60, 60, 60, 0, 30, 30] : List Nat).getD f 0
def ctv (G : GG) (f o i : Nat) (v : Nat → Int32) : va_E :=
  if f = 0 then .inr (4, [.ref (gA G (1, 0, 0)), .ref (gA G (2, 0, 0)), .int (v 2), .int (v 3), .int (v 4), .ref (gA G (1, 1, 0)), .ref (gA G (2, 1, 0)), .ref (gA G (3, 4, 0))])
  else if f = 1 then .inr (3, [.int (v 0), .ref (gA G (5, o, 0)), .ref (gA G (6, o, 0)), .ref (gA G (7, o, 0)), .ref (gA G (8, o, 0)), .int (v 5), .ref (gA G (11, o, 0)), .ref (gA G (9, o, 0)), .ref (gA G (10, o, 0))])
  else if f = 2 then .inr (2, [.ref (gA G (3, 2 * o, 0)), .ref (gA G (3, 2 * o + 1, 0)), .int (v 2)])
  else if f = 3 then .inr (0, [.int (v 0), .int (v 1), .ref (gA G (18, o, 0)), .ref (gA G (19, o, 0)), .ref (gA G (20, o, 0)), .ref (gA G (21, o, 0)), .int (v 6), .ref (gA G (22, o, 0)), .ref (gA G (23, o, 0)), .ref (gA G (24, o, 0)), .ref (gA G (25, o, 0)), .ref (gA G (26, o, 0)), .int (v 12), .int (v 13)])
  else if f = 4 then .inr (1, [.ref (gA G (12, o, i)), .ref (gA G (13, o, i)), .ref (gA G (14, o, i)), .ref (gA G (15, o, i)), .int (v 4), .int (v 5), .ref (gA G (16, o, i)), .ref (gA G (17, o, i))])
  else if f = 11 then .inl (gR G, 30, .inr (.inr (.inr (.inr fun j => some (gA G (4, o, j))))))
  else if f = 15 ∨ f = 17 ∨ f = 27 ∨ f = 29 then .inl (gZ G, aLen G f, .inl v)
  else .inl (gI G, aLen G f, .inl v)
def ct (G : GG) (M : Mem) (k : KY) : va_E := ctv G k.1 k.2.1 k.2.2 (M k.1 k.2.1 k.2.2)
def WL (G : GG) (M : Mem) : va_W := (KS G).map fun k => (gA G k, ct G M k)
abbrev TY (G : GG) : List (ClassId × FieldType) := [(gI G, .int), (gZ G, .boolean), (gR G, .object RX1)]
/-- the private fields of nest mates that the class's methods read and write, as the tables have them linked -/
def NWF : List (String × Nat × String × String × String × String) := [(RX4, 99, "TableWright$Row", "values", "[I", "TableWright"), (RX3, 77, "TableWright$Row", "values", "[I", "TableWright"), (RX4, 113, "TableWright$Row", "lengths", "[I", "TableWright"), (RX0, 101, "TableWright$Row", "lengths", "[I", "TableWright"), (RX3, 107, "TableWright$Row", "lengths", "[I", "TableWright"), (RX4, 116, "TableWright$Row", "words", "[I", "TableWright"), (RX3, 101, "TableWright$Row", "words", "[I", "TableWright"), (RX4, 127, "TableWright$Row", "isToSpan", "[Z", "TableWright"), (RX3, 74, "TableWright$Row", "isToSpan", "[Z", "TableWright"), (RX3, 54, "TableWright$Row", "noteLines", "I", "TableWright"), (RX4, 137, "TableWright$Row", "noteLines", "I", "TableWright"), (RX0, 136, "TableWright$Row", "noteLines", "I", "TableWright"), (RX4, 140, "TableWright$Row", "isKept", "Z", "TableWright"), (RX0, 139, "TableWright$Row", "isKept", "Z", "TableWright"), (RX3, 51, "TableWright$Row", "sums", "[I", "TableWright"), (RX3, 57, "TableWright$Row", "isHidden", "[Z", "TableWright"), (RX4, 134, "TableWright$Row", "isHidden", "[Z", "TableWright"), (RX0, 91, "TableWright$Row", "isHidden", "[Z", "TableWright"), (RX0, 73, "TableWright$Sheet", "columnCount", "I", "TableWright"), (RX4, 119, "TableWright$Sheet", "columnCount", "I", "TableWright"), (RX0, 80, "TableWright$Sheet", "kinds", "[I", "TableWright"), (RX4, 220, "TableWright$Sheet", "kinds", "[I", "TableWright"), (RX0, 64, "TableWright$Sheet", "rowCount", "I", "TableWright"), (RX4, 72, "TableWright$Sheet", "rowCount", "I", "TableWright"), (RX4, 95, "TableWright$Sheet", "rows", "[LTableWright$Row;", "TableWright"), (RX0, 87, "TableWright$Sheet", "rows", "[LTableWright$Row;", "TableWright"), (RX0, 119, "TableWright$Sheet", "leasts", "[I", "TableWright"), (RX4, 262, "TableWright$Sheet", "leasts", "[I", "TableWright"), (RX0, 109, "TableWright$Sheet", "bests", "[I", "TableWright"), (RX4, 265, "TableWright$Sheet", "bests", "[I", "TableWright"), (RX2, 23, "TableWright$Layout", "isFit", "Z", "TableWright"), (RX4, 243, "TableWright$Layout", "isFit", "Z", "TableWright"), (RX4, 268, "TableWright$Layout", "widths", "[I", "TableWright"), (RX4, 274, "TableWright$Layout", "heights", "[I", "TableWright"), (RX4, 277, "TableWright$Layout", "rowPages", "[I", "TableWright"), (RX4, 280, "TableWright$Layout", "notePages", "[I", "TableWright"), (RX2, 27, "TableWright$Layout", "pageCount", "I", "TableWright"), (RX4, 174, "TableWright$Layout", "pageCount", "I", "TableWright"), (RX4, 237, "TableWright$Layout", "firstRows", "[I", "TableWright"), (RX4, 240, "TableWright$Layout", "rowsOn", "[I", "TableWright"), (RX4, 286, "TableWright$Layout", "notesOn", "[I", "TableWright"), (RX4, 177, "TableWright$Layout", "left", "[I", "TableWright"), (RX4, 246, "TableWright$Setting", "isTurned", "Z", "TableWright")]
def nwc (q : String × Nat × String × String × String × String) : Cond := .fieldLinkNest q.1 q.2.1 q.2.2.1 q.2.2.2.1 q.2.2.2.2.1 q.2.2.2.2.2
def NW (U : State) : Prop := ∀ q ∈ NWF, va_Nw (nwc q) U
theorem NW.warm {s U : State} (hW : s.WarmedH U.vm) (h : NW s) : NW U := fun q hq => va_Nw.warmF hW (h q hq)
theorem NW.same {s U : State} (hW : s.vm = U.vm) (h : NW s) : NW U := fun q hq => va_Nw.same rfl hW (h q hq)
def World (G : GG) (M : Mem) (U : State) : Prop := va_P (gD G) vwCl (WL G M) U.heap ∧ va_K (gD G) vwCl (TY G) U ∧ va_X (gB G) (gL G) (gS G) U U.heap ∧ NW U
def GoodG (G : GG) : Prop := (∀ k, k ∈ KS G → ∀ k', k' ∈ KS G → gA G k = gA G k' → k = k') ∧ (KS G).Nodup ∧ ∀ k, k ∈ KS G → gA G k ≠ gB G
def AG (G : GG) : Nat → Prop := fun q => ∃ k, k ∈ KS G ∧ gA G k = q
/-- a number is written -/
def sM (M : Mem) (f o i j : Nat) (x : Int32) : Mem := fun f' o' i' => if f' = f ∧ o' = o ∧ i' = i then upd (M f o i) j x else M f' o' i'
theorem sM_self (M : Mem) (f o i j : Nat) (x : Int32) : sM M f o i j x f o i = upd (M f o i) j x := by simp [sM]
theorem sM_ne (M : Mem) {f o i j f' o' i' : Nat} (x : Int32) (h : ¬ (f' = f ∧ o' = o ∧ i' = i)) : sM M f o i j x f' o' i' = M f' o' i' := by simp [sM, h]
theorem WL_at {G : GG} {M : Mem} {k : KY} (hk : k ∈ KS G) : ∃ q : Nat, (KS G)[q]? = some k ∧ (WL G M)[q]? = some (gA G k, ct G M k) := by
  obtain ⟨q, hq⟩ := List.getElem?_of_mem hk
  refine ⟨q, hq, ?_⟩
  unfold WL
  rw [List.getElem?_map, hq]
  rfl
theorem nodup_pos {l : List KY} (hn : l.Nodup) {i j : Nat} {a : KY} (hi : l[i]? = some a) (hj : l[j]? = some a) : i = j := by
  obtain ⟨h1, e1⟩ := List.getElem?_eq_some_iff.mp hi
  obtain ⟨h2, e2⟩ := List.getElem?_eq_some_iff.mp hj
  rw [List.nodup_iff_pairwise_ne, List.pairwise_iff_getElem] at hn
  rcases Nat.lt_trichotomy i j with h | h | h
  · exact absurd (e1.trans e2.symm) (hn i j h1 h2 h)
  · exact h
  · exact absurd (e2.trans e1.symm) (hn j i h2 h1 h)
theorem WL_set {G : GG} {M : Mem} {f o i j : Nat} {x : Int32} {q : Nat} {E : va_E} (hn : (KS G).Nodup) (hq : (KS G)[q]? = some (f, o, i)) (he : ctv G f o i (upd (M f o i) j x) = E) : (WL G M).set q (gA G (f, o, i), E) = WL G (sM M f o i j x) := by
  refine List.ext_getElem? fun t => ?_
  unfold WL
  by_cases h : q = t
  · subst h
    have hl : q < ((KS G).map fun k => (gA G k, ct G M k)).length := by
      rw [List.length_map]; exact (List.getElem?_eq_some_iff.mp hq).1
    rw [List.getElem?_set_self hl, List.getElem?_map, hq]
    have e2 : ct G (sM M f o i j x) (f, o, i) = E := by
      show ctv G f o i (sM M f o i j x f o i) = E
      rw [sM_self]; exact he
    show some (gA G (f, o, i), E) = some (gA G (f, o, i), ct G (sM M f o i j x) (f, o, i))
    rw [e2]
  · rw [List.getElem?_set_ne h, List.getElem?_map, List.getElem?_map]
    cases hk : (KS G)[t]? with
    | none => rfl
    | some k =>
      obtain ⟨f', o', i'⟩ := k
      have hne : ¬ (f' = f ∧ o' = o ∧ i' = i) := by
        rintro ⟨rfl, rfl, rfl⟩
        exact h (nodup_pos hn hq hk)
      show some (gA G (f', o', i'), ctv G f' o' i' (M f' o' i')) = some (gA G (f', o', i'), ctv G f' o' i' (sM M f o i j x f' o' i'))
      rw [sM_ne M x hne]
theorem WL_D {G : GG} {M : Mem} {A : Nat → Prop} (hG : GoodG G) (hA : ∀ q, AG G q → A q) : va_D A (WL G M) := by
  refine ⟨fun i j p q hi hj hpq => ?_, fun k q hk => ?_⟩
  · unfold WL at hi hj
    rw [List.getElem?_map] at hi hj
    cases h1 : (KS G)[i]? with
    | none => rw [h1] at hi; cases hi
    | some k =>
      cases h2 : (KS G)[j]? with
      | none => rw [h2] at hj; cases hj
      | some k' =>
        rw [h1] at hi; rw [h2] at hj
        cases hi; cases hj
        have := hG.1 k (List.mem_of_getElem? h1) k' (List.mem_of_getElem? h2) hpq
        subst this
        exact nodup_pos hG.2.1 h1 h2
  · unfold WL at hk
    rw [List.getElem?_map] at hk
    cases h1 : (KS G)[k]? with
    | none => rw [h1] at hk; cases hk
    | some k' =>
      rw [h1] at hk
      cases hk
      exact hA _ ⟨k', List.mem_of_getElem? h1, rfl⟩
abbrev ZT : Type := Nat → List (Nat × Value) → List Value → Mem → Prop
/-- from pc, with these locals, this stack, these numbers in the cells, the machine comes to its goal -/
def ZZ (p : Program) (l : Launch) (e : Env) (R : Room) (s : State) (m : MethodId) (args : Array Value) (below : List Frame) (meth : Method) (c : Code) (G : GG) (A : Nat → Prop) (H0 : Heap) (nL cells slots : Nat) (Q : State → Prop) : ZT :=
  fun pc lv st M => ∀ (H : Heap) (locs : List Loc) (ls : Array Slot), va_P (gD G) vwCl (WL G M) H → va_S A H0 H locs → lv_has ls nL lv → W p l e R s m args below meth c H locs cells slots Q (F0 m pc ls st)
/-- what a walk may use of a method that stands in the world G -/
def AX (l : Launch) (G : GG) (cc : ByteArray) (nL : Nat) (own : String) (Ts : List Cond) (F Lc : Nat) (Z : ZT) : Prop :=
  ∃ (p : Program) (e : Env) (R : Room) (s : State) (m : MethodId) (args : Array Value) (below : List Frame) (meth : Method) (c : Code) (A : Nat → Prop) (H0 : Heap) (cells slots : Nat) (Q : State → Prop),
    (p.tables.exec = Jvm.exec ∧ c.code = cc ∧ c.maxLocals = nL ∧ s.vm.findClass own = some m.cls ∧ ∀ w ∈ Ts, w.before args s = true) ∧ va_K (gD G) vwCl (TY G) s ∧ (∀ q, AG G q → A q) ∧ GoodG G ∧ va_X (gB G) (gL G) (gS G) s H0 ∧ NW s ∧ gB G < H0.size ∧ ¬ A (gB G) ∧ F ≤ R.frames ∧ Lc ≤ R.locals ∧ cells ≤ R.cells ∧ slots ≤ R.slots ∧ Z = ZZ p l e R s m args below meth c G A H0 nL cells slots Q
def RETi (cc : ByteArray) (P : Int32 → Mem → Prop) (Z : ZT) : Prop := ∀ (pc : Nat) (lv : List (Nat × Value)) (r : Int32) (M : Mem), decode cc pc = .ok (.ireturn, 1) → P r M → Z pc lv [.int r] M
def zb (x : Int32) : Prop := x = 0 ∨ x = 1
def RETz (cc : ByteArray) (P : Int32 → Mem → Prop) (Z : ZT) : Prop := ∀ (pc : Nat) (lv : List (Nat × Value)) (r : Int32) (M : Mem), decode cc pc = .ok (.ireturn, 1) → zb r → P r M → Z pc lv [.int r] M
def RETl (cc : ByteArray) (P : Int64 → Mem → Prop) (Z : ZT) : Prop := ∀ (pc : Nat) (lv : List (Nat × Value)) (r : Int64) (M : Mem), decode cc pc = .ok (.lreturn, 1) → P r M → Z pc lv [.long r] M
def RETr (G : GG) (cc : ByteArray) (P : Nat → Mem → Prop) (Z : ZT) : Prop := ∀ (pc : Nat) (lv : List (Nat × Value)) (r : Nat) (M : Mem), decode cc pc = .ok (.areturn, 1) → r < 5 → P r M → Z pc lv [.ref (gA G (3, r, 0))] M
def RETv (cc : ByteArray) (P : Mem → Prop) (Z : ZT) : Prop := ∀ (pc : Nat) (lv : List (Nat × Value)) (M : Mem), decode cc pc = .ok (.return_, 1) → P M → Z pc lv [] M
abbrev rmv (F Lc : Nat) : Room := { frames := F, cells := 0, slots := 0, locals := Lc }
def CTi (l : Launch) (G : GG) (y : MethodName) (ws : List Cond) (F Lc : Nat) (args : List Value) (M : Mem) (P : Int32 → Mem → Prop) : Prop := Met l y ws (rmv F Lc) (va_Pc args (World G M)) (va_Qi P (World G) (AG G)) 0 0 (AG G)
def CTl (l : Launch) (G : GG) (y : MethodName) (ws : List Cond) (F Lc : Nat) (args : List Value) (M : Mem) (P : Int64 → Mem → Prop) : Prop := Met l y ws (rmv F Lc) (va_Pc args (World G M)) (va_Ql P (World G) (AG G)) 0 0 (AG G)
def CTv (l : Launch) (G : GG) (y : MethodName) (ws : List Cond) (F Lc : Nat) (args : List Value) (M : Mem) (P : Mem → Prop) : Prop := Met l y ws (rmv F Lc) (va_Pc args (World G M)) (va_Qv P (World G) (AG G)) 0 0 (AG G)
def CTr (l : Launch) (G : GG) (y : MethodName) (ws : List Cond) (F Lc : Nat) (args : List Value) (M : Mem) (P : Nat → Mem → Prop) : Prop := Met l y ws (rmv F Lc) (va_Pc args (World G M)) (va_Qr (fun u : Nat × Mem => u.1 < 5 ∧ P u.1 u.2) (fun u a t => a = gA G (3, u.1, 0) ∧ World G u.2 t) (AG G)) 0 0 (AG G)
