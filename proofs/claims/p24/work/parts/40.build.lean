/-! How a TableWright is made: a walk over a growing world. -/
abbrev KK : Type := va_G × (ClassId × ClassId × ClassId)
abbrev TYK (K : KK) : List (ClassId × FieldType) := [(K.2.1, .int), (K.2.2.1, .boolean), (K.2.2.2, .object RX1)]
def NML : List (String × Nat × MethodName × String) := [(RX3, 36, yX1_init, "TableWright"), (RX4, 18, yX2_init, "TableWright"), (RX2, 9, yX0_init, "TableWright"), (RX4, 42, yX0_init, "TableWright")]
def NM (U : State) : Prop := (∀ q ∈ NML, va_Nw (.methodLinkNest q.1 q.2.1 q.2.2.1 q.2.2.2) U) ∧ va_AO RX1 U
theorem NM.warm {s U : State} (hW : s.WarmedH U.vm) (h : NM s) : NM U := ⟨fun q hq => va_Nw.warmM hW (h.1 q hq), va_AO.moved hW.alike h.2⟩
abbrev YT : Type := Nat → List (Nat × Value) → List Value → va_W → Nat → Nat → Prop
def ZY (p : Program) (l : Launch) (e : Env) (R : Room) (s : State) (m : MethodId) (args : Array Value) (below : List Frame) (meth : Method) (c : Code) (K : KK) (A : Nat → Prop) (H0 : Heap) (nL : Nat) (Q : State → Prop) : YT :=
  fun pc lv st ws cells slots => ∀ (H : Heap) (locs : List Loc) (ls : Array Slot), va_P K.1 vwCl ws H → va_D A ws → va_S A H0 H locs → lv_has ls nL lv → W p l e R s m args below meth c H locs cells slots Q (F0 m pc ls st)
def BX (l : Launch) (K : KK) (cc : ByteArray) (nL : Nat) (own : String) (Ts : List Cond) (F Lc CC SS : Nat) (Z : YT) : Prop :=
  ∃ (p : Program) (e : Env) (R : Room) (s : State) (m : MethodId) (args : Array Value) (below : List Frame) (meth : Method) (c : Code) (A : Nat → Prop) (H0 : Heap) (Q : State → Prop),
    (p.tables.exec = Jvm.exec ∧ c.code = cc ∧ c.maxLocals = nL ∧ s.vm.findClass own = some m.cls ∧ ∀ w ∈ Ts, w.before args s = true) ∧ va_K K.1 vwCl (TYK K) s ∧ NM s ∧ (∀ q, H0.size ≤ q → A q) ∧ (own = RL ∨ meth.name = "<init>") ∧ F ≤ R.frames ∧ Lc ≤ R.locals ∧ CC ≤ R.cells ∧ SS ≤ R.slots ∧ Z = ZY p l e R s m args below meth c K A H0 nL Q
theorem va_P_mem {D : va_G} {cl : List vw_C} {ws ws' : va_W} {H : Heap} (h : va_P D cl ws H) (hs : ∀ x ∈ ws', x ∈ ws) : va_P D cl ws' H := fun k q hk => by
  obtain ⟨i, hi⟩ := List.getElem?_of_mem (hs q (List.mem_of_getElem? hk))
  exact h i q hi
/-- behind a constructor's call: the other cells, and what it made -/
theorem join_end {D : va_G} {cl : List vw_C} {A : Nat → Prop} {base w1 : va_W} {q : Nat} {e0 : va_E} {H H1 : Heap} (hP : va_P D cl (base ++ [(q, e0)]) H) (hD : va_D A (base ++ [(q, e0)])) (hk : ∀ x : Nat, x < H.size → ¬ va_A [(q, e0)] H.size x → H1[x]? = H[x]?) (hF : ∀ x, va_A [(q, e0)] H.size x → A x) (hP1 : va_P D cl w1 H1) (hD1 : va_D (va_A [(q, e0)] H.size) w1) : va_P D cl (base ++ w1) H1 ∧ va_D A (base ++ w1) := by
  have hb : ∀ (i : Nat) (x : Nat × va_E), base[i]? = some x → x.1 < H.size ∧ ¬ va_A [(q, e0)] H.size x.1 := fun i x hx => by
    have hi := (List.getElem?_eq_some_iff.mp hx).1
    have hx' : (base ++ [(q, e0)])[i]? = some x := by rw [List.getElem?_append_left hi]; exact hx
    have hlt := (hP i x hx').lt
    refine ⟨hlt, ?_⟩
    rintro (⟨k, e, h⟩ | h)
    · have hk0 : k < 1 := (List.getElem?_eq_some_iff.mp h).1
      have : k = 0 := by omega
      subst this
      have hq : x.1 = q := by cases h; rfl
      have hq' : (base ++ [(q, e0)])[base.length]? = some (q, e0) := by rw [List.getElem?_append_right (Nat.le_refl _), Nat.sub_self]; rfl
      have := hD.1 i base.length x (q, e0) hx' hq' hq
      omega
    · omega
  have hPb : va_P D cl base H1 := fun i x hx => by
    have hi := (List.getElem?_eq_some_iff.mp hx).1
    have hx' : (base ++ [(q, e0)])[i]? = some x := by rw [List.getElem?_append_left hi]; exact hx
    exact (hP i x hx').kept (hk x.1 (hb i x hx).1 (hb i x hx).2)
  refine ⟨hPb.app hP1, va_D.app ⟨fun i j x y hi hj hxy => ?_, fun k x hk => ?_⟩ (hD1.weaken (fun _ x _ h => hF x.1 h)) (fun i j x y hi hj hxy => ?_)⟩
  · have hi' := (List.getElem?_eq_some_iff.mp hi).1
    have hj' := (List.getElem?_eq_some_iff.mp hj).1
    exact hD.1 i j x y (by rw [List.getElem?_append_left hi']; exact hi) (by rw [List.getElem?_append_left hj']; exact hj) hxy
  · have hi' := (List.getElem?_eq_some_iff.mp hk).1
    exact hD.2 k x (by rw [List.getElem?_append_left hi']; exact hk)
  · exact (hb i x hi).2 (by rw [hxy]; exact hD1.2 j y hj)
section BXR
variable {l : Launch} {K : KK} {cc : ByteArray} {nL : Nat} {own : String} {Ts : List Cond} {F Lc CC SS : Nat} {Z : YT}
variable {pc : Nat} {lv : List (Nat × Value)} {st : List Value} {ws : va_W} {cs sl : Nat}
theorem BX.aload_n (h : BX l K cc nL own Ts F Lc CC SS Z) {i : Nat} {x : Nat} {f : Fin 4} (d : decode cc pc = .ok (.aload_n f, 1)) (hi : (f : Nat) = i) (q : Nat) (hq : lv[q]? = some (i, .ref x)) (k : Z (pc + 1) lv (.ref x :: st) ws cs sl) : Z pc lv st ws cs sl := by
  obtain ⟨p, e, R, s, m, args, below, meth, c, A, H0, Q, ⟨hx, hb, hml, hown, hts⟩, hK, hN, hA, hin, hF, hL, hc, hs, rfl⟩ := h
  intro H locs ls hP hD hS hl
  exact lv_aload_n hx hb d hi (lv_at hl q hq) (k H locs ls hP hD hS hl)
theorem BX.iload_n (h : BX l K cc nL own Ts F Lc CC SS Z) {i : Nat} {x : Int32} {f : Fin 4} (d : decode cc pc = .ok (.iload_n f, 1)) (hi : (f : Nat) = i) (q : Nat) (hq : lv[q]? = some (i, .int x)) (k : Z (pc + 1) lv (.int x :: st) ws cs sl) : Z pc lv st ws cs sl := by
  obtain ⟨p, e, R, s, m, args, below, meth, c, A, H0, Q, ⟨hx, hb, hml, hown, hts⟩, hK, hN, hA, hin, hF, hL, hc, hs, rfl⟩ := h
  intro H locs ls hP hD hS hl
  exact lv_iload_n hx hb d hi (lv_at hl q hq) (k H locs ls hP hD hS hl)
theorem BX.iconst (h : BX l K cc nL own Ts F Lc CC SS Z) {n : Int} {v : Int32} (d : decode cc pc = .ok (.iconst n, 1)) (hv : Int32.ofInt n = v) (k : Z (pc + 1) lv (.int v :: st) ws cs sl) : Z pc lv st ws cs sl := by
  obtain ⟨p, e, R, s, m, args, below, meth, c, A, H0, Q, ⟨hx, hb, hml, hown, hts⟩, hK, hN, hA, hin, hF, hL, hc, hs, rfl⟩ := h
  intro H locs ls hP hD hS hl
  exact lv_iconst hx hb d hv (k H locs ls hP hD hS hl)
theorem BX.bipush (h : BX l K cc nL own Ts F Lc CC SS Z) {n : Int} {v : Int32} (d : decode cc pc = .ok (.bipush n, 2)) (hv : (Int8.ofInt n).toInt32 = v) (k : Z (pc + 2) lv (.int v :: st) ws cs sl) : Z pc lv st ws cs sl := by
  obtain ⟨p, e, R, s, m, args, below, meth, c, A, H0, Q, ⟨hx, hb, hml, hown, hts⟩, hK, hN, hA, hin, hF, hL, hc, hs, rfl⟩ := h
  intro H locs ls hP hD hS hl
  exact lv_bipush hx hb d hv (k H locs ls hP hD hS hl)
theorem BX.istore_n (h : BX l K cc nL own Ts F Lc CC SS Z) {i : Nat} {x : Int32} {f : Fin 4} (lv' : List (Nat × Value)) (d : decode cc pc = .ok (.istore_n f, 1)) (hi : (f : Nat) = i) (hn : i < nL) (hl' : (i, Value.int x) :: lv.filter (fun q => !(q.1 == i) && !(q.1 + 1 == i && q.2.category == 2)) = lv') (k : Z (pc + 1) lv' st ws cs sl) : Z pc lv (.int x :: st) ws cs sl := by
  obtain ⟨p, e, R, s, m, args, below, meth, c, A, H0, Q, ⟨hx, hb, hml, hown, hts⟩, hK, hN, hA, hin, hF, hL, hc, hs, rfl⟩ := h
  intro H locs ls hP hD hS hl
  exact lv_istore_n hx hb d hi hl hn hl' (fun ls' hl2 => k H locs ls' hP hD hS hl2)
theorem BX.astore_n (h : BX l K cc nL own Ts F Lc CC SS Z) {i : Nat} {x : Nat} {f : Fin 4} (lv' : List (Nat × Value)) (d : decode cc pc = .ok (.astore_n f, 1)) (hi : (f : Nat) = i) (hn : i < nL) (hl' : (i, Value.ref x) :: lv.filter (fun q => !(q.1 == i) && !(q.1 + 1 == i && q.2.category == 2)) = lv') (k : Z (pc + 1) lv' st ws cs sl) : Z pc lv (.ref x :: st) ws cs sl := by
  obtain ⟨p, e, R, s, m, args, below, meth, c, A, H0, Q, ⟨hx, hb, hml, hown, hts⟩, hK, hN, hA, hin, hF, hL, hc, hs, rfl⟩ := h
  intro H locs ls hP hD hS hl
  exact lv_astore_n hx hb d hi hl hn hl' (fun ls' hl2 => k H locs ls' hP hD hS hl2)
theorem BX.iinc (h : BX l K cc nL own Ts F Lc CC SS Z) {i : Nat} {n : Int} {x v : Int32} (lv' : List (Nat × Value)) (d : decode cc pc = .ok (.iinc i n, 3)) (q : Nat) (hq : lv[q]? = some (i, .int x)) (hv : x + Int32.ofInt n = v) (hn : i < nL) (hl' : (i, Value.int v) :: lv.filter (fun q => !(q.1 == i) && !(q.1 + 1 == i && q.2.category == 2)) = lv') (k : Z (pc + 3) lv' st ws cs sl) : Z pc lv st ws cs sl := by
  obtain ⟨p, e, R, s, m, args, below, meth, c, A, H0, Q, ⟨hx, hb, hml, hown, hts⟩, hK, hN, hA, hin, hF, hL, hc, hs, rfl⟩ := h
  intro H locs ls hP hD hS hl
  exact lv_iinc hx hb d hl (k := q) hq hv hn hl' (fun ls' hl2 => k H locs ls' hP hD hS hl2)
theorem BX.dup (h : BX l K cc nL own Ts F Lc CC SS Z) {v : Value} (d : decode cc pc = .ok (.dup, 1)) (hv : v.category = 1) (k : Z (pc + 1) lv (v :: v :: st) ws cs sl) : Z pc lv (v :: st) ws cs sl := by
  obtain ⟨p, e, R, s, m, args, below, meth, c, A, H0, Q, ⟨hx, hb, hml, hown, hts⟩, hK, hN, hA, hin, hF, hL, hc, hs, rfl⟩ := h
  intro H locs ls hP hD hS hl
  exact lv_dup hx hb d hv (k H locs ls hP hD hS hl)
theorem BX.goto (h : BX l K cc nL own Ts F Lc CC SS Z) {o : Int} (tgt : Nat) (d : decode cc pc = .ok (.goto o, 3)) (ht : (pc : Int) + o = (tgt : Int)) (k : Z tgt lv st ws cs sl) : Z pc lv st ws cs sl := by
  obtain ⟨p, e, R, s, m, args, below, meth, c, A, H0, Q, ⟨hx, hb, hml, hown, hts⟩, hK, hN, hA, hin, hF, hL, hc, hs, rfl⟩ := h
  intro H locs ls hP hD hS hl
  exact lv_goto hx hb d ht (k H locs ls hP hD hS hl)
theorem BX.icmp_ge (h : BX l K cc nL own Ts F Lc CC SS Z) {o : Int} {x y : Int32} (tgt : Nat) (d : decode cc pc = .ok (.if_icmp .ge o, 3)) (ht : (pc : Int) + o = (tgt : Int)) (kt : y ≤ x → Z tgt lv st ws cs sl) (kf : ¬ y ≤ x → Z (pc + 3) lv st ws cs sl) : Z pc lv (.int y :: .int x :: st) ws cs sl := by
  obtain ⟨p, e, R, s, m, args, below, meth, c, A, H0, Q, ⟨hx, hb, hml, hown, hts⟩, hK, hN, hA, hin, hF, hL, hc, hs, rfl⟩ := h
  intro H locs ls hP hD hS hl
  exact lv_icmp_ge hx hb d ht (fun q => kt q H locs ls hP hD hS hl) (fun q => kf q H locs ls hP hD hS hl)
theorem BX.eqw (h : BX l K cc nL own Ts F Lc CC SS Z) {ws' : va_W} {cs' sl' : Nat} (hw : ws = ws') (hc9 : cs = cs') (hs9 : sl = sl') (k : Z pc lv st ws' cs' sl') : Z pc lv st ws cs sl := by
  subst hw; subst hc9; subst hs9; exact k
abbrev I_ (K : KK) (n : Nat) : va_E := .inl (K.2.1, n, .inl (fun _ => 0))
abbrev Z_ (K : KK) (n : Nat) : va_E := .inl (K.2.2.1, n, .inl (fun _ => 0))
theorem BX.newI (h : BX l K cc nL own Ts F Lc CC SS Z) {n : Int32} (N : Nat) (hn : ¬ n < 0) (hN9 : n.toNatClampNeg = N) (hNb : N ≤ 60) (hcs : cs + 1 ≤ CC) (hsl : sl + N ≤ SS) (harr : Cond.arrayClass .int ∈ Ts) (d : decode cc pc = .ok (.newarray .int, 2)) (k : ∀ q : Nat, Z (pc + 2) lv (.ref q :: st) (ws ++ [(q, I_ K N)]) (cs + 1) (sl + N)) : Z pc lv (.int n :: st) ws cs sl := by
  obtain ⟨p, e, R, s, m, args, below, meth, c, A, H0, Q, ⟨hx, hb, hml, hown, hts⟩, hK, hN, hA, hin, hF, hL, hc, hs, rfl⟩ := h
  intro H locs ls hP hD hS hl
  refine va_newa (atype := .int) (ty := .int) (a0 := (N, .inl (fun _ => 0))) hx hb (hts _ harr) rfl hK hP hD hS hA (fun cA => rfl) hn hN9 (show N * 4 ≤ 536870912 by omega) (Nat.le_trans hcs hc) (Nat.le_trans hsl hs) d (fun q cA H1 hK1 hP1 hD1 hS1 => ?_)
  have h1 := va_nm_int (hK1.2 3 (cA, .int) rfl).2
  have h2 := va_nm_int (hK.2 0 (K.2.1, .int) rfl).2
  have e : cA = K.2.1 := Option.some.inj (h1.symm.trans h2)
  rw [e] at hP1 hD1
  exact k q H1 locs ls hP1 hD1 hS1 hl
theorem BX.newZ (h : BX l K cc nL own Ts F Lc CC SS Z) {n : Int32} (N : Nat) (hn : ¬ n < 0) (hN9 : n.toNatClampNeg = N) (hNb : N ≤ 60) (hcs : cs + 1 ≤ CC) (hsl : sl + N ≤ SS) (harr : Cond.arrayClass .boolean ∈ Ts) (d : decode cc pc = .ok (.newarray .boolean, 2)) (k : ∀ q : Nat, Z (pc + 2) lv (.ref q :: st) (ws ++ [(q, Z_ K N)]) (cs + 1) (sl + N)) : Z pc lv (.int n :: st) ws cs sl := by
  obtain ⟨p, e, R, s, m, args, below, meth, c, A, H0, Q, ⟨hx, hb, hml, hown, hts⟩, hK, hN, hA, hin, hF, hL, hc, hs, rfl⟩ := h
  intro H locs ls hP hD hS hl
  refine va_newa (atype := .boolean) (ty := .boolean) (a0 := (N, .inl (fun _ => 0))) hx hb (hts _ harr) rfl hK hP hD hS hA (fun cA => rfl) hn hN9 (show N * 1 ≤ 536870912 by omega) (Nat.le_trans hcs hc) (Nat.le_trans hsl hs) d (fun q cA H1 hK1 hP1 hD1 hS1 => ?_)
  have h1 := va_nm_boolean (hK1.2 3 (cA, .boolean) rfl).2
  have h2 := va_nm_boolean (hK.2 1 (K.2.2.1, .boolean) rfl).2
  have e : cA = K.2.2.1 := Option.some.inj (h1.symm.trans h2)
  rw [e] at hP1 hD1
  exact k q H1 locs ls hP1 hD1 hS1 hl
theorem BX.newq (h : BX l K cc nL own Ts F Lc CC SS Z) {n : Int32} {ix : Nat} (N : Nat) (hn : ¬ n < 0) (hN9 : n.toNatClampNeg = N) (hNb : N ≤ 60) (hcs : cs + 1 ≤ CC) (hsl : sl + N ≤ SS) (hcl : Cond.classLink own ix RX1 ∈ Ts) (d : decode cc pc = .ok (.anewarray ix, 3)) (k : ∀ q : Nat, Z (pc + 3) lv (.ref q :: st) (ws ++ [(q, .inl (K.2.2.2, N, .inr (.inr (.inr (.inr (fun _ => none))))))]) (cs + 1) (sl + N)) : Z pc lv (.int n :: st) ws cs sl := by
  obtain ⟨p, e, R, s, m, args, below, meth, c, A, H0, Q, ⟨hx, hb, hml, hown, hts⟩, hK, hN, hA, hin, hF, hL, hc, hs, rfl⟩ := h
  intro H locs ls hP hD hS hl
  refine va_newq hx hb hown (hts _ hcl) hN.2 hK hP hD hS hA hn hN9 (show N * 4 ≤ 536870912 by omega) (Nat.le_trans hcs hc) (Nat.le_trans hsl hs) d (fun q cA H1 hK1 hP1 hD1 hS1 => ?_)
  obtain ⟨-, -, -, -, -, h1⟩ := (hK1.2 3 (cA, .object RX1) rfl).2
  obtain ⟨-, -, -, -, -, h2⟩ := (hK.2 2 (K.2.2.2, .object RX1) rfl).2
  have e : cA = K.2.2.2 := Option.some.inj (h1.symm.trans h2)
  rw [e] at hP1 hD1
  exact k q H1 locs ls hP1 hD1 hS1 hl
theorem BX.new (h : BX l K cc nL own Ts F Lc CC SS Z) {C : String} {T : u_T} {N ci ix : Nat} (fs : List Value) (ty : Nat → FieldType) (hty : ∀ k, k < N → parseFieldDescriptor (T k).2.2.1 = some (ty k)) (hin9 : ∀ w ∈ u_ws C T N, w ∈ Ts) (hcl : Cond.classLink own ix C ∈ Ts) (hinst : Cond.instantiable C N ∈ Ts) (hini : Cond.initialized C ∈ Ts) (hci : vwCl[ci]? = some (C, T, N)) (hfs : ∀ j, j < N → defaultValue (ty j) = vp_V fs j) (hcs : cs + 1 ≤ CC) (hsl : sl + N ≤ SS) (d : decode cc pc = .ok (.new ix, 3)) (k : ∀ q : Nat, Z (pc + 3) lv (.ref q :: st) (ws ++ [(q, .inr (ci, fs))]) (cs + 1) (sl + N)) : Z pc lv st ws cs sl := by
  obtain ⟨p, e, R, s, m, args, below, meth, c, A, H0, Q, ⟨hx, hb, hml, hown, hts⟩, hK, hN, hA, hin, hF, hL, hc, hs, rfl⟩ := h
  intro H locs ls hP hD hS hl
  exact va_new hx hb hts hin9 ty hty hown (hts _ hcl) (hts _ hinst) (hts _ hini) hK hP hD hS hA hci hfs (Nat.le_trans hcs hc) (Nat.le_trans hsl hs) d (fun q H1 hP1 hD1 hS1 => k q H1 locs ls hP1 hD1 hS1 hl)
theorem BX.putF (h : BX l K cc nL own Ts F Lc CC SS Z) {C : String} {T : u_T} {N ci ix a : Nat} {fs : List Value} {v : Value} {ty : FieldType} (j : Nat) (ty0 : Nat → FieldType) (hty : ∀ k, k < N → parseFieldDescriptor (T k).2.2.1 = some (ty0 k)) (hnm : ∀ a, a < N → ∀ b, b < N → a ≠ b → (T a).2.1 ≠ (T b).2.1) (hin9 : ∀ w ∈ u_ws C T N, w ∈ Ts) (he : ws[0]? = some (a, .inr (ci, fs))) (hci : vwCl[ci]? = some (C, T, N)) (hj : j < N) (hlink : Cond.fieldLink own ix (T j).1 (T j).2.1 (T j).2.2.1 ∈ Ts) (hfin : (T j).2.2.2 = true) (hown9 : ¬ own = RL) (hdecl : (T j).1 = own) (hd : parseFieldDescriptor (T j).2.2.1 = some ty) (hn : narrow ty v = v) (hfit : fits ty v = true) (hl9 : j < fs.length) (d : decode cc pc = .ok (.putfield ix, 3)) (k : Z (pc + 3) lv st (ws.set 0 (a, .inr (ci, fs.set j v))) cs sl) : Z pc lv (v :: .ref a :: st) ws cs sl := by
  obtain ⟨p, e, R, s, m, args, below, meth, c, A, H0, Q, ⟨hx, hb, hml, hown, hts⟩, hK, hN, hA, hin, hF, hL, hc, hs, rfl⟩ := h
  intro H locs ls hP hD hS hl
  exact va_putF hx hb hts hin9 ty0 hty hnm hown hK hP hD hS 0 he hci j hj (hts _ hlink) (fun _ h9 => h9) hfin (hin.resolve_left hown9) hdecl hd hn hfit hl9 d (fun H1 locs1 hP1 hD1 hS1 => k H1 locs1 ls hP1 hD1 hS1 hl)
theorem BX.put (h : BX l K cc nL own Ts F Lc CC SS Z) {C : String} {T : u_T} {N ci ix a : Nat} {fs : List Value} {v : Value} {ty : FieldType} (j : Nat) (ty0 : Nat → FieldType) (hty : ∀ k, k < N → parseFieldDescriptor (T k).2.2.1 = some (ty0 k)) (hnm : ∀ a, a < N → ∀ b, b < N → a ≠ b → (T a).2.1 ≠ (T b).2.1) (hin9 : ∀ w ∈ u_ws C T N, w ∈ Ts) (he : ws[0]? = some (a, .inr (ci, fs))) (hci : vwCl[ci]? = some (C, T, N)) (hj : j < N) (hlink : Cond.fieldLink own ix (T j).1 (T j).2.1 (T j).2.2.1 ∈ Ts) (hfin : (T j).2.2.2 = false) (hd : parseFieldDescriptor (T j).2.2.1 = some ty) (hn : narrow ty v = v) (hfit : fits ty v = true) (hl9 : j < fs.length) (d : decode cc pc = .ok (.putfield ix, 3)) (k : Z (pc + 3) lv st (ws.set 0 (a, .inr (ci, fs.set j v))) cs sl) : Z pc lv (v :: .ref a :: st) ws cs sl := by
  obtain ⟨p, e, R, s, m, args, below, meth, c, A, H0, Q, ⟨hx, hb, hml, hown, hts⟩, hK, hN, hA, hin, hF, hL, hc, hs, rfl⟩ := h
  intro H locs ls hP hD hS hl
  exact va_put hx hb hts hin9 ty0 hty hnm hown hK hP hD hS 0 he hci j hj (hts _ hlink) (fun _ h9 => h9) hfin hd hn hfit hl9 d (fun H1 locs1 hP1 hD1 hS1 => k H1 locs1 ls hP1 hD1 hS1 hl)
theorem BX.getf (h : BX l K cc nL own Ts F Lc CC SS Z) {C : String} {T : u_T} {N ci ix a : Nat} {fs : List Value} {v : Value} (j : Nat) (hin9 : ∀ w ∈ u_ws C T N, w ∈ Ts) (he : ws[0]? = some (a, .inr (ci, fs))) (hci : vwCl[ci]? = some (C, T, N)) (hj : j < N) (hlink : Cond.fieldLink own ix (T j).1 (T j).2.1 (T j).2.2.1 ∈ Ts) (hv : fs[j]? = some v) (d : decode cc pc = .ok (.getfield ix, 3)) (k : Z (pc + 3) lv (v :: st) ws cs sl) : Z pc lv (.ref a :: st) ws cs sl := by
  obtain ⟨p, e, R, s, m, args, below, meth, c, A, H0, Q, ⟨hx, hb, hml, hown, hts⟩, hK, hN, hA, hin, hF, hL, hc, hs, rfl⟩ := h
  intro H locs ls hP hD hS hl
  exact va_get hx hb hts hin9 hown hK hP 0 he hci j hj (hts _ hlink) (fun _ h9 => h9) hv d (k H locs ls hP hD hS hl)
theorem BX.aast (h : BX l K cc nL own Ts F Lc CC SS Z) {a v n : Nat} {vs : List Value} {f : Nat → Option Nat} {i : Int32} (q0 qk : Nat) (ha : ws[q0]? = some (a, .inl (K.2.2.2, n, .inr (.inr (.inr (.inr f)))))) (hv : ws[qk]? = some (v, .inr (1, vs))) (hi : vp_in i n) (d : decode cc pc = .ok (.aastore, 1)) (k : Z (pc + 1) lv st (ws.set q0 (a, .inl (K.2.2.2, n, .inr (.inr (.inr (.inr (va_up f i.toNatClampNeg (some v)))))))) cs sl) : Z pc lv (.ref v :: .int i :: .ref a :: st) ws cs sl := by
  obtain ⟨p, e, R, s, m, args, below, meth, c, A, H0, Q, ⟨hx, hb, hml, hown, hts⟩, hK, hN, hA, hin, hF, hL, hc, hs, rfl⟩ := h
  intro H locs ls hP hD hS hl
  exact va_astq hx hb hK hP hD hS q0 2 qk 1 (r := (RX1, TX1, 8)) ha rfl hv rfl hi d (fun H1 locs1 hP1 hD1 hS1 => k H1 locs1 ls hP1 hD1 hS1 hl)
theorem BX.init (h : BX l K cc nL own Ts F Lc CC SS Z) {a ix : Nat} (h1 : Cond.methodLink own ix objectInit ∈ Ts) (h2 : Cond.instanceMethod objectInit ∈ Ts) (h3 : Cond.code objectInit ⟨#[0xb1]⟩ 1 none ∈ Ts) (hF1 : 1 ≤ F) (hL1 : 12 ≤ Lc) (d : decode cc 1 = .ok (.invokespecial ix, 3)) (k : Z 4 lv [] ws cs sl) : Z 1 lv [.ref a] ws cs sl := by
  obtain ⟨p, e, R, s, m, args, below, meth, c, A, H0, Q, ⟨hx, hb, hml, hown, hts⟩, hK, hN, hA, hin, hF, hL, hc, hs, rfl⟩ := h
  intro H locs ls hP hD hS hl
  refine W.objInit hx hb hown (hts _ h1) (hts _ h2) (hts _ h3) rfl (by rw [hml]; exact hl.1) rfl d (by omega) (by first | exact Nat.le_trans hL1 hL | (have hmr : (F0 m 1 ls [Value.ref a]).monitorRoom = 0 := rfl; rw [hmr]; show _ ≤ R.locals; simp; omega)) ?_
  refine W.eq (g2 := F0 m 4 ls []) rfl ?_
  exact k H locs ls hP hD hS hl
/-- a constructor's contract: from the new object to what it makes -/
def CN {S : Type} (l : Launch) (K : KK) (y : MethodName) (ws : List Cond) (F Lc mc ms : Nat) (e0 : va_E) (W' : Nat → S → va_W) : Prop := ∀ h0 sz : Nat, Met l y ws { frames := F, cells := mc, slots := ms, locals := Lc } (va_Pc [.ref h0] (fun U => U.heap.size = sz ∧ va_P K.1 vwCl [(h0, e0)] U.heap ∧ va_K K.1 vwCl (TYK K) U ∧ NM U)) (va_Qv (fun _ : S => True) (fun u t => va_P K.1 vwCl (W' h0 u) t.heap ∧ va_D (va_A [(h0, e0)] sz) (W' h0 u)) (va_A [(h0, e0)] sz)) mc ms (va_A [(h0, e0)] sz)
theorem one_D {A : Nat → Prop} {q : Nat} {e0 : va_E} (h : A q) : va_D A [(q, e0)] := by
  refine ⟨fun i j x y hi hj _ => ?_, fun k x hk => ?_⟩
  · have h1 := (List.getElem?_eq_some_iff.mp hi).1
    have h2 := (List.getElem?_eq_some_iff.mp hj).1
    simp at h1 h2; omega
  · have h1 := (List.getElem?_eq_some_iff.mp hk).1
    have : k = 0 := by simp at h1; omega
    subst this
    cases hk; exact h
theorem cn_blind {K : KK} {av : List Value} {sz : Nat} {w : va_W} : FrameBlind (va_Pc av (fun U => U.heap.size = sz ∧ va_P K.1 vwCl w U.heap ∧ va_K K.1 vwCl (TYK K) U ∧ NM U)) := fun a U g mk q => ⟨q.1, q.2.1, q.2.2.1, va_K.moved (u := U) (U := U.calling g mk a) (Vm.Alike.refl U.vm) q.2.2.2.1, fun z hz => va_Nw.same (u := U) (U := U.calling g mk a) rfl rfl (q.2.2.2.2.1 z hz), va_AO.moved (u := U) (U := U.calling g mk a) (Vm.Alike.refl U.vm) q.2.2.2.2.2⟩
theorem cn_free {A : Nat → Prop} {base : va_W} {q : Nat} {e0 : va_E} {H0 H : Heap} {locs : List Loc} (hD : va_D A (base ++ [(q, e0)])) (hS : va_S A H0 H locs) (hA : ∀ q, H0.size ≤ q → A q) : ∀ x, va_A [(q, e0)] H.size x → A x := by
  rintro x (⟨k, e, h⟩ | h)
  · have hk0 : k < 1 := (List.getElem?_eq_some_iff.mp h).1
    have : k = 0 := by omega
    subst this
    have hq' : (base ++ [(q, e0)])[base.length]? = some (q, e0) := by rw [List.getElem?_append_right (Nat.le_refl _), Nat.sub_self]; rfl
    cases h
    exact hD.2 _ _ hq'
  · exact hA x (Nat.le_trans hS.1 h)
theorem BX.callN (h : BX l K cc nL own Ts F Lc CC SS Z) {S : Type} {y : MethodName} {ws1 ws1' : List Cond} {F1 L1 mc ms ix maxL : Nat} {bytes : ByteArray} {e0 : va_E} {W' : Nat → S → va_W} {q : Nat} {base : va_W} (hM : CN l K y ws1 F1 L1 mc ms e0 W') (hG : GoodIn Ts ws1) (hw : ws1 = Cond.code y bytes maxL none :: ws1') (hl0 : (own, ix, y, "TableWright") ∈ NML) (hini : Cond.initialized y.cls ∈ Ts) (him : Cond.instanceMethod y ∈ Ts) (hyn : y.name = "<init>") (hd : y.cls ≠ "java/lang/invoke/MethodHandle" ∧ y.cls ≠ "java/lang/invoke/VarHandle" ∧ (parseMethodDescriptor y.desc).map (fun d => d.parameters.length) = some 0) (hR : F1 + 1 ≤ F ∧ 8 + (maxL + 11) + L1 ≤ Lc) (hcs : cs + mc ≤ CC) (hss : sl + ms ≤ SS) (hrm : (st.map fun v => v.category).sum ≤ 8) (d : decode cc pc = .ok (.invokespecial ix, 3)) (k : ∀ u : S, Z (pc + 3) lv st (base ++ W' q u) (cs + mc) (sl + ms)) : Z pc lv (.ref q :: st) (base ++ [(q, e0)]) cs sl := by
  obtain ⟨p, e, R, s, m, args, below, meth, c, A, H0, Q, ⟨hx, hb, hml, hown, hts⟩, hK, hN, hA, hin, hF, hL, hc, hs, rfl⟩ := h
  intro H locs ls hP hD hS hl
  have hPc : va_P K.1 vwCl [(q, e0)] H := va_P_mem hP (fun x hx => List.mem_append_right _ hx)
  have hFc := cn_free hD hS hA
  refine va_callv (va_runIN (As := []) (rest := st) ⟨hx, hb, hml, hown, hts⟩ (hM q H.size) ⟨va_cnB 0 hts hG hw rfl rfl (hN.1 _ hl0) (hts _ hini) hd ⟨Nat.le_trans hR.1 hF, Nat.le_trans hR.2 hL⟩, hyn, hts _ him⟩ ⟨cn_blind, fun U hU hW => ⟨rfl, by rw [hU], by rw [hU]; exact hPc, va_K.moved hW.alike hK, hN.warm hW⟩⟩ rfl rfl hl.1 rfl (lv_room hrm) d ⟨Nat.le_trans hcs hc, Nat.le_trans hss hs⟩) hS (fun x _ h => hFc x h) hFc (fun u t H1 locs1 ht hvm hw1 hB hz1 hk1 hS1 => ?_)
  obtain ⟨hP1, hD1⟩ := hB
  rw [ht] at hP1
  obtain ⟨hP2, hD2⟩ := join_end hP hD hk1 hFc hP1 hD1
  exact k u H1 locs1 ls hP2 hD2 hS1 hl
theorem BX.callP (h : BX l K cc nL own Ts F Lc CC SS Z) {S : Type} {y : MethodName} {ws1 ws1' : List Cond} {F1 L1 mc ms ix maxL : Nat} {bytes : ByteArray} {e0 : va_E} {W' : Nat → S → va_W} {q : Nat} {base : va_W} (hM : CN l K y ws1 F1 L1 mc ms e0 W') (hG : GoodIn Ts ws1) (hw : ws1 = Cond.code y bytes maxL none :: ws1') (hl0 : Cond.methodLink own ix y ∈ Ts) (hini : Cond.initialized y.cls ∈ Ts) (him : Cond.instanceMethod y ∈ Ts) (hyn : y.name = "<init>") (hd : y.cls ≠ "java/lang/invoke/MethodHandle" ∧ y.cls ≠ "java/lang/invoke/VarHandle" ∧ (parseMethodDescriptor y.desc).map (fun d => d.parameters.length) = some 0) (hR : F1 + 1 ≤ F ∧ 8 + (maxL + 11) + L1 ≤ Lc) (hcs : cs + mc ≤ CC) (hss : sl + ms ≤ SS) (hrm : (st.map fun v => v.category).sum ≤ 8) (d : decode cc pc = .ok (.invokespecial ix, 3)) (k : ∀ u : S, Z (pc + 3) lv st (base ++ W' q u) (cs + mc) (sl + ms)) : Z pc lv (.ref q :: st) (base ++ [(q, e0)]) cs sl := by
  obtain ⟨p, e, R, s, m, args, below, meth, c, A, H0, Q, ⟨hx, hb, hml, hown, hts⟩, hK, hN, hA, hin, hF, hL, hc, hs, rfl⟩ := h
  intro H locs ls hP hD hS hl
  have hPc : va_P K.1 vwCl [(q, e0)] H := va_P_mem hP (fun x hx => List.mem_append_right _ hx)
  have hFc := cn_free hD hS hA
  refine va_callv (va_runI (As := []) (rest := st) ⟨hx, hb, hml, hown, hts⟩ (hM q H.size) (cwI 0 hts hG hw rfl rfl (hts _ hini) (hts _ hl0) (hts _ him) hyn hd ⟨Nat.le_trans hR.1 hF, Nat.le_trans hR.2 hL⟩) ⟨cn_blind, fun U hU hW => ⟨rfl, by rw [hU], by rw [hU]; exact hPc, va_K.moved hW.alike hK, hN.warm hW⟩⟩ rfl rfl hl.1 rfl (lv_room hrm) d ⟨Nat.le_trans hcs hc, Nat.le_trans hss hs⟩) hS (fun x _ h => hFc x h) hFc (fun u t H1 locs1 ht hvm hw1 hB hz1 hk1 hS1 => ?_)
  obtain ⟨hP1, hD1⟩ := hB
  rw [ht] at hP1
  obtain ⟨hP2, hD2⟩ := join_end hP hD hk1 hFc hP1 hD1
  exact k u H1 locs1 ls hP2 hD2 hS1 hl
theorem CN_mk {S : Type} {y : MethodName} {ws0 ws' : List Cond} {F1 L1 mc ms : Nat} {e0 : va_E} {W' : Nat → S → va_W} (hy : plainName y.cls = true) (hyn : y.name = "<init>") (hw : ws0 = Cond.code y cc nL none :: ws') (hn : 1 ≤ nL)
    (body : ∀ (h0 : Nat) (Z : YT), BX l K cc nL y.cls ws0 F1 L1 mc ms Z → (∀ (pc : Nat) (lv : List (Nat × Value)) (u : S) (w : va_W) (cs sl : Nat), decode cc pc = .ok (.return_, 1) → w = W' h0 u → cs ≤ mc → sl ≤ ms → Z pc lv [] w cs sl) → Z 0 [(0, .ref h0)] [] [(h0, e0)] 0 0) : CN l K y ws0 F1 L1 mc ms e0 W' := by
  intro h0 sz
  refine Met.ofW (cc := cc) (maxL := nL) (ret := none) hy hw ?_
  intro p e s m args' below meth c s₁ B hml hv
  obtain ⟨rfl, hsz, hP, hK, hN⟩ := hv
  have hx := B.exec
  have hb := B.bytes
  have hr := B.returns
  have hts := atoms_spec (ws := ws0) B.pre
  have hown : s.vm.findClass y.cls = some m.cls := findClass_of_methodNamed B.named
  have hlocks := B.notSynchronized
  have hin : meth.name = "<init>" := hyn ▸ (name_of_methodNamed B.named B.method).1
  subst hsz
  have hl := lv_entry ([.ref h0] : List Value) (n := nL) hn
  rw [lg_entry_eq]
  refine body h0 (ZY p l e (headSpec ws0 { frames := F1, cells := mc, slots := ms, locals := L1 }).room s m [Value.ref h0].toArray below meth c K (va_A [(h0, e0)] s.heap.size) s.heap nL _) ⟨p, e, _, s, m, _, below, meth, c, _, s.heap, _, ⟨hx, hb, hml, hown, hts⟩, hK, hN, fun q h => Or.inr h, Or.inr hin, Nat.le_refl _, Nat.le_refl _, Nat.le_refl _, Nat.le_refl _, rfl⟩ ?_ s.heap [] _ hP (one_D (Or.inl ⟨0, e0, rfl⟩)) va_S.rf hl
  intro pc lv u w cs sl d hw9 hcs hsl H locs ls hP1 hD1 hS1 hl1
  subst hw9
  refine W.widen (k := mc) (n := ms) hcs hsl ?_
  exact W.vret hx hb hr (fun t ht hW => ⟨⟨u, rfl, trivial, by rw [ht]; exact hP1, hD1⟩, hS1.F ht⟩) hS1.2.2 d
end BXR
