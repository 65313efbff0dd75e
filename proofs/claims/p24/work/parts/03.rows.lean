section AXR
variable {l : Launch} {G : GG} {cc : ByteArray} {nL : Nat} {own : String} {Ts : List Cond} {F Lc : Nat} {Z : ZT}
variable {pc : Nat} {lv : List (Nat × Value)} {st : List Value} {M : Mem}
theorem AX.iadd (h : AX l G cc nL own Ts F Lc Z) {x y : Int32} (d : decode cc pc = .ok (.iadd, 1)) (k : Z (pc + 1) lv (.int (x + y) :: st) M) : Z pc lv (.int y :: .int x :: st) M := by
  obtain ⟨p, e, R, s, m, args, below, meth, c, A, H0, cells, slots, Q, ⟨hx, hb, hml, hown, hts⟩, hK, hA, hG, hX, hNW, hbl, hbA, hF, hL, hc, hs, rfl⟩ := h
  intro H locs ls hP hS hl
  exact lv_iadd hx hb d (k H locs ls hP hS hl)
theorem AX.isub (h : AX l G cc nL own Ts F Lc Z) {x y : Int32} (d : decode cc pc = .ok (.isub, 1)) (k : Z (pc + 1) lv (.int (x - y) :: st) M) : Z pc lv (.int y :: .int x :: st) M := by
  obtain ⟨p, e, R, s, m, args, below, meth, c, A, H0, cells, slots, Q, ⟨hx, hb, hml, hown, hts⟩, hK, hA, hG, hX, hNW, hbl, hbA, hF, hL, hc, hs, rfl⟩ := h
  intro H locs ls hP hS hl
  exact lv_isub hx hb d (k H locs ls hP hS hl)
theorem AX.imul (h : AX l G cc nL own Ts F Lc Z) {x y : Int32} (d : decode cc pc = .ok (.imul, 1)) (k : Z (pc + 1) lv (.int (x * y) :: st) M) : Z pc lv (.int y :: .int x :: st) M := by
  obtain ⟨p, e, R, s, m, args, below, meth, c, A, H0, cells, slots, Q, ⟨hx, hb, hml, hown, hts⟩, hK, hA, hG, hX, hNW, hbl, hbA, hF, hL, hc, hs, rfl⟩ := h
  intro H locs ls hP hS hl
  exact lv_imul hx hb d (k H locs ls hP hS hl)
theorem AX.iand (h : AX l G cc nL own Ts F Lc Z) {x y : Int32} (d : decode cc pc = .ok (.iand, 1)) (k : Z (pc + 1) lv (.int (x &&& y) :: st) M) : Z pc lv (.int y :: .int x :: st) M := by
  obtain ⟨p, e, R, s, m, args, below, meth, c, A, H0, cells, slots, Q, ⟨hx, hb, hml, hown, hts⟩, hK, hA, hG, hX, hNW, hbl, hbA, hF, hL, hc, hs, rfl⟩ := h
  intro H locs ls hP hS hl
  exact lv_iand hx hb d (k H locs ls hP hS hl)
theorem AX.ior (h : AX l G cc nL own Ts F Lc Z) {x y : Int32} (d : decode cc pc = .ok (.ior, 1)) (k : Z (pc + 1) lv (.int (x ||| y) :: st) M) : Z pc lv (.int y :: .int x :: st) M := by
  obtain ⟨p, e, R, s, m, args, below, meth, c, A, H0, cells, slots, Q, ⟨hx, hb, hml, hown, hts⟩, hK, hA, hG, hX, hNW, hbl, hbA, hF, hL, hc, hs, rfl⟩ := h
  intro H locs ls hP hS hl
  exact lv_ior hx hb d (k H locs ls hP hS hl)
theorem AX.ishr (h : AX l G cc nL own Ts F Lc Z) {x y : Int32} (d : decode cc pc = .ok (.ishr, 1)) (k : Z (pc + 1) lv (.int (x >>> (y &&& 31)) :: st) M) : Z pc lv (.int y :: .int x :: st) M := by
  obtain ⟨p, e, R, s, m, args, below, meth, c, A, H0, cells, slots, Q, ⟨hx, hb, hml, hown, hts⟩, hK, hA, hG, hX, hNW, hbl, hbA, hF, hL, hc, hs, rfl⟩ := h
  intro H locs ls hP hS hl
  exact lv_ishr hx hb d (k H locs ls hP hS hl)
theorem AX.idiv (h : AX l G cc nL own Ts F Lc Z) {x y : Int32} (d : decode cc pc = .ok (.idiv, 1)) (hne : ¬ y = 0) (k : Z (pc + 1) lv (.int (x / y) :: st) M) : Z pc lv (.int y :: .int x :: st) M := by
  obtain ⟨p, e, R, s, m, args, below, meth, c, A, H0, cells, slots, Q, ⟨hx, hb, hml, hown, hts⟩, hK, hA, hG, hX, hNW, hbl, hbA, hF, hL, hc, hs, rfl⟩ := h
  intro H locs ls hP hS hl
  exact lv_idiv hx hb d hne (k H locs ls hP hS hl)
theorem AX.irem (h : AX l G cc nL own Ts F Lc Z) {x y : Int32} (d : decode cc pc = .ok (.irem, 1)) (hne : ¬ y = 0) (k : Z (pc + 1) lv (.int (x - x / y * y) :: st) M) : Z pc lv (.int y :: .int x :: st) M := by
  obtain ⟨p, e, R, s, m, args, below, meth, c, A, H0, cells, slots, Q, ⟨hx, hb, hml, hown, hts⟩, hK, hA, hG, hX, hNW, hbl, hbA, hF, hL, hc, hs, rfl⟩ := h
  intro H locs ls hP hS hl
  exact lv_irem hx hb d hne (k H locs ls hP hS hl)
theorem AX.ladd (h : AX l G cc nL own Ts F Lc Z) {x y : Int64} (d : decode cc pc = .ok (.ladd, 1)) (k : Z (pc + 1) lv (.long (x + y) :: st) M) : Z pc lv (.long y :: .long x :: st) M := by
  obtain ⟨p, e, R, s, m, args, below, meth, c, A, H0, cells, slots, Q, ⟨hx, hb, hml, hown, hts⟩, hK, hA, hG, hX, hNW, hbl, hbA, hF, hL, hc, hs, rfl⟩ := h
  intro H locs ls hP hS hl
  exact lv_ladd hx hb d (k H locs ls hP hS hl)
theorem AX.lmul (h : AX l G cc nL own Ts F Lc Z) {x y : Int64} (d : decode cc pc = .ok (.lmul, 1)) (k : Z (pc + 1) lv (.long (x * y) :: st) M) : Z pc lv (.long y :: .long x :: st) M := by
  obtain ⟨p, e, R, s, m, args, below, meth, c, A, H0, cells, slots, Q, ⟨hx, hb, hml, hown, hts⟩, hK, hA, hG, hX, hNW, hbl, hbA, hF, hL, hc, hs, rfl⟩ := h
  intro H locs ls hP hS hl
  exact lv_lmul hx hb d (k H locs ls hP hS hl)
theorem AX.lcmp (h : AX l G cc nL own Ts F Lc Z) {x y : Int64} (d : decode cc pc = .ok (.lcmp, 1)) (k : Z (pc + 1) lv (.int (lg_cmp x y) :: st) M) : Z pc lv (.long y :: .long x :: st) M := by
  obtain ⟨p, e, R, s, m, args, below, meth, c, A, H0, cells, slots, Q, ⟨hx, hb, hml, hown, hts⟩, hK, hA, hG, hX, hNW, hbl, hbA, hF, hL, hc, hs, rfl⟩ := h
  intro H locs ls hP hS hl
  exact W.lcmp hx hb d (k H locs ls hP hS hl)
theorem AX.i2l (h : AX l G cc nL own Ts F Lc Z) {x : Int32} (d : decode cc pc = .ok (.i2l, 1)) (k : Z (pc + 1) lv (.long x.toInt64 :: st) M) : Z pc lv (.int x :: st) M := by
  obtain ⟨p, e, R, s, m, args, below, meth, c, A, H0, cells, slots, Q, ⟨hx, hb, hml, hown, hts⟩, hK, hA, hG, hX, hNW, hbl, hbA, hF, hL, hc, hs, rfl⟩ := h
  intro H locs ls hP hS hl
  exact lv_i2l hx hb d rfl (k H locs ls hP hS hl)
theorem AX.iconst (h : AX l G cc nL own Ts F Lc Z) {n : Int} {v : Int32} (d : decode cc pc = .ok (.iconst n, 1)) (hv : Int32.ofInt n = v) (k : Z (pc + 1) lv (.int v :: st) M) : Z pc lv st M := by
  obtain ⟨p, e, R, s, m, args, below, meth, c, A, H0, cells, slots, Q, ⟨hx, hb, hml, hown, hts⟩, hK, hA, hG, hX, hNW, hbl, hbA, hF, hL, hc, hs, rfl⟩ := h
  intro H locs ls hP hS hl
  exact lv_iconst hx hb d hv (k H locs ls hP hS hl)
theorem AX.bipush (h : AX l G cc nL own Ts F Lc Z) {n : Int} {v : Int32} (d : decode cc pc = .ok (.bipush n, 2)) (hv : (Int8.ofInt n).toInt32 = v) (k : Z (pc + 2) lv (.int v :: st) M) : Z pc lv st M := by
  obtain ⟨p, e, R, s, m, args, below, meth, c, A, H0, cells, slots, Q, ⟨hx, hb, hml, hown, hts⟩, hK, hA, hG, hX, hNW, hbl, hbA, hF, hL, hc, hs, rfl⟩ := h
  intro H locs ls hP hS hl
  exact lv_bipush hx hb d hv (k H locs ls hP hS hl)
theorem AX.sipush (h : AX l G cc nL own Ts F Lc Z) {n : Int} {v : Int32} (d : decode cc pc = .ok (.sipush n, 3)) (hv : (Int16.ofInt n).toInt32 = v) (k : Z (pc + 3) lv (.int v :: st) M) : Z pc lv st M := by
  obtain ⟨p, e, R, s, m, args, below, meth, c, A, H0, cells, slots, Q, ⟨hx, hb, hml, hown, hts⟩, hK, hA, hG, hX, hNW, hbl, hbA, hF, hL, hc, hs, rfl⟩ := h
  intro H locs ls hP hS hl
  exact lv_sipush hx hb d hv (k H locs ls hP hS hl)
theorem AX.ldc (h : AX l G cc nL own Ts F Lc Z) {i : Nat} {v : Int32} (d : decode cc pc = .ok (.ldc i, 2)) (hv : Cond.constant own i v ∈ Ts) (k : Z (pc + 2) lv (.int v :: st) M) : Z pc lv st M := by
  obtain ⟨p, e, R, s, m, args, below, meth, c, A, H0, cells, slots, Q, ⟨hx, hb, hml, hown, hts⟩, hK, hA, hG, hX, hNW, hbl, hbA, hF, hL, hc, hs, rfl⟩ := h
  intro H locs ls hP hS hl
  exact lv_ldc hx hb hown (hts _ hv) d (k H locs ls hP hS hl)
theorem AX.ldc2 (h : AX l G cc nL own Ts F Lc Z) {i : Nat} {v : Int64} (d : decode cc pc = .ok (.ldc2_w i, 3)) (hv : Cond.constantLong own i v ∈ Ts) (k : Z (pc + 3) lv (.long v :: st) M) : Z pc lv st M := by
  obtain ⟨p, e, R, s, m, args, below, meth, c, A, H0, cells, slots, Q, ⟨hx, hb, hml, hown, hts⟩, hK, hA, hG, hX, hNW, hbl, hbA, hF, hL, hc, hs, rfl⟩ := h
  intro H locs ls hP hS hl
  exact lv_ldc2 hx hb hown (hts _ hv) d (k H locs ls hP hS hl)
theorem AX.iload (h : AX l G cc nL own Ts F Lc Z) {i : Nat} {x : Int32} (d : decode cc pc = .ok (.iload i, 2)) (q : Nat) (hq : lv[q]? = some (i, .int x)) (k : Z (pc + 2) lv (.int x :: st) M) : Z pc lv st M := by
  obtain ⟨p, e, R, s, m, args, below, meth, c, A, H0, cells, slots, Q, ⟨hx, hb, hml, hown, hts⟩, hK, hA, hG, hX, hNW, hbl, hbA, hF, hL, hc, hs, rfl⟩ := h
  intro H locs ls hP hS hl
  exact lv_iload hx hb d (lv_at hl q hq) (k H locs ls hP hS hl)
theorem AX.iload_n (h : AX l G cc nL own Ts F Lc Z) {i : Nat} {x : Int32} {f : Fin 4} (d : decode cc pc = .ok (.iload_n f, 1)) (hi : (f : Nat) = i) (q : Nat) (hq : lv[q]? = some (i, .int x)) (k : Z (pc + 1) lv (.int x :: st) M) : Z pc lv st M := by
  obtain ⟨p, e, R, s, m, args, below, meth, c, A, H0, cells, slots, Q, ⟨hx, hb, hml, hown, hts⟩, hK, hA, hG, hX, hNW, hbl, hbA, hF, hL, hc, hs, rfl⟩ := h
  intro H locs ls hP hS hl
  exact lv_iload_n hx hb d hi (lv_at hl q hq) (k H locs ls hP hS hl)
theorem AX.lload (h : AX l G cc nL own Ts F Lc Z) {i : Nat} {x : Int64} (d : decode cc pc = .ok (.lload i, 2)) (q : Nat) (hq : lv[q]? = some (i, .long x)) (k : Z (pc + 2) lv (.long x :: st) M) : Z pc lv st M := by
  obtain ⟨p, e, R, s, m, args, below, meth, c, A, H0, cells, slots, Q, ⟨hx, hb, hml, hown, hts⟩, hK, hA, hG, hX, hNW, hbl, hbA, hF, hL, hc, hs, rfl⟩ := h
  intro H locs ls hP hS hl
  exact lv_lload hx hb d (lv_at hl q hq) (k H locs ls hP hS hl)
theorem AX.lload_n (h : AX l G cc nL own Ts F Lc Z) {i : Nat} {x : Int64} {f : Fin 4} (d : decode cc pc = .ok (.lload_n f, 1)) (hi : (f : Nat) = i) (q : Nat) (hq : lv[q]? = some (i, .long x)) (k : Z (pc + 1) lv (.long x :: st) M) : Z pc lv st M := by
  obtain ⟨p, e, R, s, m, args, below, meth, c, A, H0, cells, slots, Q, ⟨hx, hb, hml, hown, hts⟩, hK, hA, hG, hX, hNW, hbl, hbA, hF, hL, hc, hs, rfl⟩ := h
  intro H locs ls hP hS hl
  exact lv_lload_n hx hb d hi (lv_at hl q hq) (k H locs ls hP hS hl)
theorem AX.aload (h : AX l G cc nL own Ts F Lc Z) {i : Nat} {x : Nat} (d : decode cc pc = .ok (.aload i, 2)) (q : Nat) (hq : lv[q]? = some (i, .ref x)) (k : Z (pc + 2) lv (.ref x :: st) M) : Z pc lv st M := by
  obtain ⟨p, e, R, s, m, args, below, meth, c, A, H0, cells, slots, Q, ⟨hx, hb, hml, hown, hts⟩, hK, hA, hG, hX, hNW, hbl, hbA, hF, hL, hc, hs, rfl⟩ := h
  intro H locs ls hP hS hl
  exact lv_aload hx hb d (lv_at hl q hq) (k H locs ls hP hS hl)
theorem AX.aload_n (h : AX l G cc nL own Ts F Lc Z) {i : Nat} {x : Nat} {f : Fin 4} (d : decode cc pc = .ok (.aload_n f, 1)) (hi : (f : Nat) = i) (q : Nat) (hq : lv[q]? = some (i, .ref x)) (k : Z (pc + 1) lv (.ref x :: st) M) : Z pc lv st M := by
  obtain ⟨p, e, R, s, m, args, below, meth, c, A, H0, cells, slots, Q, ⟨hx, hb, hml, hown, hts⟩, hK, hA, hG, hX, hNW, hbl, hbA, hF, hL, hc, hs, rfl⟩ := h
  intro H locs ls hP hS hl
  exact lv_aload_n hx hb d hi (lv_at hl q hq) (k H locs ls hP hS hl)
theorem AX.istore (h : AX l G cc nL own Ts F Lc Z) {i : Nat} {x : Int32} (lv' : List (Nat × Value)) (d : decode cc pc = .ok (.istore i, 2)) (hn : i < nL) (hl' : (i, Value.int x) :: lv.filter (fun q => !(q.1 == i) && !(q.1 + 1 == i && q.2.category == 2)) = lv') (k : Z (pc + 2) lv' st M) : Z pc lv (.int x :: st) M := by
  obtain ⟨p, e, R, s, m, args, below, meth, c, A, H0, cells, slots, Q, ⟨hx, hb, hml, hown, hts⟩, hK, hA, hG, hX, hNW, hbl, hbA, hF, hL, hc, hs, rfl⟩ := h
  intro H locs ls hP hS hl
  exact lv_istore hx hb d hl hn hl' (fun ls' hl2 => k H locs ls' hP hS hl2)
theorem AX.istore_n (h : AX l G cc nL own Ts F Lc Z) {i : Nat} {x : Int32} {f : Fin 4} (lv' : List (Nat × Value)) (d : decode cc pc = .ok (.istore_n f, 1)) (hi : (f : Nat) = i) (hn : i < nL) (hl' : (i, Value.int x) :: lv.filter (fun q => !(q.1 == i) && !(q.1 + 1 == i && q.2.category == 2)) = lv') (k : Z (pc + 1) lv' st M) : Z pc lv (.int x :: st) M := by
  obtain ⟨p, e, R, s, m, args, below, meth, c, A, H0, cells, slots, Q, ⟨hx, hb, hml, hown, hts⟩, hK, hA, hG, hX, hNW, hbl, hbA, hF, hL, hc, hs, rfl⟩ := h
  intro H locs ls hP hS hl
  exact lv_istore_n hx hb d hi hl hn hl' (fun ls' hl2 => k H locs ls' hP hS hl2)
theorem AX.lstore (h : AX l G cc nL own Ts F Lc Z) {i : Nat} {x : Int64} (lv' : List (Nat × Value)) (d : decode cc pc = .ok (.lstore i, 2)) (hn : i + 1 < nL) (hl' : (i, Value.long x) :: lv.filter (fun q => !(q.1 == i) && (!(q.1 == i + 1) && !(q.1 + 1 == i && q.2.category == 2))) = lv') (k : Z (pc + 2) lv' st M) : Z pc lv (.long x :: st) M := by
  obtain ⟨p, e, R, s, m, args, below, meth, c, A, H0, cells, slots, Q, ⟨hx, hb, hml, hown, hts⟩, hK, hA, hG, hX, hNW, hbl, hbA, hF, hL, hc, hs, rfl⟩ := h
  intro H locs ls hP hS hl
  exact lv_lstore hx hb d hl hn hl' (fun ls' hl2 => k H locs ls' hP hS hl2)
theorem AX.lstore_n (h : AX l G cc nL own Ts F Lc Z) {i : Nat} {x : Int64} {f : Fin 4} (lv' : List (Nat × Value)) (d : decode cc pc = .ok (.lstore_n f, 1)) (hi : (f : Nat) = i) (hn : i + 1 < nL) (hl' : (i, Value.long x) :: lv.filter (fun q => !(q.1 == i) && (!(q.1 == i + 1) && !(q.1 + 1 == i && q.2.category == 2))) = lv') (k : Z (pc + 1) lv' st M) : Z pc lv (.long x :: st) M := by
  obtain ⟨p, e, R, s, m, args, below, meth, c, A, H0, cells, slots, Q, ⟨hx, hb, hml, hown, hts⟩, hK, hA, hG, hX, hNW, hbl, hbA, hF, hL, hc, hs, rfl⟩ := h
  intro H locs ls hP hS hl
  exact lv_lstore_n hx hb d hi hl hn hl' (fun ls' hl2 => k H locs ls' hP hS hl2)
theorem AX.astore (h : AX l G cc nL own Ts F Lc Z) {i : Nat} {x : Nat} (lv' : List (Nat × Value)) (d : decode cc pc = .ok (.astore i, 2)) (hn : i < nL) (hl' : (i, Value.ref x) :: lv.filter (fun q => !(q.1 == i) && !(q.1 + 1 == i && q.2.category == 2)) = lv') (k : Z (pc + 2) lv' st M) : Z pc lv (.ref x :: st) M := by
  obtain ⟨p, e, R, s, m, args, below, meth, c, A, H0, cells, slots, Q, ⟨hx, hb, hml, hown, hts⟩, hK, hA, hG, hX, hNW, hbl, hbA, hF, hL, hc, hs, rfl⟩ := h
  intro H locs ls hP hS hl
  exact lv_astore hx hb d hl hn hl' (fun ls' hl2 => k H locs ls' hP hS hl2)
theorem AX.astore_n (h : AX l G cc nL own Ts F Lc Z) {i : Nat} {x : Nat} {f : Fin 4} (lv' : List (Nat × Value)) (d : decode cc pc = .ok (.astore_n f, 1)) (hi : (f : Nat) = i) (hn : i < nL) (hl' : (i, Value.ref x) :: lv.filter (fun q => !(q.1 == i) && !(q.1 + 1 == i && q.2.category == 2)) = lv') (k : Z (pc + 1) lv' st M) : Z pc lv (.ref x :: st) M := by
  obtain ⟨p, e, R, s, m, args, below, meth, c, A, H0, cells, slots, Q, ⟨hx, hb, hml, hown, hts⟩, hK, hA, hG, hX, hNW, hbl, hbA, hF, hL, hc, hs, rfl⟩ := h
  intro H locs ls hP hS hl
  exact lv_astore_n hx hb d hi hl hn hl' (fun ls' hl2 => k H locs ls' hP hS hl2)
theorem AX.iinc (h : AX l G cc nL own Ts F Lc Z) {i : Nat} {n : Int} {x v : Int32} (lv' : List (Nat × Value)) (d : decode cc pc = .ok (.iinc i n, 3)) (q : Nat) (hq : lv[q]? = some (i, .int x)) (hv : x + Int32.ofInt n = v) (hn : i < nL) (hl' : (i, Value.int v) :: lv.filter (fun q => !(q.1 == i) && !(q.1 + 1 == i && q.2.category == 2)) = lv') (k : Z (pc + 3) lv' st M) : Z pc lv st M := by
  obtain ⟨p, e, R, s, m, args, below, meth, c, A, H0, cells, slots, Q, ⟨hx, hb, hml, hown, hts⟩, hK, hA, hG, hX, hNW, hbl, hbA, hF, hL, hc, hs, rfl⟩ := h
  intro H locs ls hP hS hl
  exact lv_iinc hx hb d hl (k := q) hq hv hn hl' (fun ls' hl2 => k H locs ls' hP hS hl2)
theorem AX.dup (h : AX l G cc nL own Ts F Lc Z) {v : Value} (d : decode cc pc = .ok (.dup, 1)) (hv : v.category = 1) (k : Z (pc + 1) lv (v :: v :: st) M) : Z pc lv (v :: st) M := by
  obtain ⟨p, e, R, s, m, args, below, meth, c, A, H0, cells, slots, Q, ⟨hx, hb, hml, hown, hts⟩, hK, hA, hG, hX, hNW, hbl, hbA, hF, hL, hc, hs, rfl⟩ := h
  intro H locs ls hP hS hl
  exact lv_dup hx hb d hv (k H locs ls hP hS hl)
theorem AX.dup2 (h : AX l G cc nL own Ts F Lc Z) {v u : Value} (d : decode cc pc = .ok (.dup2, 1)) (hv : v.category = 1) (hu : u.category = 1) (k : Z (pc + 1) lv (v :: u :: v :: u :: st) M) : Z pc lv (v :: u :: st) M := by
  obtain ⟨p, e, R, s, m, args, below, meth, c, A, H0, cells, slots, Q, ⟨hx, hb, hml, hown, hts⟩, hK, hA, hG, hX, hNW, hbl, hbA, hF, hL, hc, hs, rfl⟩ := h
  intro H locs ls hP hS hl
  exact lv_dup2_11 hx hb d hv hu (k H locs ls hP hS hl)
theorem AX.goto (h : AX l G cc nL own Ts F Lc Z) {o : Int} (tgt : Nat) (d : decode cc pc = .ok (.goto o, 3)) (ht : (pc : Int) + o = (tgt : Int)) (k : Z tgt lv st M) : Z pc lv st M := by
  obtain ⟨p, e, R, s, m, args, below, meth, c, A, H0, cells, slots, Q, ⟨hx, hb, hml, hown, hts⟩, hK, hA, hG, hX, hNW, hbl, hbA, hF, hL, hc, hs, rfl⟩ := h
  intro H locs ls hP hS hl
  exact lv_goto hx hb d ht (k H locs ls hP hS hl)
theorem AX.if_eq (h : AX l G cc nL own Ts F Lc Z) {o : Int} {x : Int32} (tgt : Nat) (d : decode cc pc = .ok (.ifCond .eq o, 3)) (ht : (pc : Int) + o = (tgt : Int)) (kt : x = 0 → Z tgt lv st M) (kf : ¬ x = 0 → Z (pc + 3) lv st M) : Z pc lv (.int x :: st) M := by
  obtain ⟨p, e, R, s, m, args, below, meth, c, A, H0, cells, slots, Q, ⟨hx, hb, hml, hown, hts⟩, hK, hA, hG, hX, hNW, hbl, hbA, hF, hL, hc, hs, rfl⟩ := h
  intro H locs ls hP hS hl
  exact lv_if_eq hx hb d ht (fun q => kt q H locs ls hP hS hl) (fun q => kf q H locs ls hP hS hl)
theorem AX.icmp_eq (h : AX l G cc nL own Ts F Lc Z) {o : Int} {x y : Int32} (tgt : Nat) (d : decode cc pc = .ok (.if_icmp .eq o, 3)) (ht : (pc : Int) + o = (tgt : Int)) (kt : x = y → Z tgt lv st M) (kf : ¬ x = y → Z (pc + 3) lv st M) : Z pc lv (.int y :: .int x :: st) M := by
  obtain ⟨p, e, R, s, m, args, below, meth, c, A, H0, cells, slots, Q, ⟨hx, hb, hml, hown, hts⟩, hK, hA, hG, hX, hNW, hbl, hbA, hF, hL, hc, hs, rfl⟩ := h
  intro H locs ls hP hS hl
  exact lv_icmp_eq hx hb d ht (fun q => kt q H locs ls hP hS hl) (fun q => kf q H locs ls hP hS hl)
theorem AX.if_ne (h : AX l G cc nL own Ts F Lc Z) {o : Int} {x : Int32} (tgt : Nat) (d : decode cc pc = .ok (.ifCond .ne o, 3)) (ht : (pc : Int) + o = (tgt : Int)) (kt : ¬ x = 0 → Z tgt lv st M) (kf : x = 0 → Z (pc + 3) lv st M) : Z pc lv (.int x :: st) M := by
  obtain ⟨p, e, R, s, m, args, below, meth, c, A, H0, cells, slots, Q, ⟨hx, hb, hml, hown, hts⟩, hK, hA, hG, hX, hNW, hbl, hbA, hF, hL, hc, hs, rfl⟩ := h
  intro H locs ls hP hS hl
  exact lv_if_ne hx hb d ht (fun q => kt q H locs ls hP hS hl) (fun q => kf q H locs ls hP hS hl)
theorem AX.icmp_ne (h : AX l G cc nL own Ts F Lc Z) {o : Int} {x y : Int32} (tgt : Nat) (d : decode cc pc = .ok (.if_icmp .ne o, 3)) (ht : (pc : Int) + o = (tgt : Int)) (kt : ¬ x = y → Z tgt lv st M) (kf : x = y → Z (pc + 3) lv st M) : Z pc lv (.int y :: .int x :: st) M := by
  obtain ⟨p, e, R, s, m, args, below, meth, c, A, H0, cells, slots, Q, ⟨hx, hb, hml, hown, hts⟩, hK, hA, hG, hX, hNW, hbl, hbA, hF, hL, hc, hs, rfl⟩ := h
  intro H locs ls hP hS hl
  exact lv_icmp_ne hx hb d ht (fun q => kt q H locs ls hP hS hl) (fun q => kf q H locs ls hP hS hl)
theorem AX.if_lt (h : AX l G cc nL own Ts F Lc Z) {o : Int} {x : Int32} (tgt : Nat) (d : decode cc pc = .ok (.ifCond .lt o, 3)) (ht : (pc : Int) + o = (tgt : Int)) (kt : x < 0 → Z tgt lv st M) (kf : ¬ x < 0 → Z (pc + 3) lv st M) : Z pc lv (.int x :: st) M := by
  obtain ⟨p, e, R, s, m, args, below, meth, c, A, H0, cells, slots, Q, ⟨hx, hb, hml, hown, hts⟩, hK, hA, hG, hX, hNW, hbl, hbA, hF, hL, hc, hs, rfl⟩ := h
  intro H locs ls hP hS hl
  exact lv_if_lt hx hb d ht (fun q => kt q H locs ls hP hS hl) (fun q => kf q H locs ls hP hS hl)
theorem AX.icmp_lt (h : AX l G cc nL own Ts F Lc Z) {o : Int} {x y : Int32} (tgt : Nat) (d : decode cc pc = .ok (.if_icmp .lt o, 3)) (ht : (pc : Int) + o = (tgt : Int)) (kt : x < y → Z tgt lv st M) (kf : ¬ x < y → Z (pc + 3) lv st M) : Z pc lv (.int y :: .int x :: st) M := by
  obtain ⟨p, e, R, s, m, args, below, meth, c, A, H0, cells, slots, Q, ⟨hx, hb, hml, hown, hts⟩, hK, hA, hG, hX, hNW, hbl, hbA, hF, hL, hc, hs, rfl⟩ := h
  intro H locs ls hP hS hl
  exact lv_icmp_lt hx hb d ht (fun q => kt q H locs ls hP hS hl) (fun q => kf q H locs ls hP hS hl)
theorem AX.if_ge (h : AX l G cc nL own Ts F Lc Z) {o : Int} {x : Int32} (tgt : Nat) (d : decode cc pc = .ok (.ifCond .ge o, 3)) (ht : (pc : Int) + o = (tgt : Int)) (kt : 0 ≤ x → Z tgt lv st M) (kf : ¬ 0 ≤ x → Z (pc + 3) lv st M) : Z pc lv (.int x :: st) M := by
  obtain ⟨p, e, R, s, m, args, below, meth, c, A, H0, cells, slots, Q, ⟨hx, hb, hml, hown, hts⟩, hK, hA, hG, hX, hNW, hbl, hbA, hF, hL, hc, hs, rfl⟩ := h
  intro H locs ls hP hS hl
  exact lv_if_ge hx hb d ht (fun q => kt q H locs ls hP hS hl) (fun q => kf q H locs ls hP hS hl)
theorem AX.icmp_ge (h : AX l G cc nL own Ts F Lc Z) {o : Int} {x y : Int32} (tgt : Nat) (d : decode cc pc = .ok (.if_icmp .ge o, 3)) (ht : (pc : Int) + o = (tgt : Int)) (kt : y ≤ x → Z tgt lv st M) (kf : ¬ y ≤ x → Z (pc + 3) lv st M) : Z pc lv (.int y :: .int x :: st) M := by
  obtain ⟨p, e, R, s, m, args, below, meth, c, A, H0, cells, slots, Q, ⟨hx, hb, hml, hown, hts⟩, hK, hA, hG, hX, hNW, hbl, hbA, hF, hL, hc, hs, rfl⟩ := h
  intro H locs ls hP hS hl
  exact lv_icmp_ge hx hb d ht (fun q => kt q H locs ls hP hS hl) (fun q => kf q H locs ls hP hS hl)
theorem AX.if_gt (h : AX l G cc nL own Ts F Lc Z) {o : Int} {x : Int32} (tgt : Nat) (d : decode cc pc = .ok (.ifCond .gt o, 3)) (ht : (pc : Int) + o = (tgt : Int)) (kt : 0 < x → Z tgt lv st M) (kf : ¬ 0 < x → Z (pc + 3) lv st M) : Z pc lv (.int x :: st) M := by
  obtain ⟨p, e, R, s, m, args, below, meth, c, A, H0, cells, slots, Q, ⟨hx, hb, hml, hown, hts⟩, hK, hA, hG, hX, hNW, hbl, hbA, hF, hL, hc, hs, rfl⟩ := h
  intro H locs ls hP hS hl
  exact lv_if_gt hx hb d ht (fun q => kt q H locs ls hP hS hl) (fun q => kf q H locs ls hP hS hl)
theorem AX.icmp_gt (h : AX l G cc nL own Ts F Lc Z) {o : Int} {x y : Int32} (tgt : Nat) (d : decode cc pc = .ok (.if_icmp .gt o, 3)) (ht : (pc : Int) + o = (tgt : Int)) (kt : y < x → Z tgt lv st M) (kf : ¬ y < x → Z (pc + 3) lv st M) : Z pc lv (.int y :: .int x :: st) M := by
  obtain ⟨p, e, R, s, m, args, below, meth, c, A, H0, cells, slots, Q, ⟨hx, hb, hml, hown, hts⟩, hK, hA, hG, hX, hNW, hbl, hbA, hF, hL, hc, hs, rfl⟩ := h
  intro H locs ls hP hS hl
  exact lv_icmp_gt hx hb d ht (fun q => kt q H locs ls hP hS hl) (fun q => kf q H locs ls hP hS hl)
theorem AX.if_le (h : AX l G cc nL own Ts F Lc Z) {o : Int} {x : Int32} (tgt : Nat) (d : decode cc pc = .ok (.ifCond .le o, 3)) (ht : (pc : Int) + o = (tgt : Int)) (kt : x ≤ 0 → Z tgt lv st M) (kf : ¬ x ≤ 0 → Z (pc + 3) lv st M) : Z pc lv (.int x :: st) M := by
  obtain ⟨p, e, R, s, m, args, below, meth, c, A, H0, cells, slots, Q, ⟨hx, hb, hml, hown, hts⟩, hK, hA, hG, hX, hNW, hbl, hbA, hF, hL, hc, hs, rfl⟩ := h
  intro H locs ls hP hS hl
  exact lv_if_le hx hb d ht (fun q => kt q H locs ls hP hS hl) (fun q => kf q H locs ls hP hS hl)
theorem AX.icmp_le (h : AX l G cc nL own Ts F Lc Z) {o : Int} {x y : Int32} (tgt : Nat) (d : decode cc pc = .ok (.if_icmp .le o, 3)) (ht : (pc : Int) + o = (tgt : Int)) (kt : x ≤ y → Z tgt lv st M) (kf : ¬ x ≤ y → Z (pc + 3) lv st M) : Z pc lv (.int y :: .int x :: st) M := by
  obtain ⟨p, e, R, s, m, args, below, meth, c, A, H0, cells, slots, Q, ⟨hx, hb, hml, hown, hts⟩, hK, hA, hG, hX, hNW, hbl, hbA, hF, hL, hc, hs, rfl⟩ := h
  intro H locs ls hP hS hl
  exact lv_icmp_le hx hb d ht (fun q => kt q H locs ls hP hS hl) (fun q => kf q H locs ls hP hS hl)
theorem AX.tsw (h : AX l G cc nL own Ts F Lc Z) {dflt lo hi : Int} {offs : Array Int} {len : Nat} {x : Int32} {o : Int} (tgt : Nat) (d : decode cc pc = .ok (.tableswitch dflt lo hi offs, len)) (h1 : ¬ x.toInt < lo) (h2 : ¬ hi < x.toInt) (ho : offs[(x.toInt - lo).toNat]? = some o) (ht : (pc : Int) + o = (tgt : Int)) (k : Z tgt lv st M) : Z pc lv (.int x :: st) M := by
  obtain ⟨p, e, R, s, m, args, below, meth, c, A, H0, cells, slots, Q, ⟨hx, hb, hml, hown, hts⟩, hK, hA, hG, hX, hNW, hbl, hbA, hF, hL, hc, hs, rfl⟩ := h
  intro H locs ls hP hS hl
  exact lv_tableIn hx hb d h1 h2 ho ht (k H locs ls hP hS hl)
theorem AX.tsd (h : AX l G cc nL own Ts F Lc Z) {dflt lo hi : Int} {offs : Array Int} {len : Nat} {x : Int32} (tgt : Nat) (d : decode cc pc = .ok (.tableswitch dflt lo hi offs, len)) (h1 : x.toInt < lo ∨ hi < x.toInt) (ht : (pc : Int) + dflt = (tgt : Int)) (k : Z tgt lv st M) : Z pc lv (.int x :: st) M := by
  obtain ⟨p, e, R, s, m, args, below, meth, c, A, H0, cells, slots, Q, ⟨hx, hb, hml, hown, hts⟩, hK, hA, hG, hX, hNW, hbl, hbA, hF, hL, hc, hs, rfl⟩ := h
  intro H locs ls hP hS hl
  exact lv_tableOut hx hb d h1 ht (k H locs ls hP hS hl)
theorem AX.sub (h : AX l G cc nL own Ts F Lc Z) (ks : List Nat) {lv' : List (Nat × Value)} (hl' : lv_pick lv ks = lv') (k : Z pc lv' st M) : Z pc lv st M := by
  obtain ⟨p, e, R, s, m, args, below, meth, c, A, H0, cells, slots, Q, ⟨hx, hb, hml, hown, hts⟩, hK, hA, hG, hX, hNW, hbl, hbA, hF, hL, hc, hs, rfl⟩ := h
  intro H locs ls hP hS hl
  exact k H locs ls hP hS (lv_sub hl ks hl')
theorem AX.getf (h : AX l G cc nL own Ts F Lc Z) {f o i ci N C T fs ix j} {v : Value} (hk : (f, o, i) ∈ KS G) (he : ctv G f o i (M f o i) = .inr (ci, fs)) (hcl : vwCl[ci]? = some (C, T, N)) (hj : j < N) (hin : ∀ w ∈ u_ws C T N, w ∈ Ts) (hlink : Cond.fieldLink own ix (T j).1 (T j).2.1 (T j).2.2.1 ∈ Ts) (hv : fs[j]? = some v) (d : decode cc pc = .ok (.getfield ix, 3)) (k : Z (pc + 3) lv (v :: st) M) : Z pc lv (.ref (gA G (f, o, i)) :: st) M := by
  obtain ⟨p, e, R, s, m, args, below, meth, c, A, H0, cells, slots, Q, ⟨hx, hb, hml, hown, hts⟩, hK, hA, hG, hX, hNW, hbl, hbA, hF, hL, hc, hs, rfl⟩ := h
  intro H locs ls hP hS hl
  obtain ⟨q, -, hq⟩ := WL_at (G := G) (M := M) hk
  have hq : (WL G M)[q]? = some (gA G (f, o, i), .inr (ci, fs)) := by rw [hq]; unfold ct; rw [he]
  exact va_get hx hb hts hin hown hK hP q hq hcl j hj (hts _ hlink) (fun _ h9 => h9) hv d (k H locs ls hP hS hl)
theorem AX.putf (h : AX l G cc nL own Ts F Lc Z) {f o i ci N C T fs ix j ty} {ty0 : Nat → FieldType} {x : Int32} (hk : (f, o, i) ∈ KS G) (he : ctv G f o i (M f o i) = .inr (ci, fs)) (hcl : vwCl[ci]? = some (C, T, N)) (hj : j < N) (hin : ∀ w ∈ u_ws C T N, w ∈ Ts) (hty : ∀ k, k < N → parseFieldDescriptor (T k).2.2.1 = some (ty0 k)) (hnm : ∀ a, a < N → ∀ b, b < N → a ≠ b → (T a).2.1 ≠ (T b).2.1) (hlink : Cond.fieldLink own ix (T j).1 (T j).2.1 (T j).2.2.1 ∈ Ts) (hfin : (T j).2.2.2 = false) (hd : parseFieldDescriptor (T j).2.2.1 = some ty) (hn : narrow ty (.int x) = .int x) (hfit : fits ty (.int x) = true) (hl9 : j < fs.length) (he2 : ctv G f o i (upd (M f o i) j x) = .inr (ci, fs.set j (.int x))) (d : decode cc pc = .ok (.putfield ix, 3)) (k : ∀ M' : Mem, M' = sM M f o i j x → Z (pc + 3) lv st M') : Z pc lv (.int x :: .ref (gA G (f, o, i)) :: st) M := by
  obtain ⟨p, e, R, s, m, args, below, meth, c, A, H0, cells, slots, Q, ⟨hx, hb, hml, hown, hts⟩, hK, hA, hG, hX, hNW, hbl, hbA, hF, hL, hc, hs, rfl⟩ := h
  intro H locs ls hP hS hl
  obtain ⟨q, hq0, hq⟩ := WL_at (G := G) (M := M) hk
  have hq : (WL G M)[q]? = some (gA G (f, o, i), .inr (ci, fs)) := by rw [hq]; unfold ct; rw [he]
  refine va_put hx hb hts hin ty0 hty hnm hown hK hP (WL_D hG hA) hS q hq hcl j hj (hts _ hlink) (fun _ h9 => h9) hfin hd hn hfit hl9 d (fun H1 locs1 hP1 hD1 hS1 => ?_)
  rw [WL_set hG.2.1 hq0 he2] at hP1
  exact k _ rfl H1 locs1 ls hP1 hS1 hl
theorem AX.getN (h : AX l G cc nL own Ts F Lc Z) {f o i ci N C T fs ix j} {v : Value} (hk : (f, o, i) ∈ KS G) (he : ctv G f o i (M f o i) = .inr (ci, fs)) (hcl : vwCl[ci]? = some (C, T, N)) (hj : j < N) (hin : ∀ w ∈ u_ws C T N, w ∈ Ts) {own0 host} (hown0 : own = own0) (hlink : (own0, ix, (T j).1, (T j).2.1, (T j).2.2.1, host) ∈ NWF) (hv : fs[j]? = some v) (d : decode cc pc = .ok (.getfield ix, 3)) (k : Z (pc + 3) lv (v :: st) M) : Z pc lv (.ref (gA G (f, o, i)) :: st) M := by
  obtain ⟨p, e, R, s, m, args, below, meth, c, A, H0, cells, slots, Q, ⟨hx, hb, hml, hown, hts⟩, hK, hA, hG, hX, hNW, hbl, hbA, hF, hL, hc, hs, rfl⟩ := h
  intro H locs ls hP hS hl
  subst hown0
  obtain ⟨q, -, hq⟩ := WL_at (G := G) (M := M) hk
  have hq : (WL G M)[q]? = some (gA G (f, o, i), .inr (ci, fs)) := by rw [hq]; unfold ct; rw [he]
  exact va_getN hx hb hts hin hown hK hP q hq hcl j hj ((hNW _ hlink).use rfl) (fun _ h9 => h9) hv d (k H locs ls hP hS hl)
theorem AX.putN (h : AX l G cc nL own Ts F Lc Z) {f o i ci N C T fs ix j ty} {ty0 : Nat → FieldType} {x : Int32} (hk : (f, o, i) ∈ KS G) (he : ctv G f o i (M f o i) = .inr (ci, fs)) (hcl : vwCl[ci]? = some (C, T, N)) (hj : j < N) (hin : ∀ w ∈ u_ws C T N, w ∈ Ts) (hty : ∀ k, k < N → parseFieldDescriptor (T k).2.2.1 = some (ty0 k)) (hnm : ∀ a, a < N → ∀ b, b < N → a ≠ b → (T a).2.1 ≠ (T b).2.1) {own0 host} (hown0 : own = own0) (hlink : (own0, ix, (T j).1, (T j).2.1, (T j).2.2.1, host) ∈ NWF) (hfin : (T j).2.2.2 = false) (hd : parseFieldDescriptor (T j).2.2.1 = some ty) (hn : narrow ty (.int x) = .int x) (hfit : fits ty (.int x) = true) (hl9 : j < fs.length) (he2 : ctv G f o i (upd (M f o i) j x) = .inr (ci, fs.set j (.int x))) (d : decode cc pc = .ok (.putfield ix, 3)) (k : ∀ M' : Mem, M' = sM M f o i j x → Z (pc + 3) lv st M') : Z pc lv (.int x :: .ref (gA G (f, o, i)) :: st) M := by
  obtain ⟨p, e, R, s, m, args, below, meth, c, A, H0, cells, slots, Q, ⟨hx, hb, hml, hown, hts⟩, hK, hA, hG, hX, hNW, hbl, hbA, hF, hL, hc, hs, rfl⟩ := h
  intro H locs ls hP hS hl
  subst hown0
  obtain ⟨q, hq0, hq⟩ := WL_at (G := G) (M := M) hk
  have hq : (WL G M)[q]? = some (gA G (f, o, i), .inr (ci, fs)) := by rw [hq]; unfold ct; rw [he]
  refine va_putN hx hb hts hin ty0 hty hnm hown hK hP (WL_D hG hA) hS q hq hcl j hj ((hNW _ hlink).use rfl) (fun _ h9 => h9) hfin hd hn hfit hl9 d (fun H1 locs1 hP1 hD1 hS1 => ?_)
  rw [WL_set hG.2.1 hq0 he2] at hP1
  exact k _ rfl H1 locs1 ls hP1 hS1 hl
theorem AX.iald (h : AX l G cc nL own Ts F Lc Z) {f o i n : Nat} {ix : Int32} (hk : (f, o, i) ∈ KS G) (he : ∀ v, ctv G f o i v = .inl (gI G, n, .inl v)) (hin : vp_in ix n) (d : decode cc pc = .ok (.iaload, 1)) (k : Z (pc + 1) lv (.int (M f o i ix.toNatClampNeg) :: st) M) : Z pc lv (.int ix :: .ref (gA G (f, o, i)) :: st) M := by
  obtain ⟨p, e, R, s, m, args, below, meth, c, A, H0, cells, slots, Q, ⟨hx, hb, hml, hown, hts⟩, hK, hA, hG, hX, hNW, hbl, hbA, hF, hL, hc, hs, rfl⟩ := h
  intro H locs ls hP hS hl
  obtain ⟨q, -, hq⟩ := WL_at (G := G) (M := M) hk
  have hq : (WL G M)[q]? = some (gA G (f, o, i), .inl (gI G, n, .inl (M f o i))) := by rw [hq]; unfold ct; rw [he]
  exact va_iald hx hb hK hP q 0 hq rfl hin d (k H locs ls hP hS hl)
theorem AX.zald (h : AX l G cc nL own Ts F Lc Z) {f o i n : Nat} {ix : Int32} (hk : (f, o, i) ∈ KS G) (he : ∀ v, ctv G f o i v = .inl (gZ G, n, .inl v)) (hin : vp_in ix n) (d : decode cc pc = .ok (.baload, 1)) (k : Z (pc + 1) lv (.int (M f o i ix.toNatClampNeg) :: st) M) : Z pc lv (.int ix :: .ref (gA G (f, o, i)) :: st) M := by
  obtain ⟨p, e, R, s, m, args, below, meth, c, A, H0, cells, slots, Q, ⟨hx, hb, hml, hown, hts⟩, hK, hA, hG, hX, hNW, hbl, hbA, hF, hL, hc, hs, rfl⟩ := h
  intro H locs ls hP hS hl
  obtain ⟨q, -, hq⟩ := WL_at (G := G) (M := M) hk
  have hq : (WL G M)[q]? = some (gA G (f, o, i), .inl (gZ G, n, .inl (M f o i))) := by rw [hq]; unfold ct; rw [he]
  exact va_zald hx hb hK hP q 1 hq rfl hin d (k H locs ls hP hS hl)
theorem AX.iast (h : AX l G cc nL own Ts F Lc Z) {f o i n : Nat} {ix x : Int32} (hk : (f, o, i) ∈ KS G) (he : ∀ v, ctv G f o i v = .inl (gI G, n, .inl v)) (hin : vp_in ix n) (d : decode cc pc = .ok (.iastore, 1)) (k : ∀ M' : Mem, M' = sM M f o i ix.toNatClampNeg x → Z (pc + 1) lv st M') : Z pc lv (.int x :: .int ix :: .ref (gA G (f, o, i)) :: st) M := by
  obtain ⟨p, e, R, s, m, args, below, meth, c, A, H0, cells, slots, Q, ⟨hx, hb, hml, hown, hts⟩, hK, hA, hG, hX, hNW, hbl, hbA, hF, hL, hc, hs, rfl⟩ := h
  intro H locs ls hP hS hl
  obtain ⟨q, hq0, hq⟩ := WL_at (G := G) (M := M) hk
  have hq : (WL G M)[q]? = some (gA G (f, o, i), .inl (gI G, n, .inl (M f o i))) := by rw [hq]; unfold ct; rw [he]
  refine va_iast hx hb hK hP (WL_D hG hA) hS q 0 hq rfl hin d (fun H1 locs1 hP1 hD1 hS1 => ?_)
  rw [WL_set hG.2.1 hq0 (he _)] at hP1
  exact k _ rfl H1 locs1 ls hP1 hS1 hl
theorem zb_nar {x : Int32} (h : zb x) : vp_nar .boolean x = x := by
  rcases h with rfl | rfl <;> decide
theorem zb_narrow {x : Int32} (h : zb x) : narrow .boolean (.int x) = .int x := by
  rcases h with rfl | rfl <;> decide
theorem zb_fits {x : Int32} (h : zb x) : fits .boolean (.int x) = true := by
  rcases h with rfl | rfl <;> decide
theorem zb_0 : zb 0 := Or.inl rfl
theorem zb_1 : zb 1 := Or.inr rfl
theorem AX.zast (h : AX l G cc nL own Ts F Lc Z) {f o i n : Nat} {ix x : Int32} (hk : (f, o, i) ∈ KS G) (he : ∀ v, ctv G f o i v = .inl (gZ G, n, .inl v)) (hin : vp_in ix n) (hz : zb x) (d : decode cc pc = .ok (.bastore, 1)) (k : ∀ M' : Mem, M' = sM M f o i ix.toNatClampNeg x → Z (pc + 1) lv st M') : Z pc lv (.int x :: .int ix :: .ref (gA G (f, o, i)) :: st) M := by
  obtain ⟨p, e, R, s, m, args, below, meth, c, A, H0, cells, slots, Q, ⟨hx, hb, hml, hown, hts⟩, hK, hA, hG, hX, hNW, hbl, hbA, hF, hL, hc, hs, rfl⟩ := h
  intro H locs ls hP hS hl
  obtain ⟨q, hq0, hq⟩ := WL_at (G := G) (M := M) hk
  have hq : (WL G M)[q]? = some (gA G (f, o, i), .inl (gZ G, n, .inl (M f o i))) := by rw [hq]; unfold ct; rw [he]
  refine va_zast hx hb hK hP (WL_D hG hA) hS q 1 hq rfl hin d (fun H1 locs1 hP1 hD1 hS1 => ?_)
  rw [zb_nar hz] at hP1
  rw [WL_set hG.2.1 hq0 (he _)] at hP1
  exact k _ rfl H1 locs1 ls hP1 hS1 hl
theorem AX.aald (h : AX l G cc nL own Ts F Lc Z) {o : Nat} {ix : Int32} (ho : o < 2) (hin : vp_in ix 30) (d : decode cc pc = .ok (.aaload, 1)) (k : Z (pc + 1) lv (.ref (gA G (4, o, ix.toNatClampNeg)) :: st) M) : Z pc lv (.int ix :: .ref (gA G (11, o, 0)) :: st) M := by
  obtain ⟨p, e, R, s, m, args, below, meth, c, A, H0, cells, slots, Q, ⟨hx, hb, hml, hown, hts⟩, hK, hA, hG, hX, hNW, hbl, hbA, hF, hL, hc, hs, rfl⟩ := h
  intro H locs ls hP hS hl
  obtain ⟨q, -, hq⟩ := WL_at (G := G) (M := M) (k_1 (f := 11) 2 (by decide) ho)
  have hq : (WL G M)[q]? = some (gA G (11, o, 0), .inl (gR G, 30, .inr (.inr (.inr (.inr fun j => some (gA G (4, o, j))))))) := by rw [hq]; rfl
  exact va_aldq hx hb hK hP q 2 hq rfl hin d (k H locs ls hP hS hl)
theorem AX.mmax (h : AX l G cc nL own Ts F Lc Z) {ix : Nat} {x y : Int32} (h1 : Cond.methodLink own ix Lib.Math.max.name ∈ Ts) (h2 : Cond.static Lib.Math.max.name ∈ Ts) (h3 : Cond.initialized "java/lang/Math" ∈ Ts) (h4 : Cond.code Lib.Math.max.name Lib.Math.max.code 2 (some .int) ∈ Ts) (hF1 : 1 ≤ F) (hL1 : (st.map fun v => v.category).sum + 13 ≤ Lc) (d : decode cc pc = .ok (.invokestatic ix, 3)) (k : Z (pc + 3) lv (.int (if x < y then y else x) :: st) M) : Z pc lv (.int y :: .int x :: st) M := by
  obtain ⟨p, e, R, s, m, args, below, meth, c, A, H0, cells, slots, Q, ⟨hx, hb, hml, hown, hts⟩, hK, hA, hG, hX, hNW, hbl, hbA, hF, hL, hc, hs, rfl⟩ := h
  intro H locs ls hP hS hl
  exact va_mmax hx hb (hml.trans hl.1.symm) hown (hts _ h1) (hts _ h2) (hts _ h3) (hts _ h4) (Nat.le_trans hF1 hF) (Nat.le_trans hL1 hL) hc hs d (k H locs ls hP hS hl)
theorem AX.mmin (h : AX l G cc nL own Ts F Lc Z) {ix : Nat} {x y : Int32} (h1 : Cond.methodLink own ix Lib.Math.min.name ∈ Ts) (h2 : Cond.static Lib.Math.min.name ∈ Ts) (h3 : Cond.initialized "java/lang/Math" ∈ Ts) (h4 : Cond.code Lib.Math.min.name Lib.Math.min.code 2 (some .int) ∈ Ts) (hF1 : 1 ≤ F) (hL1 : (st.map fun v => v.category).sum + 13 ≤ Lc) (d : decode cc pc = .ok (.invokestatic ix, 3)) (k : Z (pc + 3) lv (.int (if y < x then y else x) :: st) M) : Z pc lv (.int y :: .int x :: st) M := by
  obtain ⟨p, e, R, s, m, args, below, meth, c, A, H0, cells, slots, Q, ⟨hx, hb, hml, hown, hts⟩, hK, hA, hG, hX, hNW, hbl, hbA, hF, hL, hc, hs, rfl⟩ := h
  intro H locs ls hP hS hl
  exact va_mmin hx hb (hml.trans hl.1.symm) hown (hts _ h1) (hts _ h2) (hts _ h3) (hts _ h4) (Nat.le_trans hF1 hF) (Nat.le_trans hL1 hL) hc hs d (k H locs ls hP hS hl)
theorem world_blind {args : List Value} {M : Mem} : FrameBlind (va_Pc args (World G M)) := fun a U g mk q => ⟨q.1, q.2.1, va_K.moved (u := U) (U := U.calling g mk a) (Vm.Alike.refl U.vm) q.2.2.1, va_X.moved (u := U) (U := U.calling g mk a) (Vm.Alike.refl U.vm) q.2.2.2.1, NW.same (s := U) (U := U.calling g mk a) rfl q.2.2.2.2⟩
theorem world_of {s U : State} {H0 H : Heap} {A : Nat → Prop} {locs : List Loc} (hP : va_P (gD G) vwCl (WL G M) H) (hK : va_K (gD G) vwCl (TY G) s) (hX : va_X (gB G) (gL G) (gS G) s H0) (hbl : gB G < H0.size) (hbA : ¬ A (gB G)) (hNW : NW s) (hS : va_S A H0 H locs) (hU : U.heap = H) (hW : s.WarmedH U.vm) : World G M U :=
  ⟨by rw [hU]; exact hP, va_K.moved hW.alike hK, by rw [hU]; exact va_X.moved hW.alike (hX.kept (hS.2.1 _ hbl hbA)), hNW.warm hW⟩
theorem AX.cVi (h : AX l G cc nL own Ts F Lc Z) {C : String} {y : MethodName} {ws ws' : List Cond} {ix n maxL F1 L1 : Nat} {bytes : ByteArray} {ret : Option FieldType} {P : Int32 → Mem → Prop} (As : List Value) (key : KY) (st : List Value) {ci fs q} (hM : CTi l G y ws F1 L1 (.ref (gA G key) :: As) M P) (hT : GoodIn Ts (wsV own ix C y ws)) (hw : ws = Cond.code y bytes maxL ret :: ws') (hd : y.cls = C ∧ y.cls ≠ "java/lang/invoke/MethodHandle" ∧ y.cls ≠ "java/lang/invoke/VarHandle" ∧ (parseMethodDescriptor y.desc).map (fun d => d.parameters.length) = some n) (hR : F1 + 1 ≤ F ∧ 8 + (maxL + 11) + L1 ≤ Lc) (hk : key ∈ KS G) (he : ct G M key = .inr (ci, fs)) (hc9 : vwCl[ci]? = some q) (hq9 : q.1 = C) (hn : As.length = n) {st0 : List Value} (hst : st0 = As.reverse ++ .ref (gA G key) :: st) (hrm : (st.map fun v => v.category).sum ≤ 8) (d : decode cc pc = .ok (.invokevirtual ix, 3)) (kk : ∀ (r : Int32) (M' : Mem), P r M' → Z (pc + 3) lv (.int r :: st) M') : Z pc lv st0 M := by
  obtain ⟨p, e, R, s, m, args, below, meth, c, A, H0, cells, slots, Q, ⟨hx, hb, hml, hown, hts⟩, hK, hA, hG, hX, hNW, hbl, hbA, hF, hL, hc, hs, rfl⟩ := h
  intro H locs ls hP hS hl
  obtain ⟨q9, -, hq⟩ := WL_at (G := G) (M := M) hk
  rw [he] at hq
  have hrecv := va_recv hK hP hc9 hq
  rw [hq9] at hrecv
  refine va_calli (va_runV (As := As) (rest := st) ⟨hx, hb, hml, hown, hts⟩ hM (cwV n hts hT hw rfl rfl hd ⟨Nat.le_trans hR.1 hF, Nat.le_trans hR.2 hL⟩) ⟨world_blind, hrecv, fun U hU hW => ⟨rfl, world_of hP hK hX hbl hbA hNW hS hU hW⟩⟩ rfl hn hl.1 hst (lv_room hrm) d ⟨hc, hs⟩) hS (fun q _ h => hA q h) (fun q h => hA q h) (fun r M' t H1 locs1 ht hvm hw hB hz1 hk1 hS1 => ?_)
  obtain ⟨hP1, -⟩ := hB
  rw [ht] at hP1
  exact kk r M' hw H1 locs1 ls hP1 hS1 hl
theorem AX.cSi (h : AX l G cc nL own Ts F Lc Z) {y : MethodName} {ws ws' : List Cond} {ix n maxL F1 L1 : Nat} {bytes : ByteArray} {ret : Option FieldType} {P : Int32 → Mem → Prop} (As : List Value) (st : List Value) (hM : CTi l G y ws F1 L1 As M P) (hT : GoodIn Ts (va_wsS own ix y ws)) (hw : ws = Cond.code y bytes maxL ret :: ws') (hd : y.cls ≠ "java/lang/invoke/MethodHandle" ∧ y.cls ≠ "java/lang/invoke/VarHandle" ∧ (parseMethodDescriptor y.desc).map (fun d => d.parameters.length) = some n) (hR : F1 + 1 ≤ F ∧ 8 + (maxL + 11) + L1 ≤ Lc) (hn : As.length = n) {st0 : List Value} (hst : st0 = As.reverse ++ st) (hrm : (st.map fun v => v.category).sum ≤ 8) (d : decode cc pc = .ok (.invokestatic ix, 3)) (kk : ∀ (r : Int32) (M' : Mem), P r M' → Z (pc + 3) lv (.int r :: st) M') : Z pc lv st0 M := by
  obtain ⟨p, e, R, s, m, args, below, meth, c, A, H0, cells, slots, Q, ⟨hx, hb, hml, hown, hts⟩, hK, hA, hG, hX, hNW, hbl, hbA, hF, hL, hc, hs, rfl⟩ := h
  intro H locs ls hP hS hl
  refine va_calli (va_runS (As := As) (rest := st) ⟨hx, hb, hml, hown, hts⟩ hM (va_cwS n hts hT hw rfl rfl hd ⟨Nat.le_trans hR.1 hF, Nat.le_trans hR.2 hL⟩) ⟨world_blind, fun U hU hW => ⟨rfl, world_of hP hK hX hbl hbA hNW hS hU hW⟩⟩ rfl hn hl.1 hst (lv_room hrm) d ⟨hc, hs⟩) hS (fun q _ h => hA q h) (fun q h => hA q h) (fun r M' t H1 locs1 ht hvm hw hB hz1 hk1 hS1 => ?_)
  obtain ⟨hP1, -⟩ := hB
  rw [ht] at hP1
  exact kk r M' hw H1 locs1 ls hP1 hS1 hl
theorem AX.cVl (h : AX l G cc nL own Ts F Lc Z) {C : String} {y : MethodName} {ws ws' : List Cond} {ix n maxL F1 L1 : Nat} {bytes : ByteArray} {ret : Option FieldType} {P : Int64 → Mem → Prop} (As : List Value) (key : KY) (st : List Value) {ci fs q} (hM : CTl l G y ws F1 L1 (.ref (gA G key) :: As) M P) (hT : GoodIn Ts (wsV own ix C y ws)) (hw : ws = Cond.code y bytes maxL ret :: ws') (hd : y.cls = C ∧ y.cls ≠ "java/lang/invoke/MethodHandle" ∧ y.cls ≠ "java/lang/invoke/VarHandle" ∧ (parseMethodDescriptor y.desc).map (fun d => d.parameters.length) = some n) (hR : F1 + 1 ≤ F ∧ 8 + (maxL + 11) + L1 ≤ Lc) (hk : key ∈ KS G) (he : ct G M key = .inr (ci, fs)) (hc9 : vwCl[ci]? = some q) (hq9 : q.1 = C) (hn : As.length = n) {st0 : List Value} (hst : st0 = As.reverse ++ .ref (gA G key) :: st) (hrm : (st.map fun v => v.category).sum ≤ 8) (d : decode cc pc = .ok (.invokevirtual ix, 3)) (kk : ∀ (r : Int64) (M' : Mem), P r M' → Z (pc + 3) lv (.long r :: st) M') : Z pc lv st0 M := by
  obtain ⟨p, e, R, s, m, args, below, meth, c, A, H0, cells, slots, Q, ⟨hx, hb, hml, hown, hts⟩, hK, hA, hG, hX, hNW, hbl, hbA, hF, hL, hc, hs, rfl⟩ := h
  intro H locs ls hP hS hl
  obtain ⟨q9, -, hq⟩ := WL_at (G := G) (M := M) hk
  rw [he] at hq
  have hrecv := va_recv hK hP hc9 hq
  rw [hq9] at hrecv
  refine va_calll (va_runV (As := As) (rest := st) ⟨hx, hb, hml, hown, hts⟩ hM (cwV n hts hT hw rfl rfl hd ⟨Nat.le_trans hR.1 hF, Nat.le_trans hR.2 hL⟩) ⟨world_blind, hrecv, fun U hU hW => ⟨rfl, world_of hP hK hX hbl hbA hNW hS hU hW⟩⟩ rfl hn hl.1 hst (lv_room hrm) d ⟨hc, hs⟩) hS (fun q _ h => hA q h) (fun q h => hA q h) (fun r M' t H1 locs1 ht hvm hw hB hz1 hk1 hS1 => ?_)
  obtain ⟨hP1, -⟩ := hB
  rw [ht] at hP1
  exact kk r M' hw H1 locs1 ls hP1 hS1 hl
theorem AX.cSl (h : AX l G cc nL own Ts F Lc Z) {y : MethodName} {ws ws' : List Cond} {ix n maxL F1 L1 : Nat} {bytes : ByteArray} {ret : Option FieldType} {P : Int64 → Mem → Prop} (As : List Value) (st : List Value) (hM : CTl l G y ws F1 L1 As M P) (hT : GoodIn Ts (va_wsS own ix y ws)) (hw : ws = Cond.code y bytes maxL ret :: ws') (hd : y.cls ≠ "java/lang/invoke/MethodHandle" ∧ y.cls ≠ "java/lang/invoke/VarHandle" ∧ (parseMethodDescriptor y.desc).map (fun d => d.parameters.length) = some n) (hR : F1 + 1 ≤ F ∧ 8 + (maxL + 11) + L1 ≤ Lc) (hn : As.length = n) {st0 : List Value} (hst : st0 = As.reverse ++ st) (hrm : (st.map fun v => v.category).sum ≤ 8) (d : decode cc pc = .ok (.invokestatic ix, 3)) (kk : ∀ (r : Int64) (M' : Mem), P r M' → Z (pc + 3) lv (.long r :: st) M') : Z pc lv st0 M := by
  obtain ⟨p, e, R, s, m, args, below, meth, c, A, H0, cells, slots, Q, ⟨hx, hb, hml, hown, hts⟩, hK, hA, hG, hX, hNW, hbl, hbA, hF, hL, hc, hs, rfl⟩ := h
  intro H locs ls hP hS hl
  refine va_calll (va_runS (As := As) (rest := st) ⟨hx, hb, hml, hown, hts⟩ hM (va_cwS n hts hT hw rfl rfl hd ⟨Nat.le_trans hR.1 hF, Nat.le_trans hR.2 hL⟩) ⟨world_blind, fun U hU hW => ⟨rfl, world_of hP hK hX hbl hbA hNW hS hU hW⟩⟩ rfl hn hl.1 hst (lv_room hrm) d ⟨hc, hs⟩) hS (fun q _ h => hA q h) (fun q h => hA q h) (fun r M' t H1 locs1 ht hvm hw hB hz1 hk1 hS1 => ?_)
  obtain ⟨hP1, -⟩ := hB
  rw [ht] at hP1
  exact kk r M' hw H1 locs1 ls hP1 hS1 hl
theorem AX.cVv (h : AX l G cc nL own Ts F Lc Z) {C : String} {y : MethodName} {ws ws' : List Cond} {ix n maxL F1 L1 : Nat} {bytes : ByteArray} {ret : Option FieldType} {P : Mem → Prop} (As : List Value) (key : KY) (st : List Value) {ci fs q} (hM : CTv l G y ws F1 L1 (.ref (gA G key) :: As) M P) (hT : GoodIn Ts (wsV own ix C y ws)) (hw : ws = Cond.code y bytes maxL ret :: ws') (hd : y.cls = C ∧ y.cls ≠ "java/lang/invoke/MethodHandle" ∧ y.cls ≠ "java/lang/invoke/VarHandle" ∧ (parseMethodDescriptor y.desc).map (fun d => d.parameters.length) = some n) (hR : F1 + 1 ≤ F ∧ 8 + (maxL + 11) + L1 ≤ Lc) (hk : key ∈ KS G) (he : ct G M key = .inr (ci, fs)) (hc9 : vwCl[ci]? = some q) (hq9 : q.1 = C) (hn : As.length = n) {st0 : List Value} (hst : st0 = As.reverse ++ .ref (gA G key) :: st) (hrm : (st.map fun v => v.category).sum ≤ 8) (d : decode cc pc = .ok (.invokevirtual ix, 3)) (kk : ∀ M' : Mem, P M' → Z (pc + 3) lv st M') : Z pc lv st0 M := by
  obtain ⟨p, e, R, s, m, args, below, meth, c, A, H0, cells, slots, Q, ⟨hx, hb, hml, hown, hts⟩, hK, hA, hG, hX, hNW, hbl, hbA, hF, hL, hc, hs, rfl⟩ := h
  intro H locs ls hP hS hl
  obtain ⟨q9, -, hq⟩ := WL_at (G := G) (M := M) hk
  rw [he] at hq
  have hrecv := va_recv hK hP hc9 hq
  rw [hq9] at hrecv
  refine va_callv (va_runV (As := As) (rest := st) ⟨hx, hb, hml, hown, hts⟩ hM (cwV n hts hT hw rfl rfl hd ⟨Nat.le_trans hR.1 hF, Nat.le_trans hR.2 hL⟩) ⟨world_blind, hrecv, fun U hU hW => ⟨rfl, world_of hP hK hX hbl hbA hNW hS hU hW⟩⟩ rfl hn hl.1 hst (lv_room hrm) d ⟨hc, hs⟩) hS (fun q _ h => hA q h) (fun q h => hA q h) (fun M' t H1 locs1 ht hvm hw hB hz1 hk1 hS1 => ?_)
  obtain ⟨hP1, -⟩ := hB
  rw [ht] at hP1
  exact kk M' hw H1 locs1 ls hP1 hS1 hl
theorem AX.cSv (h : AX l G cc nL own Ts F Lc Z) {y : MethodName} {ws ws' : List Cond} {ix n maxL F1 L1 : Nat} {bytes : ByteArray} {ret : Option FieldType} {P : Mem → Prop} (As : List Value) (st : List Value) (hM : CTv l G y ws F1 L1 As M P) (hT : GoodIn Ts (va_wsS own ix y ws)) (hw : ws = Cond.code y bytes maxL ret :: ws') (hd : y.cls ≠ "java/lang/invoke/MethodHandle" ∧ y.cls ≠ "java/lang/invoke/VarHandle" ∧ (parseMethodDescriptor y.desc).map (fun d => d.parameters.length) = some n) (hR : F1 + 1 ≤ F ∧ 8 + (maxL + 11) + L1 ≤ Lc) (hn : As.length = n) {st0 : List Value} (hst : st0 = As.reverse ++ st) (hrm : (st.map fun v => v.category).sum ≤ 8) (d : decode cc pc = .ok (.invokestatic ix, 3)) (kk : ∀ M' : Mem, P M' → Z (pc + 3) lv st M') : Z pc lv st0 M := by
  obtain ⟨p, e, R, s, m, args, below, meth, c, A, H0, cells, slots, Q, ⟨hx, hb, hml, hown, hts⟩, hK, hA, hG, hX, hNW, hbl, hbA, hF, hL, hc, hs, rfl⟩ := h
  intro H locs ls hP hS hl
  refine va_callv (va_runS (As := As) (rest := st) ⟨hx, hb, hml, hown, hts⟩ hM (va_cwS n hts hT hw rfl rfl hd ⟨Nat.le_trans hR.1 hF, Nat.le_trans hR.2 hL⟩) ⟨world_blind, fun U hU hW => ⟨rfl, world_of hP hK hX hbl hbA hNW hS hU hW⟩⟩ rfl hn hl.1 hst (lv_room hrm) d ⟨hc, hs⟩) hS (fun q _ h => hA q h) (fun q h => hA q h) (fun M' t H1 locs1 ht hvm hw hB hz1 hk1 hS1 => ?_)
  obtain ⟨hP1, -⟩ := hB
  rw [ht] at hP1
  exact kk M' hw H1 locs1 ls hP1 hS1 hl
theorem AX.cVr (h : AX l G cc nL own Ts F Lc Z) {C : String} {y : MethodName} {ws ws' : List Cond} {ix n maxL F1 L1 : Nat} {bytes : ByteArray} {ret : Option FieldType} {P : Nat → Mem → Prop} (As : List Value) (key : KY) (st : List Value) {ci fs q} (hM : CTr l G y ws F1 L1 (.ref (gA G key) :: As) M P) (hT : GoodIn Ts (wsV own ix C y ws)) (hw : ws = Cond.code y bytes maxL ret :: ws') (hd : y.cls = C ∧ y.cls ≠ "java/lang/invoke/MethodHandle" ∧ y.cls ≠ "java/lang/invoke/VarHandle" ∧ (parseMethodDescriptor y.desc).map (fun d => d.parameters.length) = some n) (hR : F1 + 1 ≤ F ∧ 8 + (maxL + 11) + L1 ≤ Lc) (hk : key ∈ KS G) (he : ct G M key = .inr (ci, fs)) (hc9 : vwCl[ci]? = some q) (hq9 : q.1 = C) (hn : As.length = n) {st0 : List Value} (hst : st0 = As.reverse ++ .ref (gA G key) :: st) (hrm : (st.map fun v => v.category).sum ≤ 8) (d : decode cc pc = .ok (.invokevirtual ix, 3)) (kk : ∀ (r : Nat) (M' : Mem), r < 5 → P r M' → Z (pc + 3) lv (.ref (gA G (3, r, 0)) :: st) M') : Z pc lv st0 M := by
  obtain ⟨p, e, R, s, m, args, below, meth, c, A, H0, cells, slots, Q, ⟨hx, hb, hml, hown, hts⟩, hK, hA, hG, hX, hNW, hbl, hbA, hF, hL, hc, hs, rfl⟩ := h
  intro H locs ls hP hS hl
  obtain ⟨q9, -, hq⟩ := WL_at (G := G) (M := M) hk
  rw [he] at hq
  have hrecv := va_recv hK hP hc9 hq
  rw [hq9] at hrecv
  refine va_callr (va_runV (As := As) (rest := st) ⟨hx, hb, hml, hown, hts⟩ hM (cwV n hts hT hw rfl rfl hd ⟨Nat.le_trans hR.1 hF, Nat.le_trans hR.2 hL⟩) ⟨world_blind, hrecv, fun U hU hW => ⟨rfl, world_of hP hK hX hbl hbA hNW hS hU hW⟩⟩ rfl hn hl.1 hst (lv_room hrm) d ⟨hc, hs⟩) hS (fun q _ h => hA q h) (fun q h => hA q h) (fun u ra t H1 locs1 ht hvm hw hB hz1 hk1 hS1 => ?_)
  obtain ⟨rfl, hP1, -⟩ := hB
  rw [ht] at hP1
  exact kk u.1 u.2 hw.1 hw.2 H1 locs1 ls hP1 hS1 hl
theorem AX.cSr (h : AX l G cc nL own Ts F Lc Z) {y : MethodName} {ws ws' : List Cond} {ix n maxL F1 L1 : Nat} {bytes : ByteArray} {ret : Option FieldType} {P : Nat → Mem → Prop} (As : List Value) (st : List Value) (hM : CTr l G y ws F1 L1 As M P) (hT : GoodIn Ts (va_wsS own ix y ws)) (hw : ws = Cond.code y bytes maxL ret :: ws') (hd : y.cls ≠ "java/lang/invoke/MethodHandle" ∧ y.cls ≠ "java/lang/invoke/VarHandle" ∧ (parseMethodDescriptor y.desc).map (fun d => d.parameters.length) = some n) (hR : F1 + 1 ≤ F ∧ 8 + (maxL + 11) + L1 ≤ Lc) (hn : As.length = n) {st0 : List Value} (hst : st0 = As.reverse ++ st) (hrm : (st.map fun v => v.category).sum ≤ 8) (d : decode cc pc = .ok (.invokestatic ix, 3)) (kk : ∀ (r : Nat) (M' : Mem), r < 5 → P r M' → Z (pc + 3) lv (.ref (gA G (3, r, 0)) :: st) M') : Z pc lv st0 M := by
  obtain ⟨p, e, R, s, m, args, below, meth, c, A, H0, cells, slots, Q, ⟨hx, hb, hml, hown, hts⟩, hK, hA, hG, hX, hNW, hbl, hbA, hF, hL, hc, hs, rfl⟩ := h
  intro H locs ls hP hS hl
  refine va_callr (va_runS (As := As) (rest := st) ⟨hx, hb, hml, hown, hts⟩ hM (va_cwS n hts hT hw rfl rfl hd ⟨Nat.le_trans hR.1 hF, Nat.le_trans hR.2 hL⟩) ⟨world_blind, fun U hU hW => ⟨rfl, world_of hP hK hX hbl hbA hNW hS hU hW⟩⟩ rfl hn hl.1 hst (lv_room hrm) d ⟨hc, hs⟩) hS (fun q _ h => hA q h) (fun q h => hA q h) (fun u ra t H1 locs1 ht hvm hw hB hz1 hk1 hS1 => ?_)
  obtain ⟨rfl, hP1, -⟩ := hB
  rw [ht] at hP1
  exact kk u.1 u.2 hw.1 hw.2 H1 locs1 ls hP1 hS1 hl
theorem AX.slen (h : AX l G cc nL own Ts F Lc Z) (d : decode cc pc = .ok (.arraylength, 1)) (k : Z (pc + 1) lv (.int (nI (gL G)) :: st) M) : Z pc lv (.ref (gB G) :: st) M := by
  obtain ⟨p, e, R, s, m, args, below, meth, c, A, H0, cells, slots, Q, ⟨hx, hb, hml, hown, hts⟩, hK, hA, hG, hX, hNW, hbl, hbA, hF, hL, hc, hs, rfl⟩ := h
  intro H locs ls hP hS hl
  exact va_slen hx hb hX hbl hbA hS d (k H locs ls hP hS hl)
theorem AX.sld (h : AX l G cc nL own Ts F Lc Z) {ix : Int32} (hin : vp_in ix (gL G)) (d : decode cc pc = .ok (.iaload, 1)) (k : Z (pc + 1) lv (.int (gS G ix.toNatClampNeg) :: st) M) : Z pc lv (.int ix :: .ref (gB G) :: st) M := by
  obtain ⟨p, e, R, s, m, args, below, meth, c, A, H0, cells, slots, Q, ⟨hx, hb, hml, hown, hts⟩, hK, hA, hG, hX, hNW, hbl, hbA, hF, hL, hc, hs, rfl⟩ := h
  intro H locs ls hP hS hl
  exact va_sld hx hb hX hbl hbA hS hin d (k H locs ls hP hS hl)
end AXR
theorem CTi_mk {l : Launch} {G : GG} {y : MethodName} {cc : ByteArray} {nL : Nat} {ws ws' : List Cond} {F1 L1 : Nat} {args : List Value} {M : Mem} {P : Int32 → Mem → Prop} (hG : GoodG G) (hy : plainName y.cls = true) (hw : ws = Cond.code y cc nL (some .int) :: ws') (hn : (lg_sl args).length ≤ nL) (body : ∀ Z : ZT, AX l G cc nL y.cls ws F1 L1 Z → RETi cc P Z → Z 0 (lv_args 0 args) [] M) : CTi l G y ws F1 L1 args M P := by
  refine Met.ofW (cc := cc) (maxL := nL) (ret := (some .int)) hy hw ?_
  intro p e s m args' below meth c s₁ B hml hv
  obtain ⟨rfl, hP, hK, hX, hNW⟩ := hv
  have hx := B.exec
  have hb := B.bytes
  have hr := B.returns
  have hts := atoms_spec (ws := ws) B.pre
  have hown : s.vm.findClass y.cls = some m.cls := findClass_of_methodNamed B.named
  have hlocks := B.notSynchronized
  have hbl : gB G < s.heap.size := by
    obtain ⟨scr, h1, -⟩ := hX
    exact (Array.getElem?_eq_some_iff.mp h1).1
  have hbA : ¬ AG G (gB G) := fun ⟨k, h1, h2⟩ => hG.2.2 k h1 h2
  have hl := lv_entry args (n := nL) hn
  rw [lg_entry_eq]
  refine body (ZZ p l e (headSpec ws (rmv F1 L1)).room s m args.toArray below meth c G (AG G) s.heap nL 0 0 _) ⟨p, e, _, s, m, _, below, meth, c, AG G, s.heap, 0, 0, _, ⟨hx, hb, hml, hown, hts⟩, hK, fun _ h => h, hG, hX, hNW, hbl, hbA, Nat.le_refl _, Nat.le_refl _, Nat.zero_le _, Nat.zero_le _, rfl⟩ ?_ s.heap [] _ hP va_S.rf hl
  intro pc lv r M' d hp H locs ls hP hS hl
  exact W.iret hx hb hr (fun t ht hW => ⟨⟨r, M', rfl, hp, world_of hP hK hX hbl hbA hNW hS ht hW⟩, hS.F ht⟩) hS.2.2 d
theorem CTz_mk {l : Launch} {G : GG} {y : MethodName} {cc : ByteArray} {nL : Nat} {ws ws' : List Cond} {F1 L1 : Nat} {args : List Value} {M : Mem} {P : Int32 → Mem → Prop} (hG : GoodG G) (hy : plainName y.cls = true) (hw : ws = Cond.code y cc nL (some .boolean) :: ws') (hn : (lg_sl args).length ≤ nL) (body : ∀ Z : ZT, AX l G cc nL y.cls ws F1 L1 Z → RETz cc P Z → Z 0 (lv_args 0 args) [] M) : CTi l G y ws F1 L1 args M P := by
  refine Met.ofW (cc := cc) (maxL := nL) (ret := (some .boolean)) hy hw ?_
  intro p e s m args' below meth c s₁ B hml hv
  obtain ⟨rfl, hP, hK, hX, hNW⟩ := hv
  have hx := B.exec
  have hb := B.bytes
  have hr := B.returns
  have hts := atoms_spec (ws := ws) B.pre
  have hown : s.vm.findClass y.cls = some m.cls := findClass_of_methodNamed B.named
  have hlocks := B.notSynchronized
  have hbl : gB G < s.heap.size := by
    obtain ⟨scr, h1, -⟩ := hX
    exact (Array.getElem?_eq_some_iff.mp h1).1
  have hbA : ¬ AG G (gB G) := fun ⟨k, h1, h2⟩ => hG.2.2 k h1 h2
  have hl := lv_entry args (n := nL) hn
  rw [lg_entry_eq]
  refine body (ZZ p l e (headSpec ws (rmv F1 L1)).room s m args.toArray below meth c G (AG G) s.heap nL 0 0 _) ⟨p, e, _, s, m, _, below, meth, c, AG G, s.heap, 0, 0, _, ⟨hx, hb, hml, hown, hts⟩, hK, fun _ h => h, hG, hX, hNW, hbl, hbA, Nat.le_refl _, Nat.le_refl _, Nat.zero_le _, Nat.zero_le _, rfl⟩ ?_ s.heap [] _ hP va_S.rf hl
  intro pc lv r M' d hz hp H locs ls hP hS hl
  exact W.zret hx hb hr (zb_narrow hz) (fun t ht hW => ⟨⟨r, M', rfl, hp, world_of hP hK hX hbl hbA hNW hS ht hW⟩, hS.F ht⟩) hS.2.2 d
theorem CTl_mk {l : Launch} {G : GG} {y : MethodName} {cc : ByteArray} {nL : Nat} {ws ws' : List Cond} {F1 L1 : Nat} {args : List Value} {M : Mem} {P : Int64 → Mem → Prop} (hG : GoodG G) (hy : plainName y.cls = true) (hw : ws = Cond.code y cc nL (some .long) :: ws') (hn : (lg_sl args).length ≤ nL) (body : ∀ Z : ZT, AX l G cc nL y.cls ws F1 L1 Z → RETl cc P Z → Z 0 (lv_args 0 args) [] M) : CTl l G y ws F1 L1 args M P := by
  refine Met.ofW (cc := cc) (maxL := nL) (ret := (some .long)) hy hw ?_
  intro p e s m args' below meth c s₁ B hml hv
  obtain ⟨rfl, hP, hK, hX, hNW⟩ := hv
  have hx := B.exec
  have hb := B.bytes
  have hr := B.returns
  have hts := atoms_spec (ws := ws) B.pre
  have hown : s.vm.findClass y.cls = some m.cls := findClass_of_methodNamed B.named
  have hlocks := B.notSynchronized
  have hbl : gB G < s.heap.size := by
    obtain ⟨scr, h1, -⟩ := hX
    exact (Array.getElem?_eq_some_iff.mp h1).1
  have hbA : ¬ AG G (gB G) := fun ⟨k, h1, h2⟩ => hG.2.2 k h1 h2
  have hl := lv_entry args (n := nL) hn
  rw [lg_entry_eq]
  refine body (ZZ p l e (headSpec ws (rmv F1 L1)).room s m args.toArray below meth c G (AG G) s.heap nL 0 0 _) ⟨p, e, _, s, m, _, below, meth, c, AG G, s.heap, 0, 0, _, ⟨hx, hb, hml, hown, hts⟩, hK, fun _ h => h, hG, hX, hNW, hbl, hbA, Nat.le_refl _, Nat.le_refl _, Nat.zero_le _, Nat.zero_le _, rfl⟩ ?_ s.heap [] _ hP va_S.rf hl
  intro pc lv r M' d hp H locs ls hP hS hl
  exact W.lret hx hb hr (fun t ht hW => ⟨⟨r, M', rfl, hp, world_of hP hK hX hbl hbA hNW hS ht hW⟩, hS.F ht⟩) hS.2.2 d
theorem CTr_mk {l : Launch} {G : GG} {y : MethodName} {cc : ByteArray} {nL : Nat} {ws ws' : List Cond} {F1 L1 : Nat} {args : List Value} {M : Mem} {P : Nat → Mem → Prop} {C : String} (hG : GoodG G) (hy : plainName y.cls = true) (hw : ws = Cond.code y cc nL (some (.object C)) :: ws') (hn : (lg_sl args).length ≤ nL) (body : ∀ Z : ZT, AX l G cc nL y.cls ws F1 L1 Z → RETr G cc P Z → Z 0 (lv_args 0 args) [] M) : CTr l G y ws F1 L1 args M P := by
  refine Met.ofW (cc := cc) (maxL := nL) (ret := (some (.object C))) hy hw ?_
  intro p e s m args' below meth c s₁ B hml hv
  obtain ⟨rfl, hP, hK, hX, hNW⟩ := hv
  have hx := B.exec
  have hb := B.bytes
  have hr := B.returns
  have hts := atoms_spec (ws := ws) B.pre
  have hown : s.vm.findClass y.cls = some m.cls := findClass_of_methodNamed B.named
  have hlocks := B.notSynchronized
  have hbl : gB G < s.heap.size := by
    obtain ⟨scr, h1, -⟩ := hX
    exact (Array.getElem?_eq_some_iff.mp h1).1
  have hbA : ¬ AG G (gB G) := fun ⟨k, h1, h2⟩ => hG.2.2 k h1 h2
  have hl := lv_entry args (n := nL) hn
  rw [lg_entry_eq]
  refine body (ZZ p l e (headSpec ws (rmv F1 L1)).room s m args.toArray below meth c G (AG G) s.heap nL 0 0 _) ⟨p, e, _, s, m, _, below, meth, c, AG G, s.heap, 0, 0, _, ⟨hx, hb, hml, hown, hts⟩, hK, fun _ h => h, hG, hX, hNW, hbl, hbA, Nat.le_refl _, Nat.le_refl _, Nat.zero_le _, Nat.zero_le _, rfl⟩ ?_ s.heap [] _ hP va_S.rf hl
  intro pc lv r M' d h5 hp H locs ls hP hS hl
  exact W.aret hx hb hr (Or.inl ⟨_, rfl⟩) (Or.inr ⟨_, rfl⟩) (fun t ht hW => ⟨⟨(r, M'), _, rfl, ⟨h5, hp⟩, rfl, world_of hP hK hX hbl hbA hNW hS ht hW⟩, hS.F ht⟩) hS.2.2 d
theorem CTv_mk {l : Launch} {G : GG} {y : MethodName} {cc : ByteArray} {nL : Nat} {ws ws' : List Cond} {F1 L1 : Nat} {args : List Value} {M : Mem} {P : Mem → Prop} (hG : GoodG G) (hy : plainName y.cls = true) (hw : ws = Cond.code y cc nL none :: ws') (hn : (lg_sl args).length ≤ nL) (body : ∀ Z : ZT, AX l G cc nL y.cls ws F1 L1 Z → RETv cc P Z → Z 0 (lv_args 0 args) [] M) : CTv l G y ws F1 L1 args M P := by
  refine Met.ofW (cc := cc) (maxL := nL) (ret := none) hy hw ?_
  intro p e s m args' below meth c s₁ B hml hv
  obtain ⟨rfl, hP, hK, hX, hNW⟩ := hv
  have hx := B.exec
  have hb := B.bytes
  have hr := B.returns
  have hts := atoms_spec (ws := ws) B.pre
  have hown : s.vm.findClass y.cls = some m.cls := findClass_of_methodNamed B.named
  have hlocks := B.notSynchronized
  have hbl : gB G < s.heap.size := by
    obtain ⟨scr, h1, -⟩ := hX
    exact (Array.getElem?_eq_some_iff.mp h1).1
  have hbA : ¬ AG G (gB G) := fun ⟨k, h1, h2⟩ => hG.2.2 k h1 h2
  have hl := lv_entry args (n := nL) hn
  rw [lg_entry_eq]
  refine body (ZZ p l e (headSpec ws (rmv F1 L1)).room s m args.toArray below meth c G (AG G) s.heap nL 0 0 _) ⟨p, e, _, s, m, _, below, meth, c, AG G, s.heap, 0, 0, _, ⟨hx, hb, hml, hown, hts⟩, hK, fun _ h => h, hG, hX, hNW, hbl, hbA, Nat.le_refl _, Nat.le_refl _, Nat.zero_le _, Nat.zero_le _, rfl⟩ ?_ s.heap [] _ hP va_S.rf hl
  intro pc lv M' d hp H locs ls hP hS hl
  exact W.vret hx hb hr (fun t ht hW => ⟨⟨M', rfl, hp, world_of hP hK hX hbl hbA hNW hS ht hW⟩, hS.F ht⟩) hS.2.2 d
