/-! THE CLAIM OUT OF ONE WALK OF THE LAW'S BODY. Your part is whole_start (and what it stands on); all else here is the same for every law, but numbers. -/
def R_law : String := "TableWrightLaw"
def lw_P (b : Addr) (xs : List Int32) (args : Array Value) (s : State) : Prop := args = #[.ref b] ∧ s.IntsAt b xs ∧ xs.length ≤ 260 ∧ (Jvm.Cond.and given_1 narrow_1).before args s = true
def lw_Q (_ : Array Value) (s : State) (o : Outcome) (t : State) : Prop := o = .returned (some (.int 1)) ∧ Framed s o t [] 600104 7301314
def lw_Z (below : List Frame) (a : Array Value) (s : State) : State → Prop := fun t => ∃ o, t.status = .running ∧ Ended t below o ∧ lw_Q a s o t
/-- the law's own end, with 1 on the stack, nothing written that was there before, its room as the claim has it -/
theorem lw_ret {p : Program} {l : Launch} {e : Env} {s : State} {m : MethodId} {below : List Frame} {meth : Method} {c : Code} {b : Nat} (hx : p.tables.exec = Jvm.exec) (hb : c.code = code) (hr : meth.sig.returnType = ret) (hlocks : meth.locks = false) {pc : Nat} {H : Heap} {ls : Array Slot} (hdg : decode code pc = .ok (.ireturn, 1)) : W p l e room_1 s m #[Value.ref b] below meth c H [] 600104 7301314 (lw_Z below #[Value.ref b] s) (F0 m pc ls [.int 1]) := by
  intro T hT X
  obtain ⟨fs, hret, hrun, hended, hW, hframe⟩ := X.leave (v := some (.int 1)) (hlocks := hlocks) (fun h => by rw [hr] at h; cases h)
  have hmeth' : T.vm.method? m = some meth := X.method'
  refine ⟨T.setFrames fs, ?_, .returned (some (.int 1)), hrun, hended, rfl, ⟨_, rfl⟩, hW, hframe⟩
  jvm_step X.here [X.here.top, hx, hb, hdg, hmeth', hr, ret, narrow_b1]
  (try refine ⟨rfl, ?_⟩); (try refine ⟨rfl, ?_⟩)
  first | (intro acts; rw [hret _ acts rfl rfl rfl]) | rw [hret _ _ rfl rfl rfl]
  exact Steps.refl _
/-- what holds at the law's entry: the machine, the code, the tables' words (any of lw_tbl by 'hts w (by decide +kernel)'), the script of L ints xs at the cell b, what the Statement gives of the start (any of its parts by flat_of_before) -/
def lw_At (p : Program) (s : State) (m : MethodId) (meth : Method) (c : Code) (b L : Nat) (xs : Nat → Int32) : Prop :=
  p.tables.exec = Jvm.exec ∧ c.code = code ∧ meth.sig.returnType = ret ∧ c.maxLocals = 17 ∧ s.vm.findClass R_law = some m.cls ∧ (∀ w ∈ lw_tbl, w.before #[Value.ref b] s = true) ∧ va_X b L xs s s.heap ∧ b < s.heap.size ∧ meth.locks = false ∧ (Jvm.Cond.and given_1 narrow_1).before #[Value.ref b] s = true
-- ===== YOUR PART BEGINS =====
set_option maxHeartbeats 4000000 in
set_option maxRecDepth 100000 in
/-- YOUR PART: from the entry, for every script of at most 260 ints, the law comes to its end with true ('hflags': the launch's flags, for a law that throws: no stack traces) -/
theorem whole_start {p : Program} {e : Env} {s : State} {m : MethodId} {below : List Frame} {meth : Method} {c : Code} (l : Launch) (hflags : l.flags = flags0) {b L : Nat} {xs : Nat → Int32} (hL : L ≤ 260) (C0 : lw_At p s m meth c b L xs) : W p l e room_1 s m #[Value.ref b] below meth c s.heap [] 0 0 (lw_Z below #[Value.ref b] s) (entryFrame m ([Value.ref b] : List Value).toArray 17) := by
  obtain ⟨hx, hb, hr, hml, hown, hts0, hX, hbl, hlocks, hgv⟩ := id C0
  have hts : ∀ w ∈ wsL_law, w.before #[Value.ref b] s = true := fun w h => hts0 w (wsL_law_in w h)
  obtain ⟨K, hK⟩ : ∃ K : KK, va_K K.1 vwCl (TYK K) s := by
    obtain ⟨c0, i0, k0⟩ := u_known (C := RX0) (T := TX0) (N := 14) (n := 14) hts0 inX0 (hts _ li0)
    obtain ⟨c1, i1, k1⟩ := u_known (C := RX1) (T := TX1) (N := 8) (n := 8) hts0 inX1 (hts _ li1)
    obtain ⟨c2, i2, k2⟩ := u_known (C := RX2) (T := TX2) (N := 3) (n := 3) hts0 inX2 (hts _ li2)
    obtain ⟨c3, i3, k3⟩ := u_known (C := RX3) (T := TX3) (N := 9) (n := 9) hts0 inX3 (hts _ li3)
    obtain ⟨c4, i4, k4⟩ := u_known (C := RX4) (T := TX4) (N := 8) (n := 8) hts0 inX4 (hts _ li4)
    obtain ⟨cI, kI, pI, a1, a2, a3⟩ := Cond.arrayClass_spec (hts _ laI)
    obtain ⟨cZ, kZ, pZ, b1, b2, b3⟩ := Cond.arrayClass_spec (hts _ laZ)
    obtain ⟨pR, cR, kR, f1, f2, f3, f4, f5⟩ := Cond.arrayOver_spec (hts0 _ ao_in)
    refine ⟨((fun k => [c0, c1, c2, c3, c4].getD k c0, fun k => [i0, i1, i2, i3, i4].getD k i0), (cI, cZ, cR)), fun k q hq => ?_, fun k q hk => ?_⟩
    · match k, hq with
      | 0, hq => cases hq; exact k0
      | 1, hq => cases hq; exact k1
      | 2, hq => cases hq; exact k2
      | 3, hq => cases hq; exact k3
      | 4, hq => cases hq; exact k4
      | k + 5, hq => simp [vwCl] at hq
    · match k, hk with
      | 0, hk => cases hk; exact ⟨fun n z => ⟨fun k h => (by cases h), kI, a2, pI, a3⟩, a1⟩
      | 1, hk => cases hk; exact ⟨fun n z => ⟨fun k h => (by cases h), kZ, b2, pZ, b3⟩, b1⟩
      | 2, hk => cases hk; exact ⟨fun n z => ⟨fun k h => (by cases h), kR, f3, pR, f4⟩, kR, pR, f3, f4, f1, f5⟩
      | k + 3, hk => simp at hk
  have hNM : NM s := ⟨fun q hq => va_Nw.of (A := #[Value.ref b]) rfl (hts0 _ (nml_in q hq)), va_AO.of (A := #[Value.ref b]) (hts0 _ ao_in)⟩
  have hNW : NW s := fun q hq => va_Nw.of (A := #[Value.ref b]) rfl (hts0 _ (nwf_in q hq))
  have hA : ∀ q : Nat, s.heap.size ≤ q → AA s q := fun _ h => h
  have hbA : ¬ AA s b := Nat.not_le.mpr hbl
  have hl := lv_entry ([.ref b] : List Value) (n := 17) (Nat.le_of_ble_eq_true rfl)
  rw [lg_entry_eq]
  generalize (lg_sl ([.ref b]) ++ List.replicate (17 - (lg_sl ([.ref b])).length) Slot.unset).toArray = ls at hl ⊢
  have hl : lv_has ls 17 [(0, .ref b)] := hl
  have mk : ∀ (G : GG) (M : Mem) (cs sl : Nat), va_K (gD G) vwCl (TY G) s → va_X (gB G) (gL G) (gS G) s s.heap → gB G = b → va_D (AA s) (WL G M) → (KS G).Nodup → cs ≤ 600104 → sl ≤ 7301314 → GoodG G ∧ AX l G cL_law 17 RL wsL_law F_L_law L_L_law (ZZ p l e room_1 s m #[Value.ref b] below meth c G (AA s) s.heap 17 cs sl (lw_Z below #[Value.ref b] s)) := fun G M cs sl h1 h2 h3 h4 h5 h6 h7 => by
    have hg : GoodG G := GoodG_of h4 h5 (by rw [h3]; exact hbA)
    exact ⟨hg, p, e, room_1, s, m, _, below, meth, c, AA s, s.heap, cs, sl, _, ⟨hx, hb, hml, hown, hts⟩, h1, AG_of h4, hg, h2, hNW, by rw [h3]; exact hbl, by rw [h3]; exact hbA, (by decide +kernel), (by decide +kernel), h6, h7, rfl⟩
  have ret9 : ∀ (G : GG) (cs sl : Nat), cs ≤ 600104 → sl ≤ 7301314 → RETz cL_law (fun r _ => r = 1) (ZZ p l e room_1 s m #[Value.ref b] below meth c G (AA s) s.heap 17 cs sl (lw_Z below #[Value.ref b] s)) := fun G cs sl h1 h2 pc lv r M d hz hr1 H locs ls hP hS hl => by
    subst hr1
    refine va_forget hS.2.2 ?_
    refine W.widen (k := 600104) (n := 7301314) h1 h2 ?_
    exact lw_ret hx hb hr hlocks d
  have hB : BX l K cL_law 17 RL wsL_law 12 468 600104 7301314 (ZY p l e room_1 s m #[Value.ref b] below meth c K (AA s) s.heap 17 (lw_Z below #[Value.ref b] s)) := ⟨p, e, room_1, s, m, _, below, meth, c, AA s, s.heap, _, ⟨hx, hb, hml, hown, hts⟩, hK, hNM, hA, Or.inl rfl, (by decide +kernel), (by decide +kernel), (by decide +kernel), (by decide +kernel), rfl⟩
  have start : ZY p l e room_1 s m #[Value.ref b] below meth c K (AA s) s.heap 17 (lw_Z below #[Value.ref b] s) 0 [(0, .ref b)] [] [] 0 0 := by
    refine hB.new (pc := 0) (C := RX4) (T := TX4) (N := 8) (ci := 4) [.null, .null, .int 0, .int 0, .int 0, .null, .null, .null] tyX4 tyX4_ok inlX4 (by decide +kernel) (by decide +kernel) (by decide +kernel) rfl (fun j hj => by rcases (show j = 0 ∨ j = 1 ∨ j = 2 ∨ j = 3 ∨ j = 4 ∨ j = 5 ∨ j = 6 ∨ j = 7 by omega) with rfl | rfl | rfl | rfl | rfl | rfl | rfl | rfl <;> rfl) (by decide) (by decide) dL_law_0 (fun q => ?_)
    refine hB.dup (pc := 3) dL_law_3 rfl ?_
    refine hB.callP (pc := 4) (n_X4_init l K) gL_law_X4_init rfl (by decide +kernel) (by decide +kernel) (by decide +kernel) rfl (by decide +kernel) (by decide) (by decide) (by decide) (Nat.le_of_ble_eq_true rfl) dL_law_4 (fun u => ?_)
    refine hB.astore_n (pc := 7) [(1, .ref q), (0, .ref b)] dL_law_7 rfl (by decide) rfl ?_
    intro H locs ls hP hD hS hl
    obtain ⟨j0, hj0, ej0⟩ : ∃ j : Nat, j < 4 ∧ (((if (0 : Int32) < nI L then xs (0 : Int32).toNatClampNeg else 790386105 * (0 + 3)) &&& 2147483647) - ((if (0 : Int32) < nI L then xs (0 : Int32).toNatClampNeg else 790386105 * (0 + 3)) &&& 2147483647) / 4 * 4) = nI j := by
      generalize (if (0 : Int32) < nI L then xs (0 : Int32).toNatClampNeg else 790386105 * (0 + 3)) = x
      obtain ⟨j, hj, e⟩ := pk_andE x (m := 2147483647) 31 (by decide)
      rw [e]
      exact ⟨j % 4, Nat.mod_lt _ (by decide), pk_rem (d := 4) hj (by decide) (by decide)⟩
    have eT : [] ++ tabW K q u = TK.map (F2 (G0f K j0 b L xs q u)) := tab_eq
    have hP0 : va_P (gD (G0f K j0 b L xs q u)) vwCl (WL (G0f K j0 b L xs q u) M0) H := WL_P rfl hP eT rfl
    have hD0 : va_D (AA s) (WL (G0f K j0 b L xs q u) M0) := WL_D0 hD eT rfl
    have hn0 : (KS (G0f K j0 b L xs q u)).Nodup := by
      show (KS0 ++ []).Nodup
      rw [List.append_nil]; exact KS0_nodup
    have hnew0 : ∀ k ∈ KS (G0f K j0 b L xs q u), k.1 ≠ 27 := ne_a (by decide) (fun k hk => absurd hk List.not_mem_nil)
    obtain ⟨good0, hA0⟩ := mk (G0f K j0 b L xs q u) M0 489 4854 hK hX rfl hD0 hn0 (by decide) (by decide)
    refine (?_ : ZZ p l e room_1 s m #[Value.ref b] below meth c (G0f K j0 b L xs q u) (AA s) s.heap 17 489 4854 (lw_Z below #[Value.ref b] s) 8 [(1, .ref q), (0, .ref b)] [] M0) H locs ls hP0 hS hl
    refine hA0.iconst (pc := 8) (v := 2) dL_law_8 (by decide) ?_
    refine hA0.aload_n (pc := 9) dL_law_9 rfl 1 rfl ?_
    refine hA0.iconst (pc := 10) (v := 0) dL_law_10 (by decide) ?_
    refine hA0.cSi (pc := 11) [.ref b, .int 0] [.int 2] (m_L_cell good0 (sc := scv (G0f K j0 b L xs q u)) (v1 := 0) (M := M0) (Q := fun r M => r = scv (G0f K j0 b L xs q u) 0 ∧ M = M0) rfl (show L < 2 ^ 31 by omega) ⟨Int32.le_refl _, rfl, rfl⟩) gL_law_L_cell rfl hd_L_cell (by decide) rfl rfl (Nat.le_of_ble_eq_true rfl) dL_law_11 (fun r1 M1 hr1 => ?_)
    obtain ⟨rfl, rfl⟩ := hr1
    refine hA0.iconst (pc := 14) (v := 4) dL_law_14 (by decide) ?_
    refine hA0.cSi (pc := 15) [.int (scv (G0f K j0 b L xs q u) 0), .int 4] [.int 2] (m_L_below good0 (v0 := scv (G0f K j0 b L xs q u) 0) (v1 := 4) (M := M0) (Q := fun r M => r = nI j0 ∧ M = M0) ⟨by decide, ej0, rfl⟩) gL_law_L_below rfl hd_L_below (by decide) rfl rfl (Nat.le_of_ble_eq_true rfl) dL_law_15 (fun r2 M2 hr2 => ?_)
    obtain ⟨rfl, rfl⟩ := hr2
    refine hA0.iadd (pc := 18) dL_law_18 ?_
    have e2 : (2 : Int32) + nI j0 = nI (2 + j0) := nI_add 2 j0
    rw [e2]
    refine hA0.istore_n (pc := 19) [(2, .int (nI (2 + j0))), (1, .ref q), (0, .ref b)] dL_law_19 rfl (by decide) rfl ?_
    refine hA0.iload_n (pc := 20) dL_law_20 rfl 0 rfl ?_
    intro H locs ls hP hS hl
    refine va_newa (atype := .boolean) (ty := .boolean) (a0 := (2 + j0, .inl (fun _ => 0))) hx hb (hts _ laZ) rfl hK hP hD0 hS hA (fun cA => rfl) (nI_pos (by omega)) (ncl (by omega)) (show (2 + j0) * 1 ≤ 536870912 by omega) (by decide +kernel) (Nat.le_trans (show 4854 + (2 + j0) ≤ 7301314 by omega) (by decide +kernel)) dL_law_21 (fun q27 cA H1 hK1 hP1 hD1 hS1 => ?_)
    have eZ : cA = K.2.2.1 := Option.some.inj ((va_nm_boolean (hK1.2 3 (cA, .boolean) rfl).2).symm.trans (va_nm_boolean (hK.2 1 (K.2.2.1, .boolean) rfl).2))
    subst eZ
    have eW1 := GE_WL (G := G0f K j0 b L xs q u) (fx := 27) (q := q27) (M := M0) (Or.inl rfl) hnew0
    have hP1 : va_P K.1 vwCl (WL (GE (G0f K j0 b L xs q u) 27 q27) M0) H1 := by rw [eW1]; exact hP1
    have hD1 : va_D (AA s) (WL (GE (G0f K j0 b L xs q u) 27 q27) M0) := by rw [eW1]; exact hD1
    have hn1 := GE_nodup (q := q27) hn0 hnew0
    obtain ⟨good1, hA1⟩ := mk (GE (G0f K j0 b L xs q u) 27 q27) M0 490 (4854 + (2 + j0)) hK hX rfl hD1 hn1 (by decide) (by omega)
    have hk27 : (27, 0, 0) ∈ KS (GE (G0f K j0 b L xs q u) 27 q27) := k_x (List.mem_append_right _ (List.mem_singleton.mpr rfl))
    refine (?_ : ZZ p l e room_1 s m #[Value.ref b] below meth c (GE (G0f K j0 b L xs q u) 27 q27) (AA s) s.heap 17 490 (4854 + (2 + j0)) (lw_Z below #[Value.ref b] s) 23 [(2, .int (nI (2 + j0))), (1, .ref q), (0, .ref b)] [.ref q27] M0) H1 locs ls hP1 hS1 hl
    refine hA1.astore_n (pc := 23) [(3, .ref q27), (2, .int (nI (2 + j0))), (1, .ref q), (0, .ref b)] dL_law_23 rfl (by decide) rfl ?_
    refine hA1.iconst (pc := 24) (v := 0) dL_law_24 (by decide) ?_
    refine hA1.istore (pc := 25) [(4, .int 0), (3, .ref q27), (2, .int (nI (2 + j0))), (1, .ref q), (0, .ref b)] dL_law_25 (by decide) rfl ?_
    refine hA1.sub (pc := 27) [4, 3, 2, 1, 0] (lv' := [(0, .ref b), (1, .ref q), (2, .int (nI (2 + j0))), (3, .ref q27), (4, .int 0)]) rfl ?_
    obtain ⟨n, hn⟩ := lawA_loop (nT := 2 + j0) (sc := scv (GE (G0f K j0 b L xs q u) 27 q27)) (k := 2 + j0) (X := fun M => LW (2 + j0) 0 40 30 M ∧ M 28 0 = (fun _ _ => 0) ∧ M 29 0 = (fun _ _ => 0)) (Q := fun r _ => r = 1) (M := M0) (by omega) rfl Tab_M0 rfl rfl (fun M' h1 h2 h3 => ⟨h1, h2, h3⟩)
    refine l_L_lawA_L27 hA1 good1 (ret9 _ _ _ (by decide) (by omega)) (2 + j0) (scv (GE (G0f K j0 b L xs q u) 27 q27)) (nI (2 + j0)) (fun v => rfl) hk27 rfl (show L < 2 ^ 31 by omega) _ (fun M1 hX1 => ?_) n 0 M0 hn
    refine hA1.bipush (pc := 91) (v := 30) dL_law_91 (by decide) ?_
    intro H locs ls hP hS hl
    have hD1' : va_D (AA s) (WL (GE (G0f K j0 b L xs q u) 27 q27) M1) := WL_D good1 (AG_of hD1)
    have hnew1 : ∀ k ∈ KS (GE (G0f K j0 b L xs q u) 27 q27), k.1 ≠ 28 := ne_a (by decide) (show ∀ k ∈ ([] ++ [(27, 0, 0)] : List KY), k.1 ≠ 28 by decide)
    refine va_newa (atype := .int) (ty := .int) (a0 := (30, .inl (fun _ => 0))) hx hb (hts _ laI) rfl hK hP hD1' hS hA (fun cA => rfl) (by decide) (by decide) (by decide) (by decide +kernel) (Nat.le_trans (show 4854 + (2 + j0) + 30 ≤ 7301314 by omega) (by decide +kernel)) dL_law_93 (fun q28 cA H1 hK1 hP1 hD1 hS1 => ?_)
    have eI : cA = K.2.1 := Option.some.inj ((va_nm_int (hK1.2 3 (cA, .int) rfl).2).symm.trans (va_nm_int (hK.2 0 (K.2.1, .int) rfl).2))
    subst eI
    have eW2 := GE_WL (G := GE (G0f K j0 b L xs q u) 27 q27) (fx := 28) (q := q28) (M := M1) (Or.inr (Or.inl rfl)) hnew1
    rw [hX1.2.1] at eW2
    have hP2 : va_P K.1 vwCl (WL (GE (GE (G0f K j0 b L xs q u) 27 q27) 28 q28) M1) H1 := by rw [eW2]; exact hP1
    have hD2 : va_D (AA s) (WL (GE (GE (G0f K j0 b L xs q u) 27 q27) 28 q28) M1) := by rw [eW2]; exact hD1
    have hn2 := GE_nodup (q := q28) hn1 hnew1
    obtain ⟨good2, hA2⟩ := mk (GE (GE (G0f K j0 b L xs q u) 27 q27) 28 q28) M1 491 (4854 + (2 + j0) + 30) hK hX rfl hD2 hn2 (by decide) (by omega)
    refine (?_ : ZZ p l e room_1 s m #[Value.ref b] below meth c (GE (GE (G0f K j0 b L xs q u) 27 q27) 28 q28) (AA s) s.heap 17 491 (4854 + (2 + j0) + 30) (lw_Z below #[Value.ref b] s) 95 [(0, .ref b), (1, .ref q), (2, .int (nI (2 + j0))), (3, .ref q27)] [.ref q28] M1) H1 locs ls hP2 hS1 hl
    refine hA2.astore (pc := 95) [(4, .ref q28), (0, .ref b), (1, .ref q), (2, .int (nI (2 + j0))), (3, .ref q27)] dL_law_95 (by decide) rfl ?_
    refine hA2.bipush (pc := 97) (v := 30) dL_law_97 (by decide) ?_
    intro H locs ls hP hS hl
    have hnew2 : ∀ k ∈ KS (GE (GE (G0f K j0 b L xs q u) 27 q27) 28 q28), k.1 ≠ 29 := ne_a (by decide) (show ∀ k ∈ (([] ++ [(27, 0, 0)]) ++ [(28, 0, 0)] : List KY), k.1 ≠ 29 by decide)
    refine va_newa (atype := .boolean) (ty := .boolean) (a0 := (30, .inl (fun _ => 0))) hx hb (hts _ laZ) rfl hK hP hD2 hS hA (fun cA => rfl) (by decide) (by decide) (by decide) (by decide +kernel) (Nat.le_trans (show 4854 + (2 + j0) + 30 + 30 ≤ 7301314 by omega) (by decide +kernel)) dL_law_99 (fun q29 cA H1 hK1 hP1 hD1 hS1 => ?_)
    have eZ : cA = K.2.2.1 := Option.some.inj ((va_nm_boolean (hK1.2 3 (cA, .boolean) rfl).2).symm.trans (va_nm_boolean (hK.2 1 (K.2.2.1, .boolean) rfl).2))
    subst eZ
    have eW3 := GE_WL (G := GE (GE (G0f K j0 b L xs q u) 27 q27) 28 q28) (fx := 29) (q := q29) (M := M1) (Or.inr (Or.inr rfl)) hnew2
    rw [hX1.2.2] at eW3
    have hP3 : va_P K.1 vwCl (WL (GE (GE (GE (G0f K j0 b L xs q u) 27 q27) 28 q28) 29 q29) M1) H1 := by rw [eW3]; exact hP1
    have hD3 : va_D (AA s) (WL (GE (GE (GE (G0f K j0 b L xs q u) 27 q27) 28 q28) 29 q29) M1) := by rw [eW3]; exact hD1
    have hn3 := GE_nodup (q := q29) hn2 hnew2
    obtain ⟨good3, hA3⟩ := mk (GE (GE (GE (G0f K j0 b L xs q u) 27 q27) 28 q28) 29 q29) M1 492 (4854 + (2 + j0) + 30 + 30) hK hX rfl hD3 hn3 (by decide) (by omega)
    have hk27' : (27, 0, 0) ∈ KS (GE (GE (GE (G0f K j0 b L xs q u) 27 q27) 28 q28) 29 q29) := k_x (List.mem_append_left _ (List.mem_append_left _ (List.mem_append_right _ (List.mem_singleton.mpr rfl))))
    have hk28 : (28, 0, 0) ∈ KS (GE (GE (GE (G0f K j0 b L xs q u) 27 q27) 28 q28) 29 q29) := k_x (List.mem_append_left _ (List.mem_append_right _ (List.mem_singleton.mpr rfl)))
    have hk29 : (29, 0, 0) ∈ KS (GE (GE (GE (G0f K j0 b L xs q u) 27 q27) 28 q28) 29 q29) := k_x (List.mem_append_right _ (List.mem_singleton.mpr rfl))
    refine (?_ : ZZ p l e room_1 s m #[Value.ref b] below meth c (GE (GE (GE (G0f K j0 b L xs q u) 27 q27) 28 q28) 29 q29) (AA s) s.heap 17 492 (4854 + (2 + j0) + 30 + 30) (lw_Z below #[Value.ref b] s) 101 [(4, .ref q28), (0, .ref b), (1, .ref q), (2, .int (nI (2 + j0))), (3, .ref q27)] [.ref q29] M1) H1 locs ls hP3 hS1 hl
    refine hA3.astore (pc := 101) [(5, .ref q29), (4, .ref q28), (0, .ref b), (1, .ref q), (2, .int (nI (2 + j0))), (3, .ref q27)] dL_law_101 (by decide) rfl ?_
    refine hA3.sub (pc := 103) [2, 3, 4, 5, 1, 0] (lv' := [(0, .ref b), (1, .ref q), (2, .int (nI (2 + j0))), (3, .ref q27), (4, .ref q28), (5, .ref q29)]) rfl ?_
    exact b_L_lawB hA3 good3 (Q := fun r _ => r = 1) (ret9 _ _ _ (by decide) (by omega)) (2 + j0) (scv (GE (GE (GE (G0f K j0 b L xs q u) 27 q27) 28 q28) 29 q29)) (nI (2 + j0)) (fun v => rfl) hk27' rfl (show L < 2 ^ 31 by omega) hk28 hk29 M1 (lawB_all rfl (by omega) hX1.1 (fun _ => rfl))
  exact start s.heap [] ls (fun k q h => by simp at h) ⟨fun i j p q h => by simp at h, fun k q h => by simp at h⟩ va_S.rf hl
-- ===== YOUR PART ENDS =====
set_option maxHeartbeats 4000000 in
theorem lw_walk (l : Launch) (hflags : l.flags = flags0) (b : Addr) (xs : List Int32) : MetFree l x (headSpec (Jvm.Cond.code x code maxLocals ret :: tables_1) room_1) (lw_P b xs) (fun _ _ _ _ _ => True) lw_Q := by
  refine MetFree.of_bodyS (code := code) (maxLocals := maxLocals) (ret := ret) (by decide) ?_ ?_
  · intro args s m h hn
    obtain ⟨meth, c, h1, h2, h3, h4, h5, h6, -, -⟩ := Cond.code_spec hn (atoms_spec (ws := Jvm.Cond.code x code maxLocals ret :: tables_1) h _ List.mem_cons_self)
    exact ⟨meth, c, h1, h2, h3, h4, h5, h6⟩
  · intro p e s m args below meth c s₁ B hml0 hP _
    obtain ⟨rfl, hx, hbd, hgv⟩ := hP
    obtain ⟨scr, harrAt, hlist, hof, hsmall⟩ := hx
    obtain ⟨hcb, hkn, -, -⟩ := State.arrayAt?_spec harrAt
    have hown : s.vm.findClass R_law = some m.cls := findClass_of_methodNamed B.named
    have hts0 : ∀ c ∈ (Jvm.Cond.code x code maxLocals ret :: tables_1), c.before #[Value.ref b] s = true := atoms_spec (ws := Jvm.Cond.code x code maxLocals ret :: tables_1) B.pre
    have hts : ∀ w ∈ lw_tbl, w.before #[Value.ref b] s = true := k2_hts_sels lw_privs (fun w hw => hts0 w (List.mem_cons_of_mem _ hw)) lw_privs_ok
    have hml : c.maxLocals = 17 := B.maxLocals_eq (hts0 _ List.mem_cons_self)
    have X₀ : Stand p l e room_1 s m #[Value.ref b] below meth c s₁ [] 0 0 := Stand.of_body B
    have hh0 : s₁.heap = s.heap := by rw [B.state]; rfl
    have hsz : scr.slots.size = xs.length := by rw [← Array.length_toList, hlist, List.length_map]
    have hval : ∀ j : Nat, j < xs.length → scr.slots[j]? = some (.int (xs.getD j 0)) := fun j hj => by
      rw [← Array.getElem?_toList, hlist]
      simp [hj]
    have hbl : b < s.heap.size := (Array.getElem?_eq_some_iff.mp hcb).1
    have hX : va_X b xs.length (fun j => xs.getD j 0) s s.heap := ⟨scr, hcb, hof, hkn, hsz, hval⟩
    have K : W p l e room_1 s m #[Value.ref b] below meth c s₁.heap [] 0 0 (lw_Z below #[Value.ref b] s) (entryFrame m ([Value.ref b] : List Value).toArray 17) := by
      rw [hh0]
      exact whole_start l hflags hbd ⟨B.exec, B.bytes, B.returns, hml, hown, hts, hX, hbl, B.notSynchronized, hgv⟩
    obtain ⟨t, a1, o, b1, b2, b3⟩ := K s₁ rfl X₀
    exact ⟨t, o, a1, b1, b2, b3⟩
theorem lw_pre_spec {args : Array Value} {s : State} (h : (Jvm.Cond.and given_1 narrow_1).before args s = true) (hr : rest_1_c.before args s = true) : ∃ (b : Addr) (xs : List Int32), lw_P b xs args s := by
  have hs := flat_of_before _ h
  have hq := flat_of_before _ hr
  have hc : (Cond.count 1).before args s = true := hs _ (by decide +kernel)
  have harr : (Cond.arrayOf (.arg 0) .int).before args s = true := hs _ (by decide +kernel)
  have hle : (Cond.le (.length (.arg 0)) (.int 260)).before args s = true := hs _ (by decide +kernel)
  have hlen : (Cond.isInt (.length (.arg 0))).before args s = true := hq _ (by decide +kernel)
  have hall : (Cond.all (.arg 0) (.isInt (.elem (.arg 0) (.index 0)))).before args s = true := hq _ (by decide +kernel)
  obtain ⟨b, xs, hb, hx⟩ := State.ints_of_pre rfl harr hlen hall
  have hsm : xs.length < 2 ^ 31 := hx.choose_spec.2.2.2
  have hev : (Term.length (.arg 0)).eval args s none [] s = some (.int xs.length.toInt32) := hx.length_eval hb
  have hv := Cond.le_ints hev (show (Term.int 260).eval args s none [] s = some (.int 260) from rfl)
  have hd : xs.length.toInt32 ≤ 260 := by
    simpa [Cond.before, Cond.holds, hv] using hle
  have hN : xs.length ≤ 260 := (Int32.ofNat_le_ofNat hsm (by decide)).mp (show Int32.ofNat xs.length ≤ Int32.ofNat 260 from hd)
  exact ⟨b, xs, Cond.one_arg hc (show args[0]? = some (.ref b) from hb), hx, hN, h⟩
theorem lw_comes (l : Launch) (hflags : l.flags = flags0) : Comes l x (Jvm.Cond.code x code maxLocals ret :: tables_1) room_1 (fun tb e args s => Calls_1 tb e args s ∧ rest_1 tb e args s ∧ Pre_1 tb e args s)
    (fun _ _ args s o t => lw_Q args s o t) := by
  intro p e ha hc hk s m args below hf hfit hheap happ hpre
  obtain ⟨b, xs, hP⟩ := lw_pre_spec hpre.2.2 hpre.2.1
  obtain ⟨k, o, h1, h2, h3, hQ⟩ := lw_walk l hflags b xs p e ha hc hk s m args below hf ((Spec.applies_iff_loose hf).mp happ).1 hP trivial
  exact ⟨k, o, h1, h2, h3, hQ⟩
theorem lw_frame {s t : State} {o : Outcome} {args : Array Value} (h : Framed s o t [] 600104 7301314) :
    Framed s o t (fieldLocs frame_1_writes args s ++ arrayLocs frame_1_arrays args s ++ staticLocs frame_1_statics s) 600104 7301314 := h
theorem lw_limb (L : Cond) (hL : ∀ (args : Array Value) (s t : State), L.after args s (.returned (some (.int 1))) t = true) :
    ArmFor flags0 classFile x code maxLocals ret World_1 tables_1 room_1 Calls_1 rest_1 Pre_1
      (fun tb e a s o t => postC L tb e a s o t ∧ Framed s o t (fieldLocs frame_1_writes a s ++ arrayLocs frame_1_arrays a s ++ staticLocs frame_1_statics s) 600104 7301314) := by
  intro l hflags _ _ p e ha hc hk s m args below hf hfit hheap happ hpre
  obtain ⟨k, o, h1, h2, h3, rfl, hF⟩ := lw_comes l hflags p e ha hc hk s m args below hf hfit hheap happ hpre
  exact ⟨k, _, h1, h2, h3, hL args s _, lw_frame hF⟩
theorem i_vc : Claimed_1_1 ∧ Claimed_1_2 := ⟨lw_limb limb_1_1 (fun args s t => by simp [limb_1_1, Cond.after, Cond.holds, Cond.value]), lw_limb limb_1_2 (fun args s t => Cond.after_iff.mpr (by
  first | (rw [show limb_1_2 = Cond.eq .result (.int 1) from rfl, Cond.eq_ints (x := 1) (y := 1) rfl rfl]; simp; done) | (simp [limb_1_2, Cond.value, Term.eval]; done)))⟩
