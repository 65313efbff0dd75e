theorem nw_0 : (RX4, 99, (TX1 0).1, (TX1 0).2.1, (TX1 0).2.2.1, "TableWright") ∈ NWF := List.mem_of_getElem? (i := 0) (by decide +kernel)
theorem nw_1 : (RX3, 77, (TX1 0).1, (TX1 0).2.1, (TX1 0).2.2.1, "TableWright") ∈ NWF := List.mem_of_getElem? (i := 1) (by decide +kernel)
theorem nw_2 : (RX4, 113, (TX1 1).1, (TX1 1).2.1, (TX1 1).2.2.1, "TableWright") ∈ NWF := List.mem_of_getElem? (i := 2) (by decide +kernel)
theorem nw_3 : (RX0, 101, (TX1 1).1, (TX1 1).2.1, (TX1 1).2.2.1, "TableWright") ∈ NWF := List.mem_of_getElem? (i := 3) (by decide +kernel)
theorem nw_4 : (RX3, 107, (TX1 1).1, (TX1 1).2.1, (TX1 1).2.2.1, "TableWright") ∈ NWF := List.mem_of_getElem? (i := 4) (by decide +kernel)
theorem nw_5 : (RX4, 116, (TX1 2).1, (TX1 2).2.1, (TX1 2).2.2.1, "TableWright") ∈ NWF := List.mem_of_getElem? (i := 5) (by decide +kernel)
theorem nw_6 : (RX3, 101, (TX1 2).1, (TX1 2).2.1, (TX1 2).2.2.1, "TableWright") ∈ NWF := List.mem_of_getElem? (i := 6) (by decide +kernel)
theorem nw_7 : (RX4, 127, (TX1 3).1, (TX1 3).2.1, (TX1 3).2.2.1, "TableWright") ∈ NWF := List.mem_of_getElem? (i := 7) (by decide +kernel)
theorem nw_8 : (RX3, 74, (TX1 3).1, (TX1 3).2.1, (TX1 3).2.2.1, "TableWright") ∈ NWF := List.mem_of_getElem? (i := 8) (by decide +kernel)
theorem nw_9 : (RX3, 54, (TX1 4).1, (TX1 4).2.1, (TX1 4).2.2.1, "TableWright") ∈ NWF := List.mem_of_getElem? (i := 9) (by decide +kernel)
theorem nw_10 : (RX4, 137, (TX1 4).1, (TX1 4).2.1, (TX1 4).2.2.1, "TableWright") ∈ NWF := List.mem_of_getElem? (i := 10) (by decide +kernel)
theorem nw_11 : (RX0, 136, (TX1 4).1, (TX1 4).2.1, (TX1 4).2.2.1, "TableWright") ∈ NWF := List.mem_of_getElem? (i := 11) (by decide +kernel)
theorem nw_12 : (RX4, 140, (TX1 5).1, (TX1 5).2.1, (TX1 5).2.2.1, "TableWright") ∈ NWF := List.mem_of_getElem? (i := 12) (by decide +kernel)
theorem nw_13 : (RX0, 139, (TX1 5).1, (TX1 5).2.1, (TX1 5).2.2.1, "TableWright") ∈ NWF := List.mem_of_getElem? (i := 13) (by decide +kernel)
theorem nw_14 : (RX3, 51, (TX1 6).1, (TX1 6).2.1, (TX1 6).2.2.1, "TableWright") ∈ NWF := List.mem_of_getElem? (i := 14) (by decide +kernel)
theorem nw_15 : (RX3, 57, (TX1 7).1, (TX1 7).2.1, (TX1 7).2.2.1, "TableWright") ∈ NWF := List.mem_of_getElem? (i := 15) (by decide +kernel)
theorem nw_16 : (RX4, 134, (TX1 7).1, (TX1 7).2.1, (TX1 7).2.2.1, "TableWright") ∈ NWF := List.mem_of_getElem? (i := 16) (by decide +kernel)
theorem nw_17 : (RX0, 91, (TX1 7).1, (TX1 7).2.1, (TX1 7).2.2.1, "TableWright") ∈ NWF := List.mem_of_getElem? (i := 17) (by decide +kernel)
theorem nw_18 : (RX0, 73, (TX3 0).1, (TX3 0).2.1, (TX3 0).2.2.1, "TableWright") ∈ NWF := List.mem_of_getElem? (i := 18) (by decide +kernel)
theorem nw_19 : (RX4, 119, (TX3 0).1, (TX3 0).2.1, (TX3 0).2.2.1, "TableWright") ∈ NWF := List.mem_of_getElem? (i := 19) (by decide +kernel)
theorem nw_20 : (RX0, 80, (TX3 1).1, (TX3 1).2.1, (TX3 1).2.2.1, "TableWright") ∈ NWF := List.mem_of_getElem? (i := 20) (by decide +kernel)
theorem nw_21 : (RX4, 220, (TX3 1).1, (TX3 1).2.1, (TX3 1).2.2.1, "TableWright") ∈ NWF := List.mem_of_getElem? (i := 21) (by decide +kernel)
theorem nw_22 : (RX0, 64, (TX3 5).1, (TX3 5).2.1, (TX3 5).2.2.1, "TableWright") ∈ NWF := List.mem_of_getElem? (i := 22) (by decide +kernel)
theorem nw_23 : (RX4, 72, (TX3 5).1, (TX3 5).2.1, (TX3 5).2.2.1, "TableWright") ∈ NWF := List.mem_of_getElem? (i := 23) (by decide +kernel)
theorem nw_24 : (RX4, 95, (TX3 6).1, (TX3 6).2.1, (TX3 6).2.2.1, "TableWright") ∈ NWF := List.mem_of_getElem? (i := 24) (by decide +kernel)
theorem nw_25 : (RX0, 87, (TX3 6).1, (TX3 6).2.1, (TX3 6).2.2.1, "TableWright") ∈ NWF := List.mem_of_getElem? (i := 25) (by decide +kernel)
theorem nw_26 : (RX0, 119, (TX3 7).1, (TX3 7).2.1, (TX3 7).2.2.1, "TableWright") ∈ NWF := List.mem_of_getElem? (i := 26) (by decide +kernel)
theorem nw_27 : (RX4, 262, (TX3 7).1, (TX3 7).2.1, (TX3 7).2.2.1, "TableWright") ∈ NWF := List.mem_of_getElem? (i := 27) (by decide +kernel)
theorem nw_28 : (RX0, 109, (TX3 8).1, (TX3 8).2.1, (TX3 8).2.2.1, "TableWright") ∈ NWF := List.mem_of_getElem? (i := 28) (by decide +kernel)
theorem nw_29 : (RX4, 265, (TX3 8).1, (TX3 8).2.1, (TX3 8).2.2.1, "TableWright") ∈ NWF := List.mem_of_getElem? (i := 29) (by decide +kernel)
theorem nw_30 : (RX2, 23, (TX0 0).1, (TX0 0).2.1, (TX0 0).2.2.1, "TableWright") ∈ NWF := List.mem_of_getElem? (i := 30) (by decide +kernel)
theorem nw_31 : (RX4, 243, (TX0 0).1, (TX0 0).2.1, (TX0 0).2.2.1, "TableWright") ∈ NWF := List.mem_of_getElem? (i := 31) (by decide +kernel)
theorem nw_32 : (RX4, 268, (TX0 2).1, (TX0 2).2.1, (TX0 2).2.2.1, "TableWright") ∈ NWF := List.mem_of_getElem? (i := 32) (by decide +kernel)
theorem nw_33 : (RX4, 274, (TX0 3).1, (TX0 3).2.1, (TX0 3).2.2.1, "TableWright") ∈ NWF := List.mem_of_getElem? (i := 33) (by decide +kernel)
theorem nw_34 : (RX4, 277, (TX0 4).1, (TX0 4).2.1, (TX0 4).2.2.1, "TableWright") ∈ NWF := List.mem_of_getElem? (i := 34) (by decide +kernel)
theorem nw_35 : (RX4, 280, (TX0 5).1, (TX0 5).2.1, (TX0 5).2.2.1, "TableWright") ∈ NWF := List.mem_of_getElem? (i := 35) (by decide +kernel)
theorem nw_36 : (RX2, 27, (TX0 6).1, (TX0 6).2.1, (TX0 6).2.2.1, "TableWright") ∈ NWF := List.mem_of_getElem? (i := 36) (by decide +kernel)
theorem nw_37 : (RX4, 174, (TX0 6).1, (TX0 6).2.1, (TX0 6).2.2.1, "TableWright") ∈ NWF := List.mem_of_getElem? (i := 37) (by decide +kernel)
theorem nw_38 : (RX4, 237, (TX0 7).1, (TX0 7).2.1, (TX0 7).2.2.1, "TableWright") ∈ NWF := List.mem_of_getElem? (i := 38) (by decide +kernel)
theorem nw_39 : (RX4, 240, (TX0 8).1, (TX0 8).2.1, (TX0 8).2.2.1, "TableWright") ∈ NWF := List.mem_of_getElem? (i := 39) (by decide +kernel)
theorem nw_40 : (RX4, 286, (TX0 9).1, (TX0 9).2.1, (TX0 9).2.2.1, "TableWright") ∈ NWF := List.mem_of_getElem? (i := 40) (by decide +kernel)
theorem nw_41 : (RX4, 177, (TX0 10).1, (TX0 10).2.1, (TX0 10).2.2.1, "TableWright") ∈ NWF := List.mem_of_getElem? (i := 41) (by decide +kernel)
theorem nw_42 : (RX4, 246, (TX2 2).1, (TX2 2).2.1, (TX2 2).2.2.1, "TableWright") ∈ NWF := List.mem_of_getElem? (i := 42) (by decide +kernel)
theorem inc_ {x v : Int32} {n : Int} (h : Int32.ofInt n = v) : x + Int32.ofInt n = x + v := by rw [h]
theorem vin_lt {x : Int32} {n : Nat} (h : vp_in x n) : x.toNatClampNeg < n := Nat.not_le.mp fun q => h (Or.inr q)
theorem tsw_out {x : Int32} {lo hi : Int} (h : ∀ z : Int, lo ≤ z → z ≤ hi → x.toInt = z → False) : x.toInt < lo ∨ hi < x.toInt := by
  rcases Int.lt_or_le x.toInt lo with q | q
  · exact Or.inl q
  · rcases Int.lt_or_le hi x.toInt with r | r
    · exact Or.inr r
    · exact (h _ q r rfl).elim
-- X1_clear
theorem inX1_clear_RX1 : ∀ w ∈ u_ws RX1 TX1 8, w ∈ wsX1_clear := by decide +kernel
theorem kX1_clear_9 : Cond.fieldLink RX1 9 (TX1 0).1 (TX1 0).2.1 (TX1 0).2.2.1 ∈ wsX1_clear := by decide +kernel
theorem kX1_clear_15 : Cond.fieldLink RX1 15 (TX1 1).1 (TX1 1).2.1 (TX1 1).2.2.1 ∈ wsX1_clear := by decide +kernel
theorem kX1_clear_18 : Cond.fieldLink RX1 18 (TX1 2).1 (TX1 2).2.1 (TX1 2).2.2.1 ∈ wsX1_clear := by decide +kernel
theorem kX1_clear_21 : Cond.fieldLink RX1 21 (TX1 3).1 (TX1 3).2.1 (TX1 3).2.2.1 ∈ wsX1_clear := by decide +kernel
theorem kX1_clear_31 : Cond.fieldLink RX1 31 (TX1 4).1 (TX1 4).2.1 (TX1 4).2.2.1 ∈ wsX1_clear := by decide +kernel
theorem kX1_clear_35 : Cond.fieldLink RX1 35 (TX1 5).1 (TX1 5).2.1 (TX1 5).2.2.1 ∈ wsX1_clear := by decide +kernel
abbrev F_X1_clear : Nat := 0
abbrev L_X1_clear : Nat := 0
theorem hd_X1_clear : yX1_clear.cls = RX1 ∧ yX1_clear.cls ≠ "java/lang/invoke/MethodHandle" ∧ yX1_clear.cls ≠ "java/lang/invoke/VarHandle" ∧ (parseMethodDescriptor yX1_clear.desc).map (fun d => d.parameters.length) = some 0 := by decide +kernel
def wp_X1_clear_L2 (o0 : Nat) (i0 : Nat)  (X : Mem → Prop) (Q : Mem → Prop) : Nat → Int32 → Mem → Prop
  | 0, _, _ => False
  | n + 1, v1, M => ((6 ≤ v1 → X M) ∧ (¬ (6 ≤ v1) → (vp_in v1 6 ∧ (∀ M14 : Mem, M14 = sM M 12 o0 i0 v1.toNatClampNeg 0 → (vp_in v1 6 ∧ (∀ M21 : Mem, M21 = sM M14 13 o0 i0 v1.toNatClampNeg 0 → (vp_in v1 6 ∧ (∀ M28 : Mem, M28 = sM M21 14 o0 i0 v1.toNatClampNeg 0 → (vp_in v1 6 ∧ (∀ M35 : Mem, M35 = sM M28 15 o0 i0 v1.toNatClampNeg 0 → (wp_X1_clear_L2 o0 i0 X Q n) (v1 + 1) M35))))))))))
set_option maxHeartbeats 4000000 in
set_option maxRecDepth 100000 in
theorem l_X1_clear_L2 {l : Launch} {G : GG} {Z : ZT} (h : AX l G cX1_clear 2 RX1 wsX1_clear F_X1_clear L_X1_clear Z) (hG : GoodG G) {Q : Mem → Prop} (hr : RETv cX1_clear Q Z) (o0 : Nat) (i0 : Nat) (ho0 : o0 < 2) (hi0 : i0 < 30)   (X : Mem → Prop) (hX : ∀  (M : Mem), X  M → Z 42 [(0, .ref (gA G (4, o0, i0)))] [] M) : ∀ (n : Nat) (v1 : Int32) (M : Mem), wp_X1_clear_L2 o0 i0 X Q n v1 M → Z 2 [(0, .ref (gA G (4, o0, i0))), (1, .int v1)] [] M := by
  intro n
  induction n with
  | zero => intro v1 M hw; exact hw.elim
  | succ n ih =>
    intro v1 M hw
    unfold wp_X1_clear_L2 at hw
    refine h.iload_n (pc := 2) dX1_clear_2 rfl 1 rfl ?_
    refine h.bipush (pc := 3) (v := 6) dX1_clear_3 (by decide) ?_
    refine h.icmp_ge (pc := 5) 42 dX1_clear_5 (by decide) (fun c5 => ?_) (fun c5 => ?_)
    · replace hw := hw.1 c5
      refine h.sub (pc := 42) [0] (lv' := [(0, .ref (gA G (4, o0, i0)))]) rfl ?_
      exact hX M hw
    · replace hw := hw.2 c5
      refine h.aload_n (pc := 8) dX1_clear_8 rfl 0 rfl ?_
      refine h.getf (pc := 9) (f := 4) (o := o0) (i := i0) (ci := 1) (C := RX1) (T := TX1) (N := 8) (j := 0) (v := .ref (gA G (12, o0, i0))) (k_2 (by decide) ho0 hi0) rfl rfl (by decide) inX1_clear_RX1 kX1_clear_9 rfl dX1_clear_9 ?_
      refine h.iload_n (pc := 12) dX1_clear_12 rfl 1 rfl ?_
      refine h.iconst (pc := 13) (v := 0) dX1_clear_13 (by decide) ?_
      obtain ⟨hj14, hw⟩ := hw
      refine h.iast (pc := 14) (f := 12) (o := o0) (i := i0) (n := 6) (ix := v1) (x := 0) (k_2 (by decide) ho0 hi0) (fun _ => rfl) hj14 dX1_clear_14 (fun M14 e14 => ?_)
      replace hw := hw M14 e14
      refine h.aload_n (pc := 15) dX1_clear_15 rfl 0 rfl ?_
      refine h.getf (pc := 16) (f := 4) (o := o0) (i := i0) (ci := 1) (C := RX1) (T := TX1) (N := 8) (j := 1) (v := .ref (gA G (13, o0, i0))) (k_2 (by decide) ho0 hi0) rfl rfl (by decide) inX1_clear_RX1 kX1_clear_15 rfl dX1_clear_16 ?_
      refine h.iload_n (pc := 19) dX1_clear_19 rfl 1 rfl ?_
      refine h.iconst (pc := 20) (v := 0) dX1_clear_20 (by decide) ?_
      obtain ⟨hj21, hw⟩ := hw
      refine h.iast (pc := 21) (f := 13) (o := o0) (i := i0) (n := 6) (ix := v1) (x := 0) (k_2 (by decide) ho0 hi0) (fun _ => rfl) hj21 dX1_clear_21 (fun M21 e21 => ?_)
      replace hw := hw M21 e21
      refine h.aload_n (pc := 22) dX1_clear_22 rfl 0 rfl ?_
      refine h.getf (pc := 23) (f := 4) (o := o0) (i := i0) (ci := 1) (C := RX1) (T := TX1) (N := 8) (j := 2) (v := .ref (gA G (14, o0, i0))) (k_2 (by decide) ho0 hi0) rfl rfl (by decide) inX1_clear_RX1 kX1_clear_18 rfl dX1_clear_23 ?_
      refine h.iload_n (pc := 26) dX1_clear_26 rfl 1 rfl ?_
      refine h.iconst (pc := 27) (v := 0) dX1_clear_27 (by decide) ?_
      obtain ⟨hj28, hw⟩ := hw
      refine h.iast (pc := 28) (f := 14) (o := o0) (i := i0) (n := 6) (ix := v1) (x := 0) (k_2 (by decide) ho0 hi0) (fun _ => rfl) hj28 dX1_clear_28 (fun M28 e28 => ?_)
      replace hw := hw M28 e28
      refine h.aload_n (pc := 29) dX1_clear_29 rfl 0 rfl ?_
      refine h.getf (pc := 30) (f := 4) (o := o0) (i := i0) (ci := 1) (C := RX1) (T := TX1) (N := 8) (j := 3) (v := .ref (gA G (15, o0, i0))) (k_2 (by decide) ho0 hi0) rfl rfl (by decide) inX1_clear_RX1 kX1_clear_21 rfl dX1_clear_30 ?_
      refine h.iload_n (pc := 33) dX1_clear_33 rfl 1 rfl ?_
      refine h.iconst (pc := 34) (v := 0) dX1_clear_34 (by decide) ?_
      obtain ⟨hj35, hw⟩ := hw
      refine h.zast (pc := 35) (f := 15) (o := o0) (i := i0) (n := 6) (ix := v1) (x := 0) (k_2 (by decide) ho0 hi0) (fun _ => rfl) hj35 zb_0 dX1_clear_35 (fun M35 e35 => ?_)
      replace hw := hw M35 e35
      refine h.iinc (pc := 36) [(1, .int (v1 + 1)), (0, .ref (gA G (4, o0, i0)))] dX1_clear_36 1 rfl (inc_ (by decide)) (by decide) rfl ?_
      refine h.goto (pc := 39) 2 dX1_clear_39 (by decide) ?_
      refine h.sub (pc := 2) [1, 0] (lv' := [(0, .ref (gA G (4, o0, i0))), (1, .int (v1 + 1))]) rfl ?_
      exact ih (v1 + 1) M35 hw
def wp_X1_clear (o0 : Nat) (i0 : Nat) (M : Mem) (Q : Mem → Prop) : Prop := ∃ n2, wp_X1_clear_L2 o0 i0 (fun M => (∀ M44 : Mem, M44 = sM M 4 o0 i0 4 0 → (∀ M49 : Mem, M49 = sM M44 4 o0 i0 5 0 → Q M49))) Q n2 0 M
set_option maxHeartbeats 4000000 in
set_option maxRecDepth 100000 in
theorem m_X1_clear {l : Launch} {G : GG} (hG : GoodG G) {o0 : Nat} {i0 : Nat}  {M : Mem} {Q : Mem → Prop} (ho0 : o0 < 2) (hi0 : i0 < 30) (hw : wp_X1_clear o0 i0 M Q) : CTv l G yX1_clear wsX1_clear F_X1_clear L_X1_clear [.ref (gA G (4, o0, i0))] M Q := by
  refine CTv_mk hG (by decide +kernel) rfl (Nat.le_of_ble_eq_true rfl) (fun Z (h : AX l G cX1_clear 2 RX1 wsX1_clear F_X1_clear L_X1_clear Z) hr => ?_)
  show Z 0 [(0, .ref (gA G (4, o0, i0)))] [] M
  unfold wp_X1_clear at hw
  refine h.iconst (pc := 0) (v := 0) dX1_clear_0 (by decide) ?_
  refine h.istore_n (pc := 1) [(1, .int 0), (0, .ref (gA G (4, o0, i0)))] dX1_clear_1 rfl (by decide) rfl ?_
  refine h.sub (pc := 2) [1, 0] (lv' := [(0, .ref (gA G (4, o0, i0))), (1, .int 0)]) rfl ?_
  obtain ⟨n2, hw⟩ := hw
  exact l_X1_clear_L2 h hG hr o0 i0 ho0 hi0 _ (fun M hw => by
      refine h.aload_n (pc := 42) dX1_clear_42 rfl 0 rfl ?_
      refine h.iconst (pc := 43) (v := 0) dX1_clear_43 (by decide) ?_
      refine h.putf (pc := 44) (f := 4) (o := o0) (i := i0) (ci := 1) (C := RX1) (T := TX1) (N := 8) (j := 4) (ty := .int) (ty0 := tyX1) (x := 0) (k_2 (by decide) ho0 hi0) rfl rfl (by decide) inX1_clear_RX1 tyX1_ok nmX1 kX1_clear_31 rfl (tyX1_ok 4 (by decide)) rfl rfl (Nat.le_of_ble_eq_true rfl) rfl dX1_clear_44 (fun M44 e44 => ?_)
      replace hw := hw M44 e44
      refine h.aload_n (pc := 47) dX1_clear_47 rfl 0 rfl ?_
      refine h.iconst (pc := 48) (v := 0) dX1_clear_48 (by decide) ?_
      refine h.putf (pc := 49) (f := 4) (o := o0) (i := i0) (ci := 1) (C := RX1) (T := TX1) (N := 8) (j := 5) (ty := .boolean) (ty0 := tyX1) (x := 0) (k_2 (by decide) ho0 hi0) rfl rfl (by decide) inX1_clear_RX1 tyX1_ok nmX1 kX1_clear_35 rfl (tyX1_ok 5 (by decide)) (zb_narrow zb_0) (zb_fits zb_0) (Nat.le_of_ble_eq_true rfl) rfl dX1_clear_49 (fun M49 e49 => ?_)
      replace hw := hw M49 e49
      exact hr _ _ _ dX1_clear_52 hw) n2 0 M hw
-- X1_copyFrom
theorem inX1_copyFrom_RX1 : ∀ w ∈ u_ws RX1 TX1 8, w ∈ wsX1_copyFrom := by decide +kernel
theorem kX1_copyFrom_9 : Cond.fieldLink RX1 9 (TX1 0).1 (TX1 0).2.1 (TX1 0).2.2.1 ∈ wsX1_copyFrom := by decide +kernel
theorem kX1_copyFrom_15 : Cond.fieldLink RX1 15 (TX1 1).1 (TX1 1).2.1 (TX1 1).2.2.1 ∈ wsX1_copyFrom := by decide +kernel
theorem kX1_copyFrom_18 : Cond.fieldLink RX1 18 (TX1 2).1 (TX1 2).2.1 (TX1 2).2.2.1 ∈ wsX1_copyFrom := by decide +kernel
theorem kX1_copyFrom_21 : Cond.fieldLink RX1 21 (TX1 3).1 (TX1 3).2.1 (TX1 3).2.2.1 ∈ wsX1_copyFrom := by decide +kernel
theorem kX1_copyFrom_31 : Cond.fieldLink RX1 31 (TX1 4).1 (TX1 4).2.1 (TX1 4).2.2.1 ∈ wsX1_copyFrom := by decide +kernel
theorem kX1_copyFrom_35 : Cond.fieldLink RX1 35 (TX1 5).1 (TX1 5).2.1 (TX1 5).2.2.1 ∈ wsX1_copyFrom := by decide +kernel
abbrev F_X1_copyFrom : Nat := 0
abbrev L_X1_copyFrom : Nat := 0
theorem hd_X1_copyFrom : yX1_copyFrom.cls = RX1 ∧ yX1_copyFrom.cls ≠ "java/lang/invoke/MethodHandle" ∧ yX1_copyFrom.cls ≠ "java/lang/invoke/VarHandle" ∧ (parseMethodDescriptor yX1_copyFrom.desc).map (fun d => d.parameters.length) = some 1 := by decide +kernel
def wp_X1_copyFrom_L2 (o0 : Nat) (i0 : Nat) (o1 : Nat) (i1 : Nat)  (X : Mem → Prop) (Q : Mem → Prop) : Nat → Int32 → Mem → Prop
  | 0, _, _ => False
  | n + 1, v2, M => ((6 ≤ v2 → X M) ∧ (¬ (6 ≤ v2) → (vp_in v2 6 ∧ (vp_in v2 6 ∧ (∀ M19 : Mem, M19 = sM M 12 o0 i0 v2.toNatClampNeg (M 12 o1 i1 v2.toNatClampNeg) → (vp_in v2 6 ∧ (vp_in v2 6 ∧ (∀ M31 : Mem, M31 = sM M19 13 o0 i0 v2.toNatClampNeg (M19 13 o1 i1 v2.toNatClampNeg) → (vp_in v2 6 ∧ (vp_in v2 6 ∧ (∀ M43 : Mem, M43 = sM M31 14 o0 i0 v2.toNatClampNeg (M31 14 o1 i1 v2.toNatClampNeg) → (vp_in v2 6 ∧ (vp_in v2 6 ∧ (zb (M43 15 o1 i1 v2.toNatClampNeg) ∧ (∀ M55 : Mem, M55 = sM M43 15 o0 i0 v2.toNatClampNeg (M43 15 o1 i1 v2.toNatClampNeg) → (wp_X1_copyFrom_L2 o0 i0 o1 i1 X Q n) (v2 + 1) M55)))))))))))))))
set_option maxHeartbeats 4000000 in
set_option maxRecDepth 100000 in
theorem l_X1_copyFrom_L2 {l : Launch} {G : GG} {Z : ZT} (h : AX l G cX1_copyFrom 3 RX1 wsX1_copyFrom F_X1_copyFrom L_X1_copyFrom Z) (hG : GoodG G) {Q : Mem → Prop} (hr : RETv cX1_copyFrom Q Z) (o0 : Nat) (i0 : Nat) (o1 : Nat) (i1 : Nat) (ho0 : o0 < 2) (hi0 : i0 < 30) (ho1 : o1 < 2) (hi1 : i1 < 30)   (X : Mem → Prop) (hX : ∀  (M : Mem), X  M → Z 62 [(0, .ref (gA G (4, o0, i0))), (1, .ref (gA G (4, o1, i1)))] [] M) : ∀ (n : Nat) (v2 : Int32) (M : Mem), wp_X1_copyFrom_L2 o0 i0 o1 i1 X Q n v2 M → Z 2 [(0, .ref (gA G (4, o0, i0))), (1, .ref (gA G (4, o1, i1))), (2, .int v2)] [] M := by
  intro n
  induction n with
  | zero => intro v2 M hw; exact hw.elim
  | succ n ih =>
    intro v2 M hw
    unfold wp_X1_copyFrom_L2 at hw
    refine h.iload_n (pc := 2) dX1_copyFrom_2 rfl 2 rfl ?_
    refine h.bipush (pc := 3) (v := 6) dX1_copyFrom_3 (by decide) ?_
    refine h.icmp_ge (pc := 5) 62 dX1_copyFrom_5 (by decide) (fun c5 => ?_) (fun c5 => ?_)
    · replace hw := hw.1 c5
      refine h.sub (pc := 62) [0, 1] (lv' := [(0, .ref (gA G (4, o0, i0))), (1, .ref (gA G (4, o1, i1)))]) rfl ?_
      exact hX M hw
    · replace hw := hw.2 c5
      refine h.aload_n (pc := 8) dX1_copyFrom_8 rfl 0 rfl ?_
      refine h.getf (pc := 9) (f := 4) (o := o0) (i := i0) (ci := 1) (C := RX1) (T := TX1) (N := 8) (j := 0) (v := .ref (gA G (12, o0, i0))) (k_2 (by decide) ho0 hi0) rfl rfl (by decide) inX1_copyFrom_RX1 kX1_copyFrom_9 rfl dX1_copyFrom_9 ?_
      refine h.iload_n (pc := 12) dX1_copyFrom_12 rfl 2 rfl ?_
      refine h.aload_n (pc := 13) dX1_copyFrom_13 rfl 1 rfl ?_
      refine h.getf (pc := 14) (f := 4) (o := o1) (i := i1) (ci := 1) (C := RX1) (T := TX1) (N := 8) (j := 0) (v := .ref (gA G (12, o1, i1))) (k_2 (by decide) ho1 hi1) rfl rfl (by decide) inX1_copyFrom_RX1 kX1_copyFrom_9 rfl dX1_copyFrom_14 ?_
      refine h.iload_n (pc := 17) dX1_copyFrom_17 rfl 2 rfl ?_
      obtain ⟨hj18, hw⟩ := hw
      refine h.iald (pc := 18) (f := 12) (o := o1) (i := i1) (n := 6) (k_2 (by decide) ho1 hi1) (fun _ => rfl) hj18 dX1_copyFrom_18 ?_
      obtain ⟨hj19, hw⟩ := hw
      refine h.iast (pc := 19) (f := 12) (o := o0) (i := i0) (n := 6) (ix := v2) (x := (M 12 o1 i1 v2.toNatClampNeg)) (k_2 (by decide) ho0 hi0) (fun _ => rfl) hj19 dX1_copyFrom_19 (fun M19 e19 => ?_)
      replace hw := hw M19 e19
      refine h.aload_n (pc := 20) dX1_copyFrom_20 rfl 0 rfl ?_
      refine h.getf (pc := 21) (f := 4) (o := o0) (i := i0) (ci := 1) (C := RX1) (T := TX1) (N := 8) (j := 1) (v := .ref (gA G (13, o0, i0))) (k_2 (by decide) ho0 hi0) rfl rfl (by decide) inX1_copyFrom_RX1 kX1_copyFrom_15 rfl dX1_copyFrom_21 ?_
      refine h.iload_n (pc := 24) dX1_copyFrom_24 rfl 2 rfl ?_
      refine h.aload_n (pc := 25) dX1_copyFrom_25 rfl 1 rfl ?_
      refine h.getf (pc := 26) (f := 4) (o := o1) (i := i1) (ci := 1) (C := RX1) (T := TX1) (N := 8) (j := 1) (v := .ref (gA G (13, o1, i1))) (k_2 (by decide) ho1 hi1) rfl rfl (by decide) inX1_copyFrom_RX1 kX1_copyFrom_15 rfl dX1_copyFrom_26 ?_
      refine h.iload_n (pc := 29) dX1_copyFrom_29 rfl 2 rfl ?_
      obtain ⟨hj30, hw⟩ := hw
      refine h.iald (pc := 30) (f := 13) (o := o1) (i := i1) (n := 6) (k_2 (by decide) ho1 hi1) (fun _ => rfl) hj30 dX1_copyFrom_30 ?_
      obtain ⟨hj31, hw⟩ := hw
      refine h.iast (pc := 31) (f := 13) (o := o0) (i := i0) (n := 6) (ix := v2) (x := (M19 13 o1 i1 v2.toNatClampNeg)) (k_2 (by decide) ho0 hi0) (fun _ => rfl) hj31 dX1_copyFrom_31 (fun M31 e31 => ?_)
      replace hw := hw M31 e31
      refine h.aload_n (pc := 32) dX1_copyFrom_32 rfl 0 rfl ?_
      refine h.getf (pc := 33) (f := 4) (o := o0) (i := i0) (ci := 1) (C := RX1) (T := TX1) (N := 8) (j := 2) (v := .ref (gA G (14, o0, i0))) (k_2 (by decide) ho0 hi0) rfl rfl (by decide) inX1_copyFrom_RX1 kX1_copyFrom_18 rfl dX1_copyFrom_33 ?_
      refine h.iload_n (pc := 36) dX1_copyFrom_36 rfl 2 rfl ?_
      refine h.aload_n (pc := 37) dX1_copyFrom_37 rfl 1 rfl ?_
      refine h.getf (pc := 38) (f := 4) (o := o1) (i := i1) (ci := 1) (C := RX1) (T := TX1) (N := 8) (j := 2) (v := .ref (gA G (14, o1, i1))) (k_2 (by decide) ho1 hi1) rfl rfl (by decide) inX1_copyFrom_RX1 kX1_copyFrom_18 rfl dX1_copyFrom_38 ?_
      refine h.iload_n (pc := 41) dX1_copyFrom_41 rfl 2 rfl ?_
      obtain ⟨hj42, hw⟩ := hw
      refine h.iald (pc := 42) (f := 14) (o := o1) (i := i1) (n := 6) (k_2 (by decide) ho1 hi1) (fun _ => rfl) hj42 dX1_copyFrom_42 ?_
      obtain ⟨hj43, hw⟩ := hw
      refine h.iast (pc := 43) (f := 14) (o := o0) (i := i0) (n := 6) (ix := v2) (x := (M31 14 o1 i1 v2.toNatClampNeg)) (k_2 (by decide) ho0 hi0) (fun _ => rfl) hj43 dX1_copyFrom_43 (fun M43 e43 => ?_)
      replace hw := hw M43 e43
      refine h.aload_n (pc := 44) dX1_copyFrom_44 rfl 0 rfl ?_
      refine h.getf (pc := 45) (f := 4) (o := o0) (i := i0) (ci := 1) (C := RX1) (T := TX1) (N := 8) (j := 3) (v := .ref (gA G (15, o0, i0))) (k_2 (by decide) ho0 hi0) rfl rfl (by decide) inX1_copyFrom_RX1 kX1_copyFrom_21 rfl dX1_copyFrom_45 ?_
      refine h.iload_n (pc := 48) dX1_copyFrom_48 rfl 2 rfl ?_
      refine h.aload_n (pc := 49) dX1_copyFrom_49 rfl 1 rfl ?_
      refine h.getf (pc := 50) (f := 4) (o := o1) (i := i1) (ci := 1) (C := RX1) (T := TX1) (N := 8) (j := 3) (v := .ref (gA G (15, o1, i1))) (k_2 (by decide) ho1 hi1) rfl rfl (by decide) inX1_copyFrom_RX1 kX1_copyFrom_21 rfl dX1_copyFrom_50 ?_
      refine h.iload_n (pc := 53) dX1_copyFrom_53 rfl 2 rfl ?_
      obtain ⟨hj54, hw⟩ := hw
      refine h.zald (pc := 54) (f := 15) (o := o1) (i := i1) (n := 6) (k_2 (by decide) ho1 hi1) (fun _ => rfl) hj54 dX1_copyFrom_54 ?_
      obtain ⟨hj55, hw⟩ := hw
      obtain ⟨hb55, hw⟩ := hw
      refine h.zast (pc := 55) (f := 15) (o := o0) (i := i0) (n := 6) (ix := v2) (x := (M43 15 o1 i1 v2.toNatClampNeg)) (k_2 (by decide) ho0 hi0) (fun _ => rfl) hj55 hb55 dX1_copyFrom_55 (fun M55 e55 => ?_)
      replace hw := hw M55 e55
      refine h.iinc (pc := 56) [(2, .int (v2 + 1)), (0, .ref (gA G (4, o0, i0))), (1, .ref (gA G (4, o1, i1)))] dX1_copyFrom_56 2 rfl (inc_ (by decide)) (by decide) rfl ?_
      refine h.goto (pc := 59) 2 dX1_copyFrom_59 (by decide) ?_
      refine h.sub (pc := 2) [1, 2, 0] (lv' := [(0, .ref (gA G (4, o0, i0))), (1, .ref (gA G (4, o1, i1))), (2, .int (v2 + 1))]) rfl ?_
      exact ih (v2 + 1) M55 hw
def wp_X1_copyFrom_L62 (o0 : Nat) (i0 : Nat) (o1 : Nat) (i1 : Nat)  (Q : Mem → Prop)  (M : Mem) : Prop := (∀ M67 : Mem, M67 = sM M 4 o0 i0 4 (M 4 o1 i1 4) → (zb (M67 4 o1 i1 5) ∧ (∀ M75 : Mem, M75 = sM M67 4 o0 i0 5 (M67 4 o1 i1 5) → Q M75)))
set_option maxHeartbeats 4000000 in
set_option maxRecDepth 100000 in
theorem l_X1_copyFrom_L62 {l : Launch} {G : GG} {Z : ZT} (h : AX l G cX1_copyFrom 3 RX1 wsX1_copyFrom F_X1_copyFrom L_X1_copyFrom Z) (hG : GoodG G) {Q : Mem → Prop} (hr : RETv cX1_copyFrom Q Z) (o0 : Nat) (i0 : Nat) (o1 : Nat) (i1 : Nat) (ho0 : o0 < 2) (hi0 : i0 < 30) (ho1 : o1 < 2) (hi1 : i1 < 30)   (M : Mem) (hw : wp_X1_copyFrom_L62 o0 i0 o1 i1 Q M) : Z 62 [(0, .ref (gA G (4, o0, i0))), (1, .ref (gA G (4, o1, i1)))] [] M := by
  unfold wp_X1_copyFrom_L62 at hw
  refine h.aload_n (pc := 62) dX1_copyFrom_62 rfl 0 rfl ?_
  refine h.aload_n (pc := 63) dX1_copyFrom_63 rfl 1 rfl ?_
  refine h.getf (pc := 64) (f := 4) (o := o1) (i := i1) (ci := 1) (C := RX1) (T := TX1) (N := 8) (j := 4) (v := .int (M 4 o1 i1 4)) (k_2 (by decide) ho1 hi1) rfl rfl (by decide) inX1_copyFrom_RX1 kX1_copyFrom_31 rfl dX1_copyFrom_64 ?_
  refine h.putf (pc := 67) (f := 4) (o := o0) (i := i0) (ci := 1) (C := RX1) (T := TX1) (N := 8) (j := 4) (ty := .int) (ty0 := tyX1) (x := (M 4 o1 i1 4)) (k_2 (by decide) ho0 hi0) rfl rfl (by decide) inX1_copyFrom_RX1 tyX1_ok nmX1 kX1_copyFrom_31 rfl (tyX1_ok 4 (by decide)) rfl rfl (Nat.le_of_ble_eq_true rfl) rfl dX1_copyFrom_67 (fun M67 e67 => ?_)
  replace hw := hw M67 e67
  refine h.aload_n (pc := 70) dX1_copyFrom_70 rfl 0 rfl ?_
  refine h.aload_n (pc := 71) dX1_copyFrom_71 rfl 1 rfl ?_
  refine h.getf (pc := 72) (f := 4) (o := o1) (i := i1) (ci := 1) (C := RX1) (T := TX1) (N := 8) (j := 5) (v := .int (M67 4 o1 i1 5)) (k_2 (by decide) ho1 hi1) rfl rfl (by decide) inX1_copyFrom_RX1 kX1_copyFrom_35 rfl dX1_copyFrom_72 ?_
  obtain ⟨hb75, hw⟩ := hw
  refine h.putf (pc := 75) (f := 4) (o := o0) (i := i0) (ci := 1) (C := RX1) (T := TX1) (N := 8) (j := 5) (ty := .boolean) (ty0 := tyX1) (x := (M67 4 o1 i1 5)) (k_2 (by decide) ho0 hi0) rfl rfl (by decide) inX1_copyFrom_RX1 tyX1_ok nmX1 kX1_copyFrom_35 rfl (tyX1_ok 5 (by decide)) (zb_narrow hb75) (zb_fits hb75) (Nat.le_of_ble_eq_true rfl) rfl dX1_copyFrom_75 (fun M75 e75 => ?_)
  replace hw := hw M75 e75
  exact hr _ _ _ dX1_copyFrom_78 hw
def wp_X1_copyFrom (o0 : Nat) (i0 : Nat) (o1 : Nat) (i1 : Nat) (M : Mem) (Q : Mem → Prop) : Prop := ∃ n2, wp_X1_copyFrom_L2 o0 i0 o1 i1 (fun M => wp_X1_copyFrom_L62 o0 i0 o1 i1 Q M) Q n2 0 M
set_option maxHeartbeats 4000000 in
set_option maxRecDepth 100000 in
theorem m_X1_copyFrom {l : Launch} {G : GG} (hG : GoodG G) {o0 : Nat} {i0 : Nat} {o1 : Nat} {i1 : Nat}  {M : Mem} {Q : Mem → Prop} (ho0 : o0 < 2) (hi0 : i0 < 30) (ho1 : o1 < 2) (hi1 : i1 < 30) (hw : wp_X1_copyFrom o0 i0 o1 i1 M Q) : CTv l G yX1_copyFrom wsX1_copyFrom F_X1_copyFrom L_X1_copyFrom [.ref (gA G (4, o0, i0)), .ref (gA G (4, o1, i1))] M Q := by
  refine CTv_mk hG (by decide +kernel) rfl (Nat.le_of_ble_eq_true rfl) (fun Z (h : AX l G cX1_copyFrom 3 RX1 wsX1_copyFrom F_X1_copyFrom L_X1_copyFrom Z) hr => ?_)
  show Z 0 [(0, .ref (gA G (4, o0, i0))), (1, .ref (gA G (4, o1, i1)))] [] M
  unfold wp_X1_copyFrom at hw
  refine h.iconst (pc := 0) (v := 0) dX1_copyFrom_0 (by decide) ?_
  refine h.istore_n (pc := 1) [(2, .int 0), (0, .ref (gA G (4, o0, i0))), (1, .ref (gA G (4, o1, i1)))] dX1_copyFrom_1 rfl (by decide) rfl ?_
  refine h.sub (pc := 2) [1, 2, 0] (lv' := [(0, .ref (gA G (4, o0, i0))), (1, .ref (gA G (4, o1, i1))), (2, .int 0)]) rfl ?_
  obtain ⟨n2, hw⟩ := hw
  exact l_X1_copyFrom_L2 h hG hr o0 i0 o1 i1 ho0 hi0 ho1 hi1 _ (fun M hw => by
      exact l_X1_copyFrom_L62 h hG hr o0 i0 o1 i1 ho0 hi0 ho1 hi1 M hw) n2 0 M hw
-- X3_addColumn
theorem inX3_addColumn_RX3 : ∀ w ∈ u_ws RX3 TX3 9, w ∈ wsX3_addColumn := by decide +kernel
theorem kX3_addColumn_37 : Cond.fieldLink RX3 37 (TX3 0).1 (TX3 0).2.1 (TX3 0).2.2.1 ∈ wsX3_addColumn := by decide +kernel
theorem kX3_addColumn_9 : Cond.fieldLink RX3 9 (TX3 1).1 (TX3 1).2.1 (TX3 1).2.2.1 ∈ wsX3_addColumn := by decide +kernel
theorem kX3_addColumn_15 : Cond.fieldLink RX3 15 (TX3 2).1 (TX3 2).2.1 (TX3 2).2.2.1 ∈ wsX3_addColumn := by decide +kernel
abbrev F_X3_addColumn : Nat := 0
abbrev L_X3_addColumn : Nat := 0
theorem hd_X3_addColumn : yX3_addColumn.cls = RX3 ∧ yX3_addColumn.cls ≠ "java/lang/invoke/MethodHandle" ∧ yX3_addColumn.cls ≠ "java/lang/invoke/VarHandle" ∧ (parseMethodDescriptor yX3_addColumn.desc).map (fun d => d.parameters.length) = some 2 := by decide +kernel
def wp_X3_addColumn (o0 : Nat) (v1 : Int32) (v2 : Int32) (M : Mem) (Q : Int32 → Mem → Prop) : Prop := (vp_in (M 1 o0 0 0) 6 ∧ (∀ M11 : Mem, M11 = sM M 5 o0 0 (M 1 o0 0 0).toNatClampNeg v1 → (vp_in (M 1 o0 0 0) 6 ∧ (∀ M18 : Mem, M18 = sM M11 6 o0 0 (M 1 o0 0 0).toNatClampNeg v2 → (∀ M26 : Mem, M26 = sM M18 1 o0 0 0 ((M18 1 o0 0 0) + 1) → Q (M 1 o0 0 0) M26)))))
set_option maxHeartbeats 4000000 in
set_option maxRecDepth 100000 in
theorem m_X3_addColumn {l : Launch} {G : GG} (hG : GoodG G) {o0 : Nat} {v1 : Int32} {v2 : Int32}  {M : Mem} {Q : Int32 → Mem → Prop} (ho0 : o0 < 2) (hw : wp_X3_addColumn o0 v1 v2 M Q) : CTi l G yX3_addColumn wsX3_addColumn F_X3_addColumn L_X3_addColumn [.ref (gA G (1, o0, 0)), .int v1, .int v2] M Q := by
  refine CTi_mk hG (by decide +kernel) rfl (Nat.le_of_ble_eq_true rfl) (fun Z (h : AX l G cX3_addColumn 4 RX3 wsX3_addColumn F_X3_addColumn L_X3_addColumn Z) hr => ?_)
  show Z 0 [(0, .ref (gA G (1, o0, 0))), (1, .int v1), (2, .int v2)] [] M
  unfold wp_X3_addColumn at hw
  refine h.aload_n (pc := 0) dX3_addColumn_0 rfl 0 rfl ?_
  refine h.getf (pc := 1) (f := 1) (o := o0) (i := 0) (ci := 3) (C := RX3) (T := TX3) (N := 9) (j := 0) (v := .int (M 1 o0 0 0)) (k_1 2 (by decide) ho0) rfl rfl (by decide) inX3_addColumn_RX3 kX3_addColumn_37 rfl dX3_addColumn_1 ?_
  refine h.istore_n (pc := 4) [(3, .int (M 1 o0 0 0)), (0, .ref (gA G (1, o0, 0))), (1, .int v1), (2, .int v2)] dX3_addColumn_4 rfl (by decide) rfl ?_
  refine h.aload_n (pc := 5) dX3_addColumn_5 rfl 1 rfl ?_
  refine h.getf (pc := 6) (f := 1) (o := o0) (i := 0) (ci := 3) (C := RX3) (T := TX3) (N := 9) (j := 1) (v := .ref (gA G (5, o0, 0))) (k_1 2 (by decide) ho0) rfl rfl (by decide) inX3_addColumn_RX3 kX3_addColumn_9 rfl dX3_addColumn_6 ?_
  refine h.iload_n (pc := 9) dX3_addColumn_9 rfl 0 rfl ?_
  refine h.iload_n (pc := 10) dX3_addColumn_10 rfl 2 rfl ?_
  obtain ⟨hj11, hw⟩ := hw
  refine h.iast (pc := 11) (f := 5) (o := o0) (i := 0) (n := 6) (ix := (M 1 o0 0 0)) (x := v1) (k_1 2 (by decide) ho0) (fun _ => rfl) hj11 dX3_addColumn_11 (fun M11 e11 => ?_)
  replace hw := hw M11 e11
  refine h.aload_n (pc := 12) dX3_addColumn_12 rfl 1 rfl ?_
  refine h.getf (pc := 13) (f := 1) (o := o0) (i := 0) (ci := 3) (C := RX3) (T := TX3) (N := 9) (j := 2) (v := .ref (gA G (6, o0, 0))) (k_1 2 (by decide) ho0) rfl rfl (by decide) inX3_addColumn_RX3 kX3_addColumn_15 rfl dX3_addColumn_13 ?_
  refine h.iload_n (pc := 16) dX3_addColumn_16 rfl 0 rfl ?_
  refine h.iload_n (pc := 17) dX3_addColumn_17 rfl 3 rfl ?_
  obtain ⟨hj18, hw⟩ := hw
  refine h.iast (pc := 18) (f := 6) (o := o0) (i := 0) (n := 6) (ix := (M 1 o0 0 0)) (x := v2) (k_1 2 (by decide) ho0) (fun _ => rfl) hj18 dX3_addColumn_18 (fun M18 e18 => ?_)
  replace hw := hw M18 e18
  refine h.aload_n (pc := 19) dX3_addColumn_19 rfl 1 rfl ?_
  refine h.dup (pc := 20) dX3_addColumn_20 rfl ?_
  refine h.getf (pc := 21) (f := 1) (o := o0) (i := 0) (ci := 3) (C := RX3) (T := TX3) (N := 9) (j := 0) (v := .int (M18 1 o0 0 0)) (k_1 2 (by decide) ho0) rfl rfl (by decide) inX3_addColumn_RX3 kX3_addColumn_37 rfl dX3_addColumn_21 ?_
  refine h.iconst (pc := 24) (v := 1) dX3_addColumn_24 (by decide) ?_
  refine h.iadd (pc := 25) dX3_addColumn_25 ?_
  refine h.putf (pc := 26) (f := 1) (o := o0) (i := 0) (ci := 3) (C := RX3) (T := TX3) (N := 9) (j := 0) (ty := .int) (ty0 := tyX3) (x := ((M18 1 o0 0 0) + 1)) (k_1 2 (by decide) ho0) rfl rfl (by decide) inX3_addColumn_RX3 tyX3_ok nmX3 kX3_addColumn_37 rfl (tyX3_ok 0 (by decide)) rfl rfl (Nat.le_of_ble_eq_true rfl) rfl dX3_addColumn_26 (fun M26 e26 => ?_)
  replace hw := hw M26 e26
  refine h.iload_n (pc := 29) dX3_addColumn_29 rfl 0 rfl ?_
  exact hr _ _ _ _ dX3_addColumn_30 hw
-- X3_addRow
theorem inX3_addRow_RX3 : ∀ w ∈ u_ws RX3 TX3 9, w ∈ wsX3_addRow := by decide +kernel
theorem kX3_addRow_26 : Cond.fieldLink RX3 26 (TX3 6).1 (TX3 6).2.1 (TX3 6).2.2.1 ∈ wsX3_addRow := by decide +kernel
theorem kX3_addRow_41 : Cond.fieldLink RX3 41 (TX3 5).1 (TX3 5).2.1 (TX3 5).2.2.1 ∈ wsX3_addRow := by decide +kernel
abbrev F_X3_addRow : Nat := 1
abbrev L_X3_addRow : Nat := 21
theorem hd_X3_addRow : yX3_addRow.cls = RX3 ∧ yX3_addRow.cls ≠ "java/lang/invoke/MethodHandle" ∧ yX3_addRow.cls ≠ "java/lang/invoke/VarHandle" ∧ (parseMethodDescriptor yX3_addRow.desc).map (fun d => d.parameters.length) = some 0 := by decide +kernel
def wp_X3_addRow (o0 : Nat) (M : Mem) (Q : Int32 → Mem → Prop) : Prop := (vp_in (M 1 o0 0 5) 30 ∧ (wp_X1_clear o0 ((M 1 o0 0 5).toNatClampNeg) M (fun M9 => (∀ M19 : Mem, M19 = sM M9 1 o0 0 5 ((M9 1 o0 0 5) + 1) → Q ((M19 1 o0 0 5) - 1) M19))))
set_option maxHeartbeats 4000000 in
set_option maxRecDepth 100000 in
theorem m_X3_addRow {l : Launch} {G : GG} (hG : GoodG G) {o0 : Nat}  {M : Mem} {Q : Int32 → Mem → Prop} (ho0 : o0 < 2) (hw : wp_X3_addRow o0 M Q) : CTi l G yX3_addRow wsX3_addRow F_X3_addRow L_X3_addRow [.ref (gA G (1, o0, 0))] M Q := by
  refine CTi_mk hG (by decide +kernel) rfl (Nat.le_of_ble_eq_true rfl) (fun Z (h : AX l G cX3_addRow 1 RX3 wsX3_addRow F_X3_addRow L_X3_addRow Z) hr => ?_)
  show Z 0 [(0, .ref (gA G (1, o0, 0)))] [] M
  unfold wp_X3_addRow at hw
  refine h.aload_n (pc := 0) dX3_addRow_0 rfl 0 rfl ?_
  refine h.getf (pc := 1) (f := 1) (o := o0) (i := 0) (ci := 3) (C := RX3) (T := TX3) (N := 9) (j := 6) (v := .ref (gA G (11, o0, 0))) (k_1 2 (by decide) ho0) rfl rfl (by decide) inX3_addRow_RX3 kX3_addRow_26 rfl dX3_addRow_1 ?_
  refine h.aload_n (pc := 4) dX3_addRow_4 rfl 0 rfl ?_
  refine h.getf (pc := 5) (f := 1) (o := o0) (i := 0) (ci := 3) (C := RX3) (T := TX3) (N := 9) (j := 5) (v := .int (M 1 o0 0 5)) (k_1 2 (by decide) ho0) rfl rfl (by decide) inX3_addRow_RX3 kX3_addRow_41 rfl dX3_addRow_5 ?_
  obtain ⟨hj8, hw⟩ := hw
  refine h.aald (pc := 8) (o := o0) (ix := (M 1 o0 0 5)) ho0 hj8 dX3_addRow_8 ?_
  refine h.cVv (pc := 9) [] (4, o0, (M 1 o0 0 5).toNatClampNeg) [] (m_X1_clear hG ho0 (vin_lt hj8) hw) gX3_addRow_X1_clear rfl hd_X1_clear (by decide) (k_2 (by decide) ho0 (vin_lt hj8)) rfl rfl rfl rfl rfl (Nat.le_of_ble_eq_true rfl) dX3_addRow_9 (fun M9 hw => ?_)
  refine h.aload_n (pc := 12) dX3_addRow_12 rfl 0 rfl ?_
  refine h.dup (pc := 13) dX3_addRow_13 rfl ?_
  refine h.getf (pc := 14) (f := 1) (o := o0) (i := 0) (ci := 3) (C := RX3) (T := TX3) (N := 9) (j := 5) (v := .int (M9 1 o0 0 5)) (k_1 2 (by decide) ho0) rfl rfl (by decide) inX3_addRow_RX3 kX3_addRow_41 rfl dX3_addRow_14 ?_
  refine h.iconst (pc := 17) (v := 1) dX3_addRow_17 (by decide) ?_
  refine h.iadd (pc := 18) dX3_addRow_18 ?_
  refine h.putf (pc := 19) (f := 1) (o := o0) (i := 0) (ci := 3) (C := RX3) (T := TX3) (N := 9) (j := 5) (ty := .int) (ty0 := tyX3) (x := ((M9 1 o0 0 5) + 1)) (k_1 2 (by decide) ho0) rfl rfl (by decide) inX3_addRow_RX3 tyX3_ok nmX3 kX3_addRow_41 rfl (tyX3_ok 5 (by decide)) rfl rfl (Nat.le_of_ble_eq_true rfl) rfl dX3_addRow_19 (fun M19 e19 => ?_)
  replace hw := hw M19 e19
  refine h.aload_n (pc := 22) dX3_addRow_22 rfl 0 rfl ?_
  refine h.getf (pc := 23) (f := 1) (o := o0) (i := 0) (ci := 3) (C := RX3) (T := TX3) (N := 9) (j := 5) (v := .int (M19 1 o0 0 5)) (k_1 2 (by decide) ho0) rfl rfl (by decide) inX3_addRow_RX3 kX3_addRow_41 rfl dX3_addRow_23 ?_
  refine h.iconst (pc := 26) (v := 1) dX3_addRow_26 (by decide) ?_
  refine h.isub (pc := 27) dX3_addRow_27 ?_
  exact hr _ _ _ _ dX3_addRow_28 hw
-- X3_copyFrom
theorem inX3_copyFrom_RX3 : ∀ w ∈ u_ws RX3 TX3 9, w ∈ wsX3_copyFrom := by decide +kernel
theorem kX3_copyFrom_37 : Cond.fieldLink RX3 37 (TX3 0).1 (TX3 0).2.1 (TX3 0).2.2.1 ∈ wsX3_copyFrom := by decide +kernel
theorem kX3_copyFrom_9 : Cond.fieldLink RX3 9 (TX3 1).1 (TX3 1).2.1 (TX3 1).2.2.1 ∈ wsX3_copyFrom := by decide +kernel
theorem kX3_copyFrom_15 : Cond.fieldLink RX3 15 (TX3 2).1 (TX3 2).2.1 (TX3 2).2.2.1 ∈ wsX3_copyFrom := by decide +kernel
theorem kX3_copyFrom_18 : Cond.fieldLink RX3 18 (TX3 3).1 (TX3 3).2.1 (TX3 3).2.2.1 ∈ wsX3_copyFrom := by decide +kernel
theorem kX3_copyFrom_21 : Cond.fieldLink RX3 21 (TX3 4).1 (TX3 4).2.1 (TX3 4).2.2.1 ∈ wsX3_copyFrom := by decide +kernel
theorem kX3_copyFrom_41 : Cond.fieldLink RX3 41 (TX3 5).1 (TX3 5).2.1 (TX3 5).2.2.1 ∈ wsX3_copyFrom := by decide +kernel
theorem kX3_copyFrom_26 : Cond.fieldLink RX3 26 (TX3 6).1 (TX3 6).2.1 (TX3 6).2.2.1 ∈ wsX3_copyFrom := by decide +kernel
abbrev F_X3_copyFrom : Nat := 1
abbrev L_X3_copyFrom : Nat := 22
theorem hd_X3_copyFrom : yX3_copyFrom.cls = RX3 ∧ yX3_copyFrom.cls ≠ "java/lang/invoke/MethodHandle" ∧ yX3_copyFrom.cls ≠ "java/lang/invoke/VarHandle" ∧ (parseMethodDescriptor yX3_copyFrom.desc).map (fun d => d.parameters.length) = some 1 := by decide +kernel
def wp_X3_copyFrom_L10 (o0 : Nat) (o1 : Nat)  (X : Mem → Prop) (Q : Mem → Prop) : Nat → Int32 → Mem → Prop
  | 0, _, _ => False
  | n + 1, v2, M => (((M 1 o0 0 0) ≤ v2 → X M) ∧ (¬ ((M 1 o0 0 0) ≤ v2) → (vp_in v2 6 ∧ (vp_in v2 6 ∧ (∀ M29 : Mem, M29 = sM M 5 o0 0 v2.toNatClampNeg (M 5 o1 0 v2.toNatClampNeg) → (vp_in v2 6 ∧ (vp_in v2 6 ∧ (∀ M41 : Mem, M41 = sM M29 6 o0 0 v2.toNatClampNeg (M29 6 o1 0 v2.toNatClampNeg) → (vp_in v2 6 ∧ (vp_in v2 6 ∧ (∀ M53 : Mem, M53 = sM M41 7 o0 0 v2.toNatClampNeg (M41 7 o1 0 v2.toNatClampNeg) → (vp_in v2 6 ∧ (vp_in v2 6 ∧ (∀ M65 : Mem, M65 = sM M53 8 o0 0 v2.toNatClampNeg (M53 8 o1 0 v2.toNatClampNeg) → (wp_X3_copyFrom_L10 o0 o1 X Q n) (v2 + 1) M65))))))))))))))
set_option maxHeartbeats 4000000 in
set_option maxRecDepth 100000 in
theorem l_X3_copyFrom_L10 {l : Launch} {G : GG} {Z : ZT} (h : AX l G cX3_copyFrom 3 RX3 wsX3_copyFrom F_X3_copyFrom L_X3_copyFrom Z) (hG : GoodG G) {Q : Mem → Prop} (hr : RETv cX3_copyFrom Q Z) (o0 : Nat) (o1 : Nat) (ho0 : o0 < 2) (ho1 : o1 < 2)   (X : Mem → Prop) (hX : ∀  (M : Mem), X  M → Z 72 [(0, .ref (gA G (1, o0, 0))), (1, .ref (gA G (1, o1, 0)))] [] M) : ∀ (n : Nat) (v2 : Int32) (M : Mem), wp_X3_copyFrom_L10 o0 o1 X Q n v2 M → Z 10 [(0, .ref (gA G (1, o0, 0))), (1, .ref (gA G (1, o1, 0))), (2, .int v2)] [] M := by
  intro n
  induction n with
  | zero => intro v2 M hw; exact hw.elim
  | succ n ih =>
    intro v2 M hw
    unfold wp_X3_copyFrom_L10 at hw
    refine h.iload_n (pc := 10) dX3_copyFrom_10 rfl 2 rfl ?_
    refine h.aload_n (pc := 11) dX3_copyFrom_11 rfl 0 rfl ?_
    refine h.getf (pc := 12) (f := 1) (o := o0) (i := 0) (ci := 3) (C := RX3) (T := TX3) (N := 9) (j := 0) (v := .int (M 1 o0 0 0)) (k_1 2 (by decide) ho0) rfl rfl (by decide) inX3_copyFrom_RX3 kX3_copyFrom_37 rfl dX3_copyFrom_12 ?_
    refine h.icmp_ge (pc := 15) 72 dX3_copyFrom_15 (by decide) (fun c15 => ?_) (fun c15 => ?_)
    · replace hw := hw.1 c15
      refine h.sub (pc := 72) [0, 1] (lv' := [(0, .ref (gA G (1, o0, 0))), (1, .ref (gA G (1, o1, 0)))]) rfl ?_
      exact hX M hw
    · replace hw := hw.2 c15
      refine h.aload_n (pc := 18) dX3_copyFrom_18 rfl 0 rfl ?_
      refine h.getf (pc := 19) (f := 1) (o := o0) (i := 0) (ci := 3) (C := RX3) (T := TX3) (N := 9) (j := 1) (v := .ref (gA G (5, o0, 0))) (k_1 2 (by decide) ho0) rfl rfl (by decide) inX3_copyFrom_RX3 kX3_copyFrom_9 rfl dX3_copyFrom_19 ?_
      refine h.iload_n (pc := 22) dX3_copyFrom_22 rfl 2 rfl ?_
      refine h.aload_n (pc := 23) dX3_copyFrom_23 rfl 1 rfl ?_
      refine h.getf (pc := 24) (f := 1) (o := o1) (i := 0) (ci := 3) (C := RX3) (T := TX3) (N := 9) (j := 1) (v := .ref (gA G (5, o1, 0))) (k_1 2 (by decide) ho1) rfl rfl (by decide) inX3_copyFrom_RX3 kX3_copyFrom_9 rfl dX3_copyFrom_24 ?_
      refine h.iload_n (pc := 27) dX3_copyFrom_27 rfl 2 rfl ?_
      obtain ⟨hj28, hw⟩ := hw
      refine h.iald (pc := 28) (f := 5) (o := o1) (i := 0) (n := 6) (k_1 2 (by decide) ho1) (fun _ => rfl) hj28 dX3_copyFrom_28 ?_
      obtain ⟨hj29, hw⟩ := hw
      refine h.iast (pc := 29) (f := 5) (o := o0) (i := 0) (n := 6) (ix := v2) (x := (M 5 o1 0 v2.toNatClampNeg)) (k_1 2 (by decide) ho0) (fun _ => rfl) hj29 dX3_copyFrom_29 (fun M29 e29 => ?_)
      replace hw := hw M29 e29
      refine h.aload_n (pc := 30) dX3_copyFrom_30 rfl 0 rfl ?_
      refine h.getf (pc := 31) (f := 1) (o := o0) (i := 0) (ci := 3) (C := RX3) (T := TX3) (N := 9) (j := 2) (v := .ref (gA G (6, o0, 0))) (k_1 2 (by decide) ho0) rfl rfl (by decide) inX3_copyFrom_RX3 kX3_copyFrom_15 rfl dX3_copyFrom_31 ?_
      refine h.iload_n (pc := 34) dX3_copyFrom_34 rfl 2 rfl ?_
      refine h.aload_n (pc := 35) dX3_copyFrom_35 rfl 1 rfl ?_
      refine h.getf (pc := 36) (f := 1) (o := o1) (i := 0) (ci := 3) (C := RX3) (T := TX3) (N := 9) (j := 2) (v := .ref (gA G (6, o1, 0))) (k_1 2 (by decide) ho1) rfl rfl (by decide) inX3_copyFrom_RX3 kX3_copyFrom_15 rfl dX3_copyFrom_36 ?_
      refine h.iload_n (pc := 39) dX3_copyFrom_39 rfl 2 rfl ?_
      obtain ⟨hj40, hw⟩ := hw
      refine h.iald (pc := 40) (f := 6) (o := o1) (i := 0) (n := 6) (k_1 2 (by decide) ho1) (fun _ => rfl) hj40 dX3_copyFrom_40 ?_
      obtain ⟨hj41, hw⟩ := hw
      refine h.iast (pc := 41) (f := 6) (o := o0) (i := 0) (n := 6) (ix := v2) (x := (M29 6 o1 0 v2.toNatClampNeg)) (k_1 2 (by decide) ho0) (fun _ => rfl) hj41 dX3_copyFrom_41 (fun M41 e41 => ?_)
      replace hw := hw M41 e41
      refine h.aload_n (pc := 42) dX3_copyFrom_42 rfl 0 rfl ?_
      refine h.getf (pc := 43) (f := 1) (o := o0) (i := 0) (ci := 3) (C := RX3) (T := TX3) (N := 9) (j := 3) (v := .ref (gA G (7, o0, 0))) (k_1 2 (by decide) ho0) rfl rfl (by decide) inX3_copyFrom_RX3 kX3_copyFrom_18 rfl dX3_copyFrom_43 ?_
      refine h.iload_n (pc := 46) dX3_copyFrom_46 rfl 2 rfl ?_
      refine h.aload_n (pc := 47) dX3_copyFrom_47 rfl 1 rfl ?_
      refine h.getf (pc := 48) (f := 1) (o := o1) (i := 0) (ci := 3) (C := RX3) (T := TX3) (N := 9) (j := 3) (v := .ref (gA G (7, o1, 0))) (k_1 2 (by decide) ho1) rfl rfl (by decide) inX3_copyFrom_RX3 kX3_copyFrom_18 rfl dX3_copyFrom_48 ?_
      refine h.iload_n (pc := 51) dX3_copyFrom_51 rfl 2 rfl ?_
      obtain ⟨hj52, hw⟩ := hw
      refine h.iald (pc := 52) (f := 7) (o := o1) (i := 0) (n := 6) (k_1 2 (by decide) ho1) (fun _ => rfl) hj52 dX3_copyFrom_52 ?_
      obtain ⟨hj53, hw⟩ := hw
      refine h.iast (pc := 53) (f := 7) (o := o0) (i := 0) (n := 6) (ix := v2) (x := (M41 7 o1 0 v2.toNatClampNeg)) (k_1 2 (by decide) ho0) (fun _ => rfl) hj53 dX3_copyFrom_53 (fun M53 e53 => ?_)
      replace hw := hw M53 e53
      refine h.aload_n (pc := 54) dX3_copyFrom_54 rfl 0 rfl ?_
      refine h.getf (pc := 55) (f := 1) (o := o0) (i := 0) (ci := 3) (C := RX3) (T := TX3) (N := 9) (j := 4) (v := .ref (gA G (8, o0, 0))) (k_1 2 (by decide) ho0) rfl rfl (by decide) inX3_copyFrom_RX3 kX3_copyFrom_21 rfl dX3_copyFrom_55 ?_
      refine h.iload_n (pc := 58) dX3_copyFrom_58 rfl 2 rfl ?_
      refine h.aload_n (pc := 59) dX3_copyFrom_59 rfl 1 rfl ?_
      refine h.getf (pc := 60) (f := 1) (o := o1) (i := 0) (ci := 3) (C := RX3) (T := TX3) (N := 9) (j := 4) (v := .ref (gA G (8, o1, 0))) (k_1 2 (by decide) ho1) rfl rfl (by decide) inX3_copyFrom_RX3 kX3_copyFrom_21 rfl dX3_copyFrom_60 ?_
      refine h.iload_n (pc := 63) dX3_copyFrom_63 rfl 2 rfl ?_
      obtain ⟨hj64, hw⟩ := hw
      refine h.iald (pc := 64) (f := 8) (o := o1) (i := 0) (n := 6) (k_1 2 (by decide) ho1) (fun _ => rfl) hj64 dX3_copyFrom_64 ?_
      obtain ⟨hj65, hw⟩ := hw
      refine h.iast (pc := 65) (f := 8) (o := o0) (i := 0) (n := 6) (ix := v2) (x := (M53 8 o1 0 v2.toNatClampNeg)) (k_1 2 (by decide) ho0) (fun _ => rfl) hj65 dX3_copyFrom_65 (fun M65 e65 => ?_)
      replace hw := hw M65 e65
      refine h.iinc (pc := 66) [(2, .int (v2 + 1)), (0, .ref (gA G (1, o0, 0))), (1, .ref (gA G (1, o1, 0)))] dX3_copyFrom_66 2 rfl (inc_ (by decide)) (by decide) rfl ?_
      refine h.goto (pc := 69) 10 dX3_copyFrom_69 (by decide) ?_
      refine h.sub (pc := 10) [1, 2, 0] (lv' := [(0, .ref (gA G (1, o0, 0))), (1, .ref (gA G (1, o1, 0))), (2, .int (v2 + 1))]) rfl ?_
      exact ih (v2 + 1) M65 hw
def wp_X3_copyFrom_L82 (o0 : Nat) (o1 : Nat)  (X : Mem → Prop) (Q : Mem → Prop) : Nat → Int32 → Mem → Prop
  | 0, _, _ => False
  | n + 1, v2, M => (((M 1 o0 0 5) ≤ v2 → X M) ∧ (¬ ((M 1 o0 0 5) ≤ v2) → (vp_in v2 30 ∧ (vp_in v2 30 ∧ (wp_X1_copyFrom o0 (v2.toNatClampNeg) o1 (v2.toNatClampNeg) M (fun M102 => (wp_X3_copyFrom_L82 o0 o1 X Q n) (v2 + 1) M102))))))
set_option maxHeartbeats 4000000 in
set_option maxRecDepth 100000 in
theorem l_X3_copyFrom_L82 {l : Launch} {G : GG} {Z : ZT} (h : AX l G cX3_copyFrom 3 RX3 wsX3_copyFrom F_X3_copyFrom L_X3_copyFrom Z) (hG : GoodG G) {Q : Mem → Prop} (hr : RETv cX3_copyFrom Q Z) (o0 : Nat) (o1 : Nat) (ho0 : o0 < 2) (ho1 : o1 < 2)   (X : Mem → Prop) (hX : ∀  (M : Mem), X  M → Z 111 [] [] M) : ∀ (n : Nat) (v2 : Int32) (M : Mem), wp_X3_copyFrom_L82 o0 o1 X Q n v2 M → Z 82 [(0, .ref (gA G (1, o0, 0))), (1, .ref (gA G (1, o1, 0))), (2, .int v2)] [] M := by
  intro n
  induction n with
  | zero => intro v2 M hw; exact hw.elim
  | succ n ih =>
    intro v2 M hw
    unfold wp_X3_copyFrom_L82 at hw
    refine h.iload_n (pc := 82) dX3_copyFrom_82 rfl 2 rfl ?_
    refine h.aload_n (pc := 83) dX3_copyFrom_83 rfl 0 rfl ?_
    refine h.getf (pc := 84) (f := 1) (o := o0) (i := 0) (ci := 3) (C := RX3) (T := TX3) (N := 9) (j := 5) (v := .int (M 1 o0 0 5)) (k_1 2 (by decide) ho0) rfl rfl (by decide) inX3_copyFrom_RX3 kX3_copyFrom_41 rfl dX3_copyFrom_84 ?_
    refine h.icmp_ge (pc := 87) 111 dX3_copyFrom_87 (by decide) (fun c87 => ?_) (fun c87 => ?_)
    · replace hw := hw.1 c87
      refine h.sub (pc := 111) [] (lv' := []) rfl ?_
      exact hX M hw
    · replace hw := hw.2 c87
      refine h.aload_n (pc := 90) dX3_copyFrom_90 rfl 0 rfl ?_
      refine h.getf (pc := 91) (f := 1) (o := o0) (i := 0) (ci := 3) (C := RX3) (T := TX3) (N := 9) (j := 6) (v := .ref (gA G (11, o0, 0))) (k_1 2 (by decide) ho0) rfl rfl (by decide) inX3_copyFrom_RX3 kX3_copyFrom_26 rfl dX3_copyFrom_91 ?_
      refine h.iload_n (pc := 94) dX3_copyFrom_94 rfl 2 rfl ?_
      obtain ⟨hj95, hw⟩ := hw
      refine h.aald (pc := 95) (o := o0) (ix := v2) ho0 hj95 dX3_copyFrom_95 ?_
      refine h.aload_n (pc := 96) dX3_copyFrom_96 rfl 1 rfl ?_
      refine h.getf (pc := 97) (f := 1) (o := o1) (i := 0) (ci := 3) (C := RX3) (T := TX3) (N := 9) (j := 6) (v := .ref (gA G (11, o1, 0))) (k_1 2 (by decide) ho1) rfl rfl (by decide) inX3_copyFrom_RX3 kX3_copyFrom_26 rfl dX3_copyFrom_97 ?_
      refine h.iload_n (pc := 100) dX3_copyFrom_100 rfl 2 rfl ?_
      obtain ⟨hj101, hw⟩ := hw
      refine h.aald (pc := 101) (o := o1) (ix := v2) ho1 hj101 dX3_copyFrom_101 ?_
      refine h.cVv (pc := 102) [.ref (gA G (4, o1, v2.toNatClampNeg))] (4, o0, v2.toNatClampNeg) [] (m_X1_copyFrom hG ho0 (vin_lt hj95) ho1 (vin_lt hj101) hw) gX3_copyFrom_X1_copyFrom rfl hd_X1_copyFrom (by decide) (k_2 (by decide) ho0 (vin_lt hj95)) rfl rfl rfl rfl rfl (Nat.le_of_ble_eq_true rfl) dX3_copyFrom_102 (fun M102 hw => ?_)
      refine h.iinc (pc := 105) [(2, .int (v2 + 1)), (0, .ref (gA G (1, o0, 0))), (1, .ref (gA G (1, o1, 0)))] dX3_copyFrom_105 2 rfl (inc_ (by decide)) (by decide) rfl ?_
      refine h.goto (pc := 108) 82 dX3_copyFrom_108 (by decide) ?_
      refine h.sub (pc := 82) [1, 2, 0] (lv' := [(0, .ref (gA G (1, o0, 0))), (1, .ref (gA G (1, o1, 0))), (2, .int (v2 + 1))]) rfl ?_
      exact ih (v2 + 1) M102 hw
def wp_X3_copyFrom_L72 (o0 : Nat) (o1 : Nat)  (Q : Mem → Prop)  (M : Mem) : Prop := (∀ M77 : Mem, M77 = sM M 1 o0 0 5 (M 1 o1 0 5) → ∃ n82, wp_X3_copyFrom_L82 o0 o1 (fun M => Q M) Q n82 0 M77)
set_option maxHeartbeats 4000000 in
set_option maxRecDepth 100000 in
theorem l_X3_copyFrom_L72 {l : Launch} {G : GG} {Z : ZT} (h : AX l G cX3_copyFrom 3 RX3 wsX3_copyFrom F_X3_copyFrom L_X3_copyFrom Z) (hG : GoodG G) {Q : Mem → Prop} (hr : RETv cX3_copyFrom Q Z) (o0 : Nat) (o1 : Nat) (ho0 : o0 < 2) (ho1 : o1 < 2)   (M : Mem) (hw : wp_X3_copyFrom_L72 o0 o1 Q M) : Z 72 [(0, .ref (gA G (1, o0, 0))), (1, .ref (gA G (1, o1, 0)))] [] M := by
  unfold wp_X3_copyFrom_L72 at hw
  refine h.aload_n (pc := 72) dX3_copyFrom_72 rfl 0 rfl ?_
  refine h.aload_n (pc := 73) dX3_copyFrom_73 rfl 1 rfl ?_
  refine h.getf (pc := 74) (f := 1) (o := o1) (i := 0) (ci := 3) (C := RX3) (T := TX3) (N := 9) (j := 5) (v := .int (M 1 o1 0 5)) (k_1 2 (by decide) ho1) rfl rfl (by decide) inX3_copyFrom_RX3 kX3_copyFrom_41 rfl dX3_copyFrom_74 ?_
  refine h.putf (pc := 77) (f := 1) (o := o0) (i := 0) (ci := 3) (C := RX3) (T := TX3) (N := 9) (j := 5) (ty := .int) (ty0 := tyX3) (x := (M 1 o1 0 5)) (k_1 2 (by decide) ho0) rfl rfl (by decide) inX3_copyFrom_RX3 tyX3_ok nmX3 kX3_copyFrom_41 rfl (tyX3_ok 5 (by decide)) rfl rfl (Nat.le_of_ble_eq_true rfl) rfl dX3_copyFrom_77 (fun M77 e77 => ?_)
  replace hw := hw M77 e77
  refine h.iconst (pc := 80) (v := 0) dX3_copyFrom_80 (by decide) ?_
  refine h.istore_n (pc := 81) [(2, .int 0), (0, .ref (gA G (1, o0, 0))), (1, .ref (gA G (1, o1, 0)))] dX3_copyFrom_81 rfl (by decide) rfl ?_
  refine h.sub (pc := 82) [1, 2, 0] (lv' := [(0, .ref (gA G (1, o0, 0))), (1, .ref (gA G (1, o1, 0))), (2, .int 0)]) rfl ?_
  obtain ⟨n82, hw⟩ := hw
  exact l_X3_copyFrom_L82 h hG hr o0 o1 ho0 ho1 _ (fun M hw => by
      exact hr _ _ _ dX3_copyFrom_111 hw) n82 0 M77 hw
def wp_X3_copyFrom (o0 : Nat) (o1 : Nat) (M : Mem) (Q : Mem → Prop) : Prop := (∀ M5 : Mem, M5 = sM M 1 o0 0 0 (M 1 o1 0 0) → ∃ n10, wp_X3_copyFrom_L10 o0 o1 (fun M => wp_X3_copyFrom_L72 o0 o1 Q M) Q n10 0 M5)
set_option maxHeartbeats 4000000 in
set_option maxRecDepth 100000 in
theorem m_X3_copyFrom {l : Launch} {G : GG} (hG : GoodG G) {o0 : Nat} {o1 : Nat}  {M : Mem} {Q : Mem → Prop} (ho0 : o0 < 2) (ho1 : o1 < 2) (hw : wp_X3_copyFrom o0 o1 M Q) : CTv l G yX3_copyFrom wsX3_copyFrom F_X3_copyFrom L_X3_copyFrom [.ref (gA G (1, o0, 0)), .ref (gA G (1, o1, 0))] M Q := by
  refine CTv_mk hG (by decide +kernel) rfl (Nat.le_of_ble_eq_true rfl) (fun Z (h : AX l G cX3_copyFrom 3 RX3 wsX3_copyFrom F_X3_copyFrom L_X3_copyFrom Z) hr => ?_)
  show Z 0 [(0, .ref (gA G (1, o0, 0))), (1, .ref (gA G (1, o1, 0)))] [] M
  unfold wp_X3_copyFrom at hw
  refine h.aload_n (pc := 0) dX3_copyFrom_0 rfl 0 rfl ?_
  refine h.aload_n (pc := 1) dX3_copyFrom_1 rfl 1 rfl ?_
  refine h.getf (pc := 2) (f := 1) (o := o1) (i := 0) (ci := 3) (C := RX3) (T := TX3) (N := 9) (j := 0) (v := .int (M 1 o1 0 0)) (k_1 2 (by decide) ho1) rfl rfl (by decide) inX3_copyFrom_RX3 kX3_copyFrom_37 rfl dX3_copyFrom_2 ?_
  refine h.putf (pc := 5) (f := 1) (o := o0) (i := 0) (ci := 3) (C := RX3) (T := TX3) (N := 9) (j := 0) (ty := .int) (ty0 := tyX3) (x := (M 1 o1 0 0)) (k_1 2 (by decide) ho0) rfl rfl (by decide) inX3_copyFrom_RX3 tyX3_ok nmX3 kX3_copyFrom_37 rfl (tyX3_ok 0 (by decide)) rfl rfl (Nat.le_of_ble_eq_true rfl) rfl dX3_copyFrom_5 (fun M5 e5 => ?_)
  replace hw := hw M5 e5
  refine h.iconst (pc := 8) (v := 0) dX3_copyFrom_8 (by decide) ?_
  refine h.istore_n (pc := 9) [(2, .int 0), (0, .ref (gA G (1, o0, 0))), (1, .ref (gA G (1, o1, 0)))] dX3_copyFrom_9 rfl (by decide) rfl ?_
  refine h.sub (pc := 10) [1, 2, 0] (lv' := [(0, .ref (gA G (1, o0, 0))), (1, .ref (gA G (1, o1, 0))), (2, .int 0)]) rfl ?_
  obtain ⟨n10, hw⟩ := hw
  exact l_X3_copyFrom_L10 h hG hr o0 o1 ho0 ho1 _ (fun M hw => by
      exact l_X3_copyFrom_L72 h hG hr o0 o1 ho0 ho1 M hw) n10 0 M5 hw
-- X3_sumUpTo
theorem inX3_sumUpTo_RX1 : ∀ w ∈ u_ws RX1 TX1 8, w ∈ wsX3_sumUpTo := by decide +kernel
theorem inX3_sumUpTo_RX3 : ∀ w ∈ u_ws RX3 TX3 9, w ∈ wsX3_sumUpTo := by decide +kernel
theorem kX3_sumUpTo_9 : Cond.fieldLink RX3 9 (TX3 1).1 (TX3 1).2.1 (TX3 1).2.2.1 ∈ wsX3_sumUpTo := by decide +kernel
theorem kX3_sumUpTo_26 : Cond.fieldLink RX3 26 (TX3 6).1 (TX3 6).2.1 (TX3 6).2.2.1 ∈ wsX3_sumUpTo := by decide +kernel
abbrev F_X3_sumUpTo : Nat := 0
abbrev L_X3_sumUpTo : Nat := 0
theorem hd_X3_sumUpTo : yX3_sumUpTo.cls = RX3 ∧ yX3_sumUpTo.cls ≠ "java/lang/invoke/MethodHandle" ∧ yX3_sumUpTo.cls ≠ "java/lang/invoke/VarHandle" ∧ (parseMethodDescriptor yX3_sumUpTo.desc).map (fun d => d.parameters.length) = some 2 := by decide +kernel
def wp_X3_sumUpTo (o0 : Nat) (v1 : Int32) (v2 : Int32) (M : Mem) (Q : Int32 → Mem → Prop) : Prop := (vp_in v2 6 ∧ (((M 5 o0 0 v2.toNatClampNeg) = 1 → Q (-1) M) ∧ (¬ ((M 5 o0 0 v2.toNatClampNeg) = 1) → ((0 ≤ v1 → (vp_in v1 30 ∧ (vp_in v2 6 ∧ Q (M 16 o0 (v1.toNatClampNeg) v2.toNatClampNeg) M))) ∧ (¬ (0 ≤ v1) → Q 0 M)))))
set_option maxHeartbeats 4000000 in
set_option maxRecDepth 100000 in
theorem m_X3_sumUpTo {l : Launch} {G : GG} (hG : GoodG G) {o0 : Nat} {v1 : Int32} {v2 : Int32}  {M : Mem} {Q : Int32 → Mem → Prop} (ho0 : o0 < 2) (hw : wp_X3_sumUpTo o0 v1 v2 M Q) : CTi l G yX3_sumUpTo wsX3_sumUpTo F_X3_sumUpTo L_X3_sumUpTo [.ref (gA G (1, o0, 0)), .int v1, .int v2] M Q := by
  refine CTi_mk hG (by decide +kernel) rfl (Nat.le_of_ble_eq_true rfl) (fun Z (h : AX l G cX3_sumUpTo 3 RX3 wsX3_sumUpTo F_X3_sumUpTo L_X3_sumUpTo Z) hr => ?_)
  show Z 0 [(0, .ref (gA G (1, o0, 0))), (1, .int v1), (2, .int v2)] [] M
  unfold wp_X3_sumUpTo at hw
  refine h.aload_n (pc := 0) dX3_sumUpTo_0 rfl 0 rfl ?_
  refine h.getf (pc := 1) (f := 1) (o := o0) (i := 0) (ci := 3) (C := RX3) (T := TX3) (N := 9) (j := 1) (v := .ref (gA G (5, o0, 0))) (k_1 2 (by decide) ho0) rfl rfl (by decide) inX3_sumUpTo_RX3 kX3_sumUpTo_9 rfl dX3_sumUpTo_1 ?_
  refine h.iload_n (pc := 4) dX3_sumUpTo_4 rfl 2 rfl ?_
  obtain ⟨hj5, hw⟩ := hw
  refine h.iald (pc := 5) (f := 5) (o := o0) (i := 0) (n := 6) (k_1 2 (by decide) ho0) (fun _ => rfl) hj5 dX3_sumUpTo_5 ?_
  refine h.iconst (pc := 6) (v := 1) dX3_sumUpTo_6 (by decide) ?_
  refine h.icmp_ne (pc := 7) 12 dX3_sumUpTo_7 (by decide) (fun c7 => ?_) (fun c7 => ?_)
  · replace hw := hw.2 c7
    refine h.iload_n (pc := 12) dX3_sumUpTo_12 rfl 1 rfl ?_
    refine h.if_ge (pc := 13) 20 dX3_sumUpTo_13 (by decide) (fun c13 => ?_) (fun c13 => ?_)
    · replace hw := hw.1 c13
      refine h.aload_n (pc := 20) dX3_sumUpTo_20 rfl 0 rfl ?_
      refine h.getf (pc := 21) (f := 1) (o := o0) (i := 0) (ci := 3) (C := RX3) (T := TX3) (N := 9) (j := 6) (v := .ref (gA G (11, o0, 0))) (k_1 2 (by decide) ho0) rfl rfl (by decide) inX3_sumUpTo_RX3 kX3_sumUpTo_26 rfl dX3_sumUpTo_21 ?_
      refine h.iload_n (pc := 24) dX3_sumUpTo_24 rfl 1 rfl ?_
      obtain ⟨hj25, hw⟩ := hw
      refine h.aald (pc := 25) (o := o0) (ix := v1) ho0 hj25 dX3_sumUpTo_25 ?_
      refine h.getN (pc := 26) (f := 4) (o := o0) (i := v1.toNatClampNeg) (ci := 1) (C := RX1) (T := TX1) (N := 8) (j := 6) (v := .ref (gA G (16, o0, v1.toNatClampNeg))) (k_2 (by decide) ho0 (vin_lt hj25)) rfl rfl (by decide) inX3_sumUpTo_RX1 (own0 := RX3) (host := "TableWright") rfl nw_14 rfl dX3_sumUpTo_26 ?_
      refine h.iload_n (pc := 29) dX3_sumUpTo_29 rfl 2 rfl ?_
      obtain ⟨hj30, hw⟩ := hw
      refine h.iald (pc := 30) (f := 16) (o := o0) (i := v1.toNatClampNeg) (n := 6) (k_2 (by decide) ho0 (vin_lt hj25)) (fun _ => rfl) hj30 dX3_sumUpTo_30 ?_
      exact hr _ _ _ _ dX3_sumUpTo_31 hw
    · replace hw := hw.2 c13
      refine h.iconst (pc := 16) (v := 0) dX3_sumUpTo_16 (by decide) ?_
      refine h.goto (pc := 17) 31 dX3_sumUpTo_17 (by decide) ?_
      exact hr _ _ _ _ dX3_sumUpTo_31 hw
  · replace hw := hw.1 c7
    refine h.iconst (pc := 10) (v := (-1)) dX3_sumUpTo_10 (by decide) ?_
    exact hr _ _ _ _ dX3_sumUpTo_11 hw
-- X3_linesOfNotes
theorem inX3_linesOfNotes_RX1 : ∀ w ∈ u_ws RX1 TX1 8, w ∈ wsX3_linesOfNotes := by decide +kernel
theorem inX3_linesOfNotes_RX3 : ∀ w ∈ u_ws RX3 TX3 9, w ∈ wsX3_linesOfNotes := by decide +kernel
theorem kX3_linesOfNotes_41 : Cond.fieldLink RX3 41 (TX3 5).1 (TX3 5).2.1 (TX3 5).2.2.1 ∈ wsX3_linesOfNotes := by decide +kernel
theorem kX3_linesOfNotes_26 : Cond.fieldLink RX3 26 (TX3 6).1 (TX3 6).2.1 (TX3 6).2.2.1 ∈ wsX3_linesOfNotes := by decide +kernel
abbrev F_X3_linesOfNotes : Nat := 0
abbrev L_X3_linesOfNotes : Nat := 0
theorem hd_X3_linesOfNotes : yX3_linesOfNotes.cls = RX3 ∧ yX3_linesOfNotes.cls ≠ "java/lang/invoke/MethodHandle" ∧ yX3_linesOfNotes.cls ≠ "java/lang/invoke/VarHandle" ∧ (parseMethodDescriptor yX3_linesOfNotes.desc).map (fun d => d.parameters.length) = some 0 := by decide +kernel
def wp_X3_linesOfNotes_L4 (o0 : Nat)  (X : Int32 → Mem → Prop) (Q : Int32 → Mem → Prop) : Nat → Int32 → Int32 → Mem → Prop
  | 0, _, _, _ => False
  | n + 1, v1, v2, M => (((M 1 o0 0 5) ≤ v2 → X v1 M) ∧ (¬ ((M 1 o0 0 5) ≤ v2) → (vp_in v2 30 ∧ (wp_X3_linesOfNotes_L4 o0 X Q n) (v1 + (M 4 o0 (v2.toNatClampNeg) 4)) (v2 + 1) M)))
set_option maxHeartbeats 4000000 in
set_option maxRecDepth 100000 in
theorem l_X3_linesOfNotes_L4 {l : Launch} {G : GG} {Z : ZT} (h : AX l G cX3_linesOfNotes 3 RX3 wsX3_linesOfNotes F_X3_linesOfNotes L_X3_linesOfNotes Z) (hG : GoodG G) {Q : Int32 → Mem → Prop} (hr : RETi cX3_linesOfNotes Q Z) (o0 : Nat) (ho0 : o0 < 2)   (X : Int32 → Mem → Prop) (hX : ∀ (v1 : Int32) (M : Mem), X v1 M → Z 30 [(1, .int v1)] [] M) : ∀ (n : Nat) (v1 : Int32) (v2 : Int32) (M : Mem), wp_X3_linesOfNotes_L4 o0 X Q n v1 v2 M → Z 4 [(0, .ref (gA G (1, o0, 0))), (1, .int v1), (2, .int v2)] [] M := by
  intro n
  induction n with
  | zero => intro v1 v2 M hw; exact hw.elim
  | succ n ih =>
    intro v1 v2 M hw
    unfold wp_X3_linesOfNotes_L4 at hw
    refine h.iload_n (pc := 4) dX3_linesOfNotes_4 rfl 2 rfl ?_
    refine h.aload_n (pc := 5) dX3_linesOfNotes_5 rfl 0 rfl ?_
    refine h.getf (pc := 6) (f := 1) (o := o0) (i := 0) (ci := 3) (C := RX3) (T := TX3) (N := 9) (j := 5) (v := .int (M 1 o0 0 5)) (k_1 2 (by decide) ho0) rfl rfl (by decide) inX3_linesOfNotes_RX3 kX3_linesOfNotes_41 rfl dX3_linesOfNotes_6 ?_
    refine h.icmp_ge (pc := 9) 30 dX3_linesOfNotes_9 (by decide) (fun c9 => ?_) (fun c9 => ?_)
    · replace hw := hw.1 c9
      refine h.sub (pc := 30) [1] (lv' := [(1, .int v1)]) rfl ?_
      exact hX v1 M hw
    · replace hw := hw.2 c9
      refine h.iload_n (pc := 12) dX3_linesOfNotes_12 rfl 1 rfl ?_
      refine h.aload_n (pc := 13) dX3_linesOfNotes_13 rfl 0 rfl ?_
      refine h.getf (pc := 14) (f := 1) (o := o0) (i := 0) (ci := 3) (C := RX3) (T := TX3) (N := 9) (j := 6) (v := .ref (gA G (11, o0, 0))) (k_1 2 (by decide) ho0) rfl rfl (by decide) inX3_linesOfNotes_RX3 kX3_linesOfNotes_26 rfl dX3_linesOfNotes_14 ?_
      refine h.iload_n (pc := 17) dX3_linesOfNotes_17 rfl 2 rfl ?_
      obtain ⟨hj18, hw⟩ := hw
      refine h.aald (pc := 18) (o := o0) (ix := v2) ho0 hj18 dX3_linesOfNotes_18 ?_
      refine h.getN (pc := 19) (f := 4) (o := o0) (i := v2.toNatClampNeg) (ci := 1) (C := RX1) (T := TX1) (N := 8) (j := 4) (v := .int (M 4 o0 (v2.toNatClampNeg) 4)) (k_2 (by decide) ho0 (vin_lt hj18)) rfl rfl (by decide) inX3_linesOfNotes_RX1 (own0 := RX3) (host := "TableWright") rfl nw_9 rfl dX3_linesOfNotes_19 ?_
      refine h.iadd (pc := 22) dX3_linesOfNotes_22 ?_
      refine h.istore_n (pc := 23) [(1, .int (v1 + (M 4 o0 (v2.toNatClampNeg) 4))), (0, .ref (gA G (1, o0, 0))), (2, .int v2)] dX3_linesOfNotes_23 rfl (by decide) rfl ?_
      refine h.iinc (pc := 24) [(2, .int (v2 + 1)), (1, .int (v1 + (M 4 o0 (v2.toNatClampNeg) 4))), (0, .ref (gA G (1, o0, 0)))] dX3_linesOfNotes_24 2 rfl (inc_ (by decide)) (by decide) rfl ?_
      refine h.goto (pc := 27) 4 dX3_linesOfNotes_27 (by decide) ?_
      refine h.sub (pc := 4) [2, 1, 0] (lv' := [(0, .ref (gA G (1, o0, 0))), (1, .int (v1 + (M 4 o0 (v2.toNatClampNeg) 4))), (2, .int (v2 + 1))]) rfl ?_
      exact ih (v1 + (M 4 o0 (v2.toNatClampNeg) 4)) (v2 + 1) M hw
def wp_X3_linesOfNotes (o0 : Nat) (M : Mem) (Q : Int32 → Mem → Prop) : Prop := ∃ n4, wp_X3_linesOfNotes_L4 o0 (fun v1 M => Q v1 M) Q n4 0 0 M
set_option maxHeartbeats 4000000 in
set_option maxRecDepth 100000 in
theorem m_X3_linesOfNotes {l : Launch} {G : GG} (hG : GoodG G) {o0 : Nat}  {M : Mem} {Q : Int32 → Mem → Prop} (ho0 : o0 < 2) (hw : wp_X3_linesOfNotes o0 M Q) : CTi l G yX3_linesOfNotes wsX3_linesOfNotes F_X3_linesOfNotes L_X3_linesOfNotes [.ref (gA G (1, o0, 0))] M Q := by
  refine CTi_mk hG (by decide +kernel) rfl (Nat.le_of_ble_eq_true rfl) (fun Z (h : AX l G cX3_linesOfNotes 3 RX3 wsX3_linesOfNotes F_X3_linesOfNotes L_X3_linesOfNotes Z) hr => ?_)
  show Z 0 [(0, .ref (gA G (1, o0, 0)))] [] M
  unfold wp_X3_linesOfNotes at hw
  refine h.iconst (pc := 0) (v := 0) dX3_linesOfNotes_0 (by decide) ?_
  refine h.istore_n (pc := 1) [(1, .int 0), (0, .ref (gA G (1, o0, 0)))] dX3_linesOfNotes_1 rfl (by decide) rfl ?_
  refine h.iconst (pc := 2) (v := 0) dX3_linesOfNotes_2 (by decide) ?_
  refine h.istore_n (pc := 3) [(2, .int 0), (1, .int 0), (0, .ref (gA G (1, o0, 0)))] dX3_linesOfNotes_3 rfl (by decide) rfl ?_
  refine h.sub (pc := 4) [2, 1, 0] (lv' := [(0, .ref (gA G (1, o0, 0))), (1, .int 0), (2, .int 0)]) rfl ?_
  obtain ⟨n4, hw⟩ := hw
  exact l_X3_linesOfNotes_L4 h hG hr o0 ho0 _ (fun v1 M hw => by
      refine h.iload_n (pc := 30) dX3_linesOfNotes_30 rfl 0 rfl ?_
      exact hr _ _ _ _ dX3_linesOfNotes_31 hw) n4 0 0 M hw
-- X3_isSpanning
theorem inX3_isSpanning_RX1 : ∀ w ∈ u_ws RX1 TX1 8, w ∈ wsX3_isSpanning := by decide +kernel
theorem inX3_isSpanning_RX3 : ∀ w ∈ u_ws RX3 TX3 9, w ∈ wsX3_isSpanning := by decide +kernel
theorem kX3_isSpanning_37 : Cond.fieldLink RX3 37 (TX3 0).1 (TX3 0).2.1 (TX3 0).2.2.1 ∈ wsX3_isSpanning := by decide +kernel
theorem kX3_isSpanning_26 : Cond.fieldLink RX3 26 (TX3 6).1 (TX3 6).2.1 (TX3 6).2.2.1 ∈ wsX3_isSpanning := by decide +kernel
abbrev F_X3_isSpanning : Nat := 0
abbrev L_X3_isSpanning : Nat := 0
theorem hd_X3_isSpanning : yX3_isSpanning.cls = RX3 ∧ yX3_isSpanning.cls ≠ "java/lang/invoke/MethodHandle" ∧ yX3_isSpanning.cls ≠ "java/lang/invoke/VarHandle" ∧ (parseMethodDescriptor yX3_isSpanning.desc).map (fun d => d.parameters.length) = some 2 := by decide +kernel
def wp_X3_isSpanning (o0 : Nat) (v1 : Int32) (v2 : Int32) (M : Mem) (Q : Int32 → Mem → Prop) : Prop := (((M 1 o0 0 0) ≤ (v2 + 1) → Q 0 M) ∧ (¬ ((M 1 o0 0 0) ≤ (v2 + 1)) → (vp_in v1 30 ∧ (vp_in (v2 + 1) 6 ∧ (((M 17 o0 (v1.toNatClampNeg) (v2 + 1).toNatClampNeg) = 0 → Q 0 M) ∧ (¬ ((M 17 o0 (v1.toNatClampNeg) (v2 + 1).toNatClampNeg) = 0) → Q 1 M))))))
set_option maxHeartbeats 4000000 in
set_option maxRecDepth 100000 in
theorem m_X3_isSpanning {l : Launch} {G : GG} (hG : GoodG G) {o0 : Nat} {v1 : Int32} {v2 : Int32}  {M : Mem} {Q : Int32 → Mem → Prop} (ho0 : o0 < 2) (hw : wp_X3_isSpanning o0 v1 v2 M Q) : CTi l G yX3_isSpanning wsX3_isSpanning F_X3_isSpanning L_X3_isSpanning [.ref (gA G (1, o0, 0)), .int v1, .int v2] M Q := by
  refine CTz_mk hG (by decide +kernel) rfl (Nat.le_of_ble_eq_true rfl) (fun Z (h : AX l G cX3_isSpanning 3 RX3 wsX3_isSpanning F_X3_isSpanning L_X3_isSpanning Z) hr => ?_)
  show Z 0 [(0, .ref (gA G (1, o0, 0))), (1, .int v1), (2, .int v2)] [] M
  unfold wp_X3_isSpanning at hw
  refine h.iload_n (pc := 0) dX3_isSpanning_0 rfl 2 rfl ?_
  refine h.iconst (pc := 1) (v := 1) dX3_isSpanning_1 (by decide) ?_
  refine h.iadd (pc := 2) dX3_isSpanning_2 ?_
  refine h.aload_n (pc := 3) dX3_isSpanning_3 rfl 0 rfl ?_
  refine h.getf (pc := 4) (f := 1) (o := o0) (i := 0) (ci := 3) (C := RX3) (T := TX3) (N := 9) (j := 0) (v := .int (M 1 o0 0 0)) (k_1 2 (by decide) ho0) rfl rfl (by decide) inX3_isSpanning_RX3 kX3_isSpanning_37 rfl dX3_isSpanning_4 ?_
  refine h.icmp_ge (pc := 7) 30 dX3_isSpanning_7 (by decide) (fun c7 => ?_) (fun c7 => ?_)
  · replace hw := hw.1 c7
    refine h.iconst (pc := 30) (v := 0) dX3_isSpanning_30 (by decide) ?_
    exact hr _ _ _ _ dX3_isSpanning_31 zb_0 hw
  · replace hw := hw.2 c7
    refine h.aload_n (pc := 10) dX3_isSpanning_10 rfl 0 rfl ?_
    refine h.getf (pc := 11) (f := 1) (o := o0) (i := 0) (ci := 3) (C := RX3) (T := TX3) (N := 9) (j := 6) (v := .ref (gA G (11, o0, 0))) (k_1 2 (by decide) ho0) rfl rfl (by decide) inX3_isSpanning_RX3 kX3_isSpanning_26 rfl dX3_isSpanning_11 ?_
    refine h.iload_n (pc := 14) dX3_isSpanning_14 rfl 1 rfl ?_
    obtain ⟨hj15, hw⟩ := hw
    refine h.aald (pc := 15) (o := o0) (ix := v1) ho0 hj15 dX3_isSpanning_15 ?_
    refine h.getN (pc := 16) (f := 4) (o := o0) (i := v1.toNatClampNeg) (ci := 1) (C := RX1) (T := TX1) (N := 8) (j := 7) (v := .ref (gA G (17, o0, v1.toNatClampNeg))) (k_2 (by decide) ho0 (vin_lt hj15)) rfl rfl (by decide) inX3_isSpanning_RX1 (own0 := RX3) (host := "TableWright") rfl nw_15 rfl dX3_isSpanning_16 ?_
    refine h.iload_n (pc := 19) dX3_isSpanning_19 rfl 2 rfl ?_
    refine h.iconst (pc := 20) (v := 1) dX3_isSpanning_20 (by decide) ?_
    refine h.iadd (pc := 21) dX3_isSpanning_21 ?_
    obtain ⟨hj22, hw⟩ := hw
    refine h.zald (pc := 22) (f := 17) (o := o0) (i := v1.toNatClampNeg) (n := 6) (k_2 (by decide) ho0 (vin_lt hj15)) (fun _ => rfl) hj22 dX3_isSpanning_22 ?_
    refine h.if_eq (pc := 23) 30 dX3_isSpanning_23 (by decide) (fun c23 => ?_) (fun c23 => ?_)
    · replace hw := hw.1 c23
      refine h.iconst (pc := 30) (v := 0) dX3_isSpanning_30 (by decide) ?_
      exact hr _ _ _ _ dX3_isSpanning_31 zb_0 hw
    · replace hw := hw.2 c23
      refine h.iconst (pc := 26) (v := 1) dX3_isSpanning_26 (by decide) ?_
      refine h.goto (pc := 27) 31 dX3_isSpanning_27 (by decide) ?_
      exact hr _ _ _ _ dX3_isSpanning_31 zb_1 hw
-- X3_reckonHidden
theorem inX3_reckonHidden_RX1 : ∀ w ∈ u_ws RX1 TX1 8, w ∈ wsX3_reckonHidden := by decide +kernel
theorem inX3_reckonHidden_RX3 : ∀ w ∈ u_ws RX3 TX3 9, w ∈ wsX3_reckonHidden := by decide +kernel
theorem kX3_reckonHidden_41 : Cond.fieldLink RX3 41 (TX3 5).1 (TX3 5).2.1 (TX3 5).2.2.1 ∈ wsX3_reckonHidden := by decide +kernel
theorem kX3_reckonHidden_26 : Cond.fieldLink RX3 26 (TX3 6).1 (TX3 6).2.1 (TX3 6).2.2.1 ∈ wsX3_reckonHidden := by decide +kernel
theorem kX3_reckonHidden_9 : Cond.fieldLink RX3 9 (TX3 1).1 (TX3 1).2.1 (TX3 1).2.2.1 ∈ wsX3_reckonHidden := by decide +kernel
abbrev F_X3_reckonHidden : Nat := 0
abbrev L_X3_reckonHidden : Nat := 0
theorem hd_X3_reckonHidden : yX3_reckonHidden.cls = RX3 ∧ yX3_reckonHidden.cls ≠ "java/lang/invoke/MethodHandle" ∧ yX3_reckonHidden.cls ≠ "java/lang/invoke/VarHandle" ∧ (parseMethodDescriptor yX3_reckonHidden.desc).map (fun d => d.parameters.length) = some 1 := by decide +kernel
def wp_X3_reckonHidden_L79 (o0 : Nat) (v1 : Int32) (B : Int32 → Mem → Prop) (X : Mem → Prop) (Q : Mem → Prop) (v2 : Int32) (v3 : Int32) (t0 : Int32) (t1 : Int32) (p2 : Nat) (q2 : Nat) (M : Mem) : Prop := (vp_in t1 6 ∧ (zb t0 ∧ (∀ M79 : Mem, M79 = sM M 17 p2 q2 t1.toNatClampNeg t0 → B (v3 + 1) M79)))
set_option maxHeartbeats 4000000 in
set_option maxRecDepth 100000 in
theorem l_X3_reckonHidden_L79 {l : Launch} {G : GG} {Z : ZT} (h : AX l G cX3_reckonHidden 5 RX3 wsX3_reckonHidden F_X3_reckonHidden L_X3_reckonHidden Z) (hG : GoodG G) {Q : Mem → Prop} (hr : RETv cX3_reckonHidden Q Z) (o0 : Nat) (v1 : Int32) (ho0 : o0 < 2) (v2 : Int32) (v3 : Int32) (t0 : Int32) (t1 : Int32) (p2 : Nat) (q2 : Nat) (hp2 : p2 < 2) (hq2 : q2 < 30) {B : Int32 → Mem → Prop} (hB : ∀ (v3 : Int32) (M : Mem), B v3 M → Z 24 [(0, .ref (gA G (1, o0, 0))), (1, .int v1), (2, .int v2), (3, .int v3)] [] M) {X : Mem → Prop} (hX : ∀  (M : Mem), X  M → Z 86 [] [] M) (M : Mem) (hw : wp_X3_reckonHidden_L79 o0 v1 B X Q v2 v3 t0 t1 p2 q2 M) : Z 79 [(0, .ref (gA G (1, o0, 0))), (1, .int v1), (2, .int v2), (3, .int v3)] [.int t0, .int t1, .ref (gA G (17, p2, q2))] M := by
  unfold wp_X3_reckonHidden_L79 at hw
  obtain ⟨hj79, hw⟩ := hw
  obtain ⟨hb79, hw⟩ := hw
  refine h.zast (pc := 79) (f := 17) (o := p2) (i := q2) (n := 6) (ix := t1) (x := t0) (k_2 (by decide) hp2 hq2) (fun _ => rfl) hj79 hb79 dX3_reckonHidden_79 (fun M79 e79 => ?_)
  replace hw := hw M79 e79
  refine h.iinc (pc := 80) [(3, .int (v3 + 1)), (0, .ref (gA G (1, o0, 0))), (1, .int v1), (2, .int v2)] dX3_reckonHidden_80 3 rfl (inc_ (by decide)) (by decide) rfl ?_
  refine h.goto (pc := 83) 24 dX3_reckonHidden_83 (by decide) ?_
  refine h.sub (pc := 24) [1, 2, 3, 0] (lv' := [(0, .ref (gA G (1, o0, 0))), (1, .int v1), (2, .int v2), (3, .int (v3 + 1))]) rfl ?_
  exact hB (v3 + 1) M79 hw
def wp_X3_reckonHidden_L78 (o0 : Nat) (v1 : Int32) (B : Int32 → Mem → Prop) (X : Mem → Prop) (Q : Mem → Prop) (v2 : Int32) (v3 : Int32) (t0 : Int32) (p1 : Nat) (q1 : Nat) (M : Mem) : Prop := wp_X3_reckonHidden_L79 o0 v1 B X Q v2 v3 0 t0 p1 q1 M
set_option maxHeartbeats 4000000 in
set_option maxRecDepth 100000 in
theorem l_X3_reckonHidden_L78 {l : Launch} {G : GG} {Z : ZT} (h : AX l G cX3_reckonHidden 5 RX3 wsX3_reckonHidden F_X3_reckonHidden L_X3_reckonHidden Z) (hG : GoodG G) {Q : Mem → Prop} (hr : RETv cX3_reckonHidden Q Z) (o0 : Nat) (v1 : Int32) (ho0 : o0 < 2) (v2 : Int32) (v3 : Int32) (t0 : Int32) (p1 : Nat) (q1 : Nat) (hp1 : p1 < 2) (hq1 : q1 < 30) {B : Int32 → Mem → Prop} (hB : ∀ (v3 : Int32) (M : Mem), B v3 M → Z 24 [(0, .ref (gA G (1, o0, 0))), (1, .int v1), (2, .int v2), (3, .int v3)] [] M) {X : Mem → Prop} (hX : ∀  (M : Mem), X  M → Z 86 [] [] M) (M : Mem) (hw : wp_X3_reckonHidden_L78 o0 v1 B X Q v2 v3 t0 p1 q1 M) : Z 78 [(0, .ref (gA G (1, o0, 0))), (1, .int v1), (2, .int v2), (3, .int v3)] [.int t0, .ref (gA G (17, p1, q1))] M := by
  unfold wp_X3_reckonHidden_L78 at hw
  refine h.iconst (pc := 78) (v := 0) dX3_reckonHidden_78 (by decide) ?_
  exact l_X3_reckonHidden_L79 h hG hr o0 v1 ho0 v2 v3 0 t0 p1 q1 hp1 hq1 hB hX M hw
def wp_X3_reckonHidden_L24 (o0 : Nat) (v1 : Int32) (v2 : Int32) (X : Mem → Prop) (Q : Mem → Prop) : Nat → Int32 → Mem → Prop
  | 0, _, _ => False
  | n + 1, v3, M => (((M 1 o0 0 5) ≤ v3 → X M) ∧ (¬ ((M 1 o0 0 5) ≤ v3) → (vp_in v3 30 ∧ ((v2 = 0 → wp_X3_reckonHidden_L78 o0 v1 (wp_X3_reckonHidden_L24 o0 v1 v2 X Q n) X Q v2 v3 v1 o0 (v3.toNatClampNeg) M) ∧ (¬ (v2 = 0) → (vp_in (v1 - 1) 6 ∧ (((M 15 o0 (v3.toNatClampNeg) (v1 - 1).toNatClampNeg) = 0 → wp_X3_reckonHidden_L78 o0 v1 (wp_X3_reckonHidden_L24 o0 v1 v2 X Q n) X Q v2 v3 v1 o0 (v3.toNatClampNeg) M) ∧ (¬ ((M 15 o0 (v3.toNatClampNeg) (v1 - 1).toNatClampNeg) = 0) → (vp_in (v1 - 1) 6 ∧ (((M 17 o0 (v3.toNatClampNeg) (v1 - 1).toNatClampNeg) = 0 → wp_X3_reckonHidden_L79 o0 v1 (wp_X3_reckonHidden_L24 o0 v1 v2 X Q n) X Q v2 v3 1 v1 o0 (v3.toNatClampNeg) M) ∧ (¬ ((M 17 o0 (v3.toNatClampNeg) (v1 - 1).toNatClampNeg) = 0) → wp_X3_reckonHidden_L78 o0 v1 (wp_X3_reckonHidden_L24 o0 v1 v2 X Q n) X Q v2 v3 v1 o0 (v3.toNatClampNeg) M)))))))))))
set_option maxHeartbeats 4000000 in
set_option maxRecDepth 100000 in
theorem l_X3_reckonHidden_L24 {l : Launch} {G : GG} {Z : ZT} (h : AX l G cX3_reckonHidden 5 RX3 wsX3_reckonHidden F_X3_reckonHidden L_X3_reckonHidden Z) (hG : GoodG G) {Q : Mem → Prop} (hr : RETv cX3_reckonHidden Q Z) (o0 : Nat) (v1 : Int32) (ho0 : o0 < 2) (v2 : Int32)  (X : Mem → Prop) (hX : ∀  (M : Mem), X  M → Z 86 [] [] M) : ∀ (n : Nat) (v3 : Int32) (M : Mem), wp_X3_reckonHidden_L24 o0 v1 v2 X Q n v3 M → Z 24 [(0, .ref (gA G (1, o0, 0))), (1, .int v1), (2, .int v2), (3, .int v3)] [] M := by
  intro n
  induction n with
  | zero => intro v3 M hw; exact hw.elim
  | succ n ih =>
    intro v3 M hw
    unfold wp_X3_reckonHidden_L24 at hw
    refine h.iload_n (pc := 24) dX3_reckonHidden_24 rfl 3 rfl ?_
    refine h.aload_n (pc := 25) dX3_reckonHidden_25 rfl 0 rfl ?_
    refine h.getf (pc := 26) (f := 1) (o := o0) (i := 0) (ci := 3) (C := RX3) (T := TX3) (N := 9) (j := 5) (v := .int (M 1 o0 0 5)) (k_1 2 (by decide) ho0) rfl rfl (by decide) inX3_reckonHidden_RX3 kX3_reckonHidden_41 rfl dX3_reckonHidden_26 ?_
    refine h.icmp_ge (pc := 29) 86 dX3_reckonHidden_29 (by decide) (fun c29 => ?_) (fun c29 => ?_)
    · replace hw := hw.1 c29
      refine h.sub (pc := 86) [] (lv' := []) rfl ?_
      exact hX M hw
    · replace hw := hw.2 c29
      refine h.aload_n (pc := 32) dX3_reckonHidden_32 rfl 0 rfl ?_
      refine h.getf (pc := 33) (f := 1) (o := o0) (i := 0) (ci := 3) (C := RX3) (T := TX3) (N := 9) (j := 6) (v := .ref (gA G (11, o0, 0))) (k_1 2 (by decide) ho0) rfl rfl (by decide) inX3_reckonHidden_RX3 kX3_reckonHidden_26 rfl dX3_reckonHidden_33 ?_
      refine h.iload_n (pc := 36) dX3_reckonHidden_36 rfl 3 rfl ?_
      obtain ⟨hj37, hw⟩ := hw
      refine h.aald (pc := 37) (o := o0) (ix := v3) ho0 hj37 dX3_reckonHidden_37 ?_
      refine h.astore (pc := 38) [(4, .ref (gA G (4, o0, v3.toNatClampNeg))), (0, .ref (gA G (1, o0, 0))), (1, .int v1), (2, .int v2), (3, .int v3)] dX3_reckonHidden_38 (by decide) rfl ?_
      refine h.aload (pc := 40) dX3_reckonHidden_40 0 rfl ?_
      refine h.getN (pc := 42) (f := 4) (o := o0) (i := v3.toNatClampNeg) (ci := 1) (C := RX1) (T := TX1) (N := 8) (j := 7) (v := .ref (gA G (17, o0, v3.toNatClampNeg))) (k_2 (by decide) ho0 (vin_lt hj37)) rfl rfl (by decide) inX3_reckonHidden_RX1 (own0 := RX3) (host := "TableWright") rfl nw_15 rfl dX3_reckonHidden_42 ?_
      refine h.iload_n (pc := 45) dX3_reckonHidden_45 rfl 2 rfl ?_
      refine h.iload_n (pc := 46) dX3_reckonHidden_46 rfl 3 rfl ?_
      refine h.if_eq (pc := 47) 78 dX3_reckonHidden_47 (by decide) (fun c47 => ?_) (fun c47 => ?_)
      · replace hw := hw.1 c47
        refine h.sub (pc := 78) [1, 2, 3, 4] (lv' := [(0, .ref (gA G (1, o0, 0))), (1, .int v1), (2, .int v2), (3, .int v3)]) rfl ?_
        exact l_X3_reckonHidden_L78 h hG hr o0 v1 ho0 v2 v3 v1 o0 (v3.toNatClampNeg) ho0 (vin_lt hj37) ih hX M hw
      · replace hw := hw.2 c47
        refine h.aload (pc := 50) dX3_reckonHidden_50 0 rfl ?_
        refine h.getN (pc := 52) (f := 4) (o := o0) (i := v3.toNatClampNeg) (ci := 1) (C := RX1) (T := TX1) (N := 8) (j := 3) (v := .ref (gA G (15, o0, v3.toNatClampNeg))) (k_2 (by decide) ho0 (vin_lt hj37)) rfl rfl (by decide) inX3_reckonHidden_RX1 (own0 := RX3) (host := "TableWright") rfl nw_8 rfl dX3_reckonHidden_52 ?_
        refine h.iload_n (pc := 55) dX3_reckonHidden_55 rfl 2 rfl ?_
        refine h.iconst (pc := 56) (v := 1) dX3_reckonHidden_56 (by decide) ?_
        refine h.isub (pc := 57) dX3_reckonHidden_57 ?_
        obtain ⟨hj58, hw⟩ := hw
        refine h.zald (pc := 58) (f := 15) (o := o0) (i := v3.toNatClampNeg) (n := 6) (k_2 (by decide) ho0 (vin_lt hj37)) (fun _ => rfl) hj58 dX3_reckonHidden_58 ?_
        refine h.if_eq (pc := 59) 78 dX3_reckonHidden_59 (by decide) (fun c59 => ?_) (fun c59 => ?_)
        · replace hw := hw.1 c59
          refine h.sub (pc := 78) [1, 2, 3, 4] (lv' := [(0, .ref (gA G (1, o0, 0))), (1, .int v1), (2, .int v2), (3, .int v3)]) rfl ?_
          exact l_X3_reckonHidden_L78 h hG hr o0 v1 ho0 v2 v3 v1 o0 (v3.toNatClampNeg) ho0 (vin_lt hj37) ih hX M hw
        · replace hw := hw.2 c59
          refine h.aload (pc := 62) dX3_reckonHidden_62 0 rfl ?_
          refine h.getN (pc := 64) (f := 4) (o := o0) (i := v3.toNatClampNeg) (ci := 1) (C := RX1) (T := TX1) (N := 8) (j := 7) (v := .ref (gA G (17, o0, v3.toNatClampNeg))) (k_2 (by decide) ho0 (vin_lt hj37)) rfl rfl (by decide) inX3_reckonHidden_RX1 (own0 := RX3) (host := "TableWright") rfl nw_15 rfl dX3_reckonHidden_64 ?_
          refine h.iload_n (pc := 67) dX3_reckonHidden_67 rfl 2 rfl ?_
          refine h.iconst (pc := 68) (v := 1) dX3_reckonHidden_68 (by decide) ?_
          refine h.isub (pc := 69) dX3_reckonHidden_69 ?_
          obtain ⟨hj70, hw⟩ := hw
          refine h.zald (pc := 70) (f := 17) (o := o0) (i := v3.toNatClampNeg) (n := 6) (k_2 (by decide) ho0 (vin_lt hj37)) (fun _ => rfl) hj70 dX3_reckonHidden_70 ?_
          refine h.if_ne (pc := 71) 78 dX3_reckonHidden_71 (by decide) (fun c71 => ?_) (fun c71 => ?_)
          · replace hw := hw.2 c71
            refine h.sub (pc := 78) [1, 2, 3, 4] (lv' := [(0, .ref (gA G (1, o0, 0))), (1, .int v1), (2, .int v2), (3, .int v3)]) rfl ?_
            exact l_X3_reckonHidden_L78 h hG hr o0 v1 ho0 v2 v3 v1 o0 (v3.toNatClampNeg) ho0 (vin_lt hj37) ih hX M hw
          · replace hw := hw.1 c71
            refine h.iconst (pc := 74) (v := 1) dX3_reckonHidden_74 (by decide) ?_
            refine h.goto (pc := 75) 79 dX3_reckonHidden_75 (by decide) ?_
            refine h.sub (pc := 79) [1, 2, 3, 4] (lv' := [(0, .ref (gA G (1, o0, 0))), (1, .int v1), (2, .int v2), (3, .int v3)]) rfl ?_
            exact l_X3_reckonHidden_L79 h hG hr o0 v1 ho0 v2 v3 1 v1 o0 (v3.toNatClampNeg) ho0 (vin_lt hj37) ih hX M hw
def wp_X3_reckonHidden_L21 (o0 : Nat) (v1 : Int32)  (Q : Mem → Prop) (t0 : Int32) (M : Mem) : Prop := ∃ n24, wp_X3_reckonHidden_L24 o0 v1 t0 (fun M => Q M) Q n24 0 M
set_option maxHeartbeats 4000000 in
set_option maxRecDepth 100000 in
theorem l_X3_reckonHidden_L21 {l : Launch} {G : GG} {Z : ZT} (h : AX l G cX3_reckonHidden 5 RX3 wsX3_reckonHidden F_X3_reckonHidden L_X3_reckonHidden Z) (hG : GoodG G) {Q : Mem → Prop} (hr : RETv cX3_reckonHidden Q Z) (o0 : Nat) (v1 : Int32) (ho0 : o0 < 2) (t0 : Int32)  (M : Mem) (hw : wp_X3_reckonHidden_L21 o0 v1 Q t0 M) : Z 21 [(0, .ref (gA G (1, o0, 0))), (1, .int v1)] [.int t0] M := by
  unfold wp_X3_reckonHidden_L21 at hw
  refine h.istore_n (pc := 21) [(2, .int t0), (0, .ref (gA G (1, o0, 0))), (1, .int v1)] dX3_reckonHidden_21 rfl (by decide) rfl ?_
  refine h.iconst (pc := 22) (v := 0) dX3_reckonHidden_22 (by decide) ?_
  refine h.istore_n (pc := 23) [(3, .int 0), (2, .int t0), (0, .ref (gA G (1, o0, 0))), (1, .int v1)] dX3_reckonHidden_23 rfl (by decide) rfl ?_
  refine h.sub (pc := 24) [2, 3, 1, 0] (lv' := [(0, .ref (gA G (1, o0, 0))), (1, .int v1), (2, .int t0), (3, .int 0)]) rfl ?_
  obtain ⟨n24, hw⟩ := hw
  exact l_X3_reckonHidden_L24 h hG hr o0 v1 ho0 t0 _ (fun M hw => by
      exact hr _ _ _ dX3_reckonHidden_86 hw) n24 0 M hw
def wp_X3_reckonHidden_L20 (o0 : Nat) (v1 : Int32)  (Q : Mem → Prop)  (M : Mem) : Prop := wp_X3_reckonHidden_L21 o0 v1 Q 0 M
set_option maxHeartbeats 4000000 in
set_option maxRecDepth 100000 in
theorem l_X3_reckonHidden_L20 {l : Launch} {G : GG} {Z : ZT} (h : AX l G cX3_reckonHidden 5 RX3 wsX3_reckonHidden F_X3_reckonHidden L_X3_reckonHidden Z) (hG : GoodG G) {Q : Mem → Prop} (hr : RETv cX3_reckonHidden Q Z) (o0 : Nat) (v1 : Int32) (ho0 : o0 < 2)   (M : Mem) (hw : wp_X3_reckonHidden_L20 o0 v1 Q M) : Z 20 [(0, .ref (gA G (1, o0, 0))), (1, .int v1)] [] M := by
  unfold wp_X3_reckonHidden_L20 at hw
  refine h.iconst (pc := 20) (v := 0) dX3_reckonHidden_20 (by decide) ?_
  exact l_X3_reckonHidden_L21 h hG hr o0 v1 ho0 0 M hw
def wp_X3_reckonHidden (o0 : Nat) (v1 : Int32) (M : Mem) (Q : Mem → Prop) : Prop := ((v1 ≤ 0 → wp_X3_reckonHidden_L20 o0 v1 Q M) ∧ (¬ (v1 ≤ 0) → (vp_in (v1 - 1) 6 ∧ (((M 5 o0 0 (v1 - 1).toNatClampNeg) = 1 → wp_X3_reckonHidden_L21 o0 v1 Q 1 M) ∧ (¬ ((M 5 o0 0 (v1 - 1).toNatClampNeg) = 1) → wp_X3_reckonHidden_L20 o0 v1 Q M)))))
set_option maxHeartbeats 4000000 in
set_option maxRecDepth 100000 in
theorem m_X3_reckonHidden {l : Launch} {G : GG} (hG : GoodG G) {o0 : Nat} {v1 : Int32}  {M : Mem} {Q : Mem → Prop} (ho0 : o0 < 2) (hw : wp_X3_reckonHidden o0 v1 M Q) : CTv l G yX3_reckonHidden wsX3_reckonHidden F_X3_reckonHidden L_X3_reckonHidden [.ref (gA G (1, o0, 0)), .int v1] M Q := by
  refine CTv_mk hG (by decide +kernel) rfl (Nat.le_of_ble_eq_true rfl) (fun Z (h : AX l G cX3_reckonHidden 5 RX3 wsX3_reckonHidden F_X3_reckonHidden L_X3_reckonHidden Z) hr => ?_)
  show Z 0 [(0, .ref (gA G (1, o0, 0))), (1, .int v1)] [] M
  unfold wp_X3_reckonHidden at hw
  refine h.iload_n (pc := 0) dX3_reckonHidden_0 rfl 1 rfl ?_
  refine h.if_le (pc := 1) 20 dX3_reckonHidden_1 (by decide) (fun c1 => ?_) (fun c1 => ?_)
  · replace hw := hw.1 c1
    exact l_X3_reckonHidden_L20 h hG hr o0 v1 ho0 M hw
  · replace hw := hw.2 c1
    refine h.aload_n (pc := 4) dX3_reckonHidden_4 rfl 0 rfl ?_
    refine h.getf (pc := 5) (f := 1) (o := o0) (i := 0) (ci := 3) (C := RX3) (T := TX3) (N := 9) (j := 1) (v := .ref (gA G (5, o0, 0))) (k_1 2 (by decide) ho0) rfl rfl (by decide) inX3_reckonHidden_RX3 kX3_reckonHidden_9 rfl dX3_reckonHidden_5 ?_
    refine h.iload_n (pc := 8) dX3_reckonHidden_8 rfl 1 rfl ?_
    refine h.iconst (pc := 9) (v := 1) dX3_reckonHidden_9 (by decide) ?_
    refine h.isub (pc := 10) dX3_reckonHidden_10 ?_
    obtain ⟨hj11, hw⟩ := hw
    refine h.iald (pc := 11) (f := 5) (o := o0) (i := 0) (n := 6) (k_1 2 (by decide) ho0) (fun _ => rfl) hj11 dX3_reckonHidden_11 ?_
    refine h.iconst (pc := 12) (v := 1) dX3_reckonHidden_12 (by decide) ?_
    refine h.icmp_ne (pc := 13) 20 dX3_reckonHidden_13 (by decide) (fun c13 => ?_) (fun c13 => ?_)
    · replace hw := hw.2 c13
      exact l_X3_reckonHidden_L20 h hG hr o0 v1 ho0 M hw
    · replace hw := hw.1 c13
      refine h.iconst (pc := 16) (v := 1) dX3_reckonHidden_16 (by decide) ?_
      refine h.goto (pc := 17) 21 dX3_reckonHidden_17 (by decide) ?_
      exact l_X3_reckonHidden_L21 h hG hr o0 v1 ho0 1 M hw
-- X3_reckonNumbers
theorem inX3_reckonNumbers_RX1 : ∀ w ∈ u_ws RX1 TX1 8, w ∈ wsX3_reckonNumbers := by decide +kernel
theorem inX3_reckonNumbers_RX3 : ∀ w ∈ u_ws RX3 TX3 9, w ∈ wsX3_reckonNumbers := by decide +kernel
theorem kX3_reckonNumbers_41 : Cond.fieldLink RX3 41 (TX3 5).1 (TX3 5).2.1 (TX3 5).2.2.1 ∈ wsX3_reckonNumbers := by decide +kernel
theorem kX3_reckonNumbers_26 : Cond.fieldLink RX3 26 (TX3 6).1 (TX3 6).2.1 (TX3 6).2.2.1 ∈ wsX3_reckonNumbers := by decide +kernel
theorem kX3_reckonNumbers_9 : Cond.fieldLink RX3 9 (TX3 1).1 (TX3 1).2.1 (TX3 1).2.2.1 ∈ wsX3_reckonNumbers := by decide +kernel
abbrev F_X3_reckonNumbers : Nat := 0
abbrev L_X3_reckonNumbers : Nat := 0
theorem hd_X3_reckonNumbers : yX3_reckonNumbers.cls = RX3 ∧ yX3_reckonNumbers.cls ≠ "java/lang/invoke/MethodHandle" ∧ yX3_reckonNumbers.cls ≠ "java/lang/invoke/VarHandle" ∧ (parseMethodDescriptor yX3_reckonNumbers.desc).map (fun d => d.parameters.length) = some 1 := by decide +kernel
def wp_X3_reckonNumbers_L4 (o0 : Nat) (v1 : Int32)  (X : Mem → Prop) (Q : Mem → Prop) : Nat → Int32 → Int32 → Mem → Prop
  | 0, _, _, _ => False
  | n + 1, v2, v3, M => (((M 1 o0 0 5) ≤ v3 → X M) ∧ (¬ ((M 1 o0 0 5) ≤ v3) → (vp_in v3 30 ∧ (vp_in v1 6 ∧ (((M 5 o0 0 v1.toNatClampNeg) = 0 → (vp_in v1 6 ∧ (vp_in v1 6 ∧ (∀ M96 : Mem, M96 = sM M 16 o0 (v3.toNatClampNeg) v1.toNatClampNeg (v2 + (M 12 o0 (v3.toNatClampNeg) v1.toNatClampNeg)) → (wp_X3_reckonNumbers_L4 o0 v1 X Q n) (v2 + (M 12 o0 (v3.toNatClampNeg) v1.toNatClampNeg)) (v3 + 1) M96)))) ∧ (¬ ((M 5 o0 0 v1.toNatClampNeg) = 0) → False))))))
set_option maxHeartbeats 4000000 in
set_option maxRecDepth 100000 in
theorem l_X3_reckonNumbers_L4 {l : Launch} {G : GG} {Z : ZT} (h : AX l G cX3_reckonNumbers 9 RX3 wsX3_reckonNumbers F_X3_reckonNumbers L_X3_reckonNumbers Z) (hG : GoodG G) {Q : Mem → Prop} (hr : RETv cX3_reckonNumbers Q Z) (o0 : Nat) (v1 : Int32) (ho0 : o0 < 2)   (X : Mem → Prop) (hX : ∀  (M : Mem), X  M → Z 103 [] [] M) : ∀ (n : Nat) (v2 : Int32) (v3 : Int32) (M : Mem), wp_X3_reckonNumbers_L4 o0 v1 X Q n v2 v3 M → Z 4 [(0, .ref (gA G (1, o0, 0))), (1, .int v1), (2, .int v2), (3, .int v3)] [] M := by
  intro n
  induction n with
  | zero => intro v2 v3 M hw; exact hw.elim
  | succ n ih =>
    intro v2 v3 M hw
    unfold wp_X3_reckonNumbers_L4 at hw
    refine h.iload_n (pc := 4) dX3_reckonNumbers_4 rfl 3 rfl ?_
    refine h.aload_n (pc := 5) dX3_reckonNumbers_5 rfl 0 rfl ?_
    refine h.getf (pc := 6) (f := 1) (o := o0) (i := 0) (ci := 3) (C := RX3) (T := TX3) (N := 9) (j := 5) (v := .int (M 1 o0 0 5)) (k_1 2 (by decide) ho0) rfl rfl (by decide) inX3_reckonNumbers_RX3 kX3_reckonNumbers_41 rfl dX3_reckonNumbers_6 ?_
    refine h.icmp_ge (pc := 9) 103 dX3_reckonNumbers_9 (by decide) (fun c9 => ?_) (fun c9 => ?_)
    · replace hw := hw.1 c9
      refine h.sub (pc := 103) [] (lv' := []) rfl ?_
      exact hX M hw
    · replace hw := hw.2 c9
      refine h.aload_n (pc := 12) dX3_reckonNumbers_12 rfl 0 rfl ?_
      refine h.getf (pc := 13) (f := 1) (o := o0) (i := 0) (ci := 3) (C := RX3) (T := TX3) (N := 9) (j := 6) (v := .ref (gA G (11, o0, 0))) (k_1 2 (by decide) ho0) rfl rfl (by decide) inX3_reckonNumbers_RX3 kX3_reckonNumbers_26 rfl dX3_reckonNumbers_13 ?_
      refine h.iload_n (pc := 16) dX3_reckonNumbers_16 rfl 3 rfl ?_
      obtain ⟨hj17, hw⟩ := hw
      refine h.aald (pc := 17) (o := o0) (ix := v3) ho0 hj17 dX3_reckonNumbers_17 ?_
      refine h.astore (pc := 18) [(4, .ref (gA G (4, o0, v3.toNatClampNeg))), (0, .ref (gA G (1, o0, 0))), (1, .int v1), (2, .int v2), (3, .int v3)] dX3_reckonNumbers_18 (by decide) rfl ?_
      refine h.aload_n (pc := 20) dX3_reckonNumbers_20 rfl 1 rfl ?_
      refine h.getf (pc := 21) (f := 1) (o := o0) (i := 0) (ci := 3) (C := RX3) (T := TX3) (N := 9) (j := 1) (v := .ref (gA G (5, o0, 0))) (k_1 2 (by decide) ho0) rfl rfl (by decide) inX3_reckonNumbers_RX3 kX3_reckonNumbers_9 rfl dX3_reckonNumbers_21 ?_
      refine h.iload_n (pc := 24) dX3_reckonNumbers_24 rfl 2 rfl ?_
      obtain ⟨hj25, hw⟩ := hw
      refine h.iald (pc := 25) (f := 5) (o := o0) (i := 0) (n := 6) (k_1 2 (by decide) ho0) (fun _ => rfl) hj25 dX3_reckonNumbers_25 ?_
      refine h.if_eq (pc := 26) 79 dX3_reckonNumbers_26 (by decide) (fun c26 => ?_) (fun c26 => ?_)
      · replace hw := hw.1 c26
        refine h.iload_n (pc := 79) dX3_reckonNumbers_79 rfl 3 rfl ?_
        refine h.aload (pc := 80) dX3_reckonNumbers_80 0 rfl ?_
        refine h.getN (pc := 82) (f := 4) (o := o0) (i := v3.toNatClampNeg) (ci := 1) (C := RX1) (T := TX1) (N := 8) (j := 0) (v := .ref (gA G (12, o0, v3.toNatClampNeg))) (k_2 (by decide) ho0 (vin_lt hj17)) rfl rfl (by decide) inX3_reckonNumbers_RX1 (own0 := RX3) (host := "TableWright") rfl nw_1 rfl dX3_reckonNumbers_82 ?_
        refine h.iload_n (pc := 85) dX3_reckonNumbers_85 rfl 2 rfl ?_
        obtain ⟨hj86, hw⟩ := hw
        refine h.iald (pc := 86) (f := 12) (o := o0) (i := v3.toNatClampNeg) (n := 6) (k_2 (by decide) ho0 (vin_lt hj17)) (fun _ => rfl) hj86 dX3_reckonNumbers_86 ?_
        refine h.iadd (pc := 87) dX3_reckonNumbers_87 ?_
        refine h.istore_n (pc := 88) [(2, .int (v2 + (M 12 o0 (v3.toNatClampNeg) v1.toNatClampNeg))), (4, .ref (gA G (4, o0, v3.toNatClampNeg))), (0, .ref (gA G (1, o0, 0))), (1, .int v1), (3, .int v3)] dX3_reckonNumbers_88 rfl (by decide) rfl ?_
        refine h.aload (pc := 89) dX3_reckonNumbers_89 1 rfl ?_
        refine h.getN (pc := 91) (f := 4) (o := o0) (i := v3.toNatClampNeg) (ci := 1) (C := RX1) (T := TX1) (N := 8) (j := 6) (v := .ref (gA G (16, o0, v3.toNatClampNeg))) (k_2 (by decide) ho0 (vin_lt hj17)) rfl rfl (by decide) inX3_reckonNumbers_RX1 (own0 := RX3) (host := "TableWright") rfl nw_14 rfl dX3_reckonNumbers_91 ?_
        refine h.iload_n (pc := 94) dX3_reckonNumbers_94 rfl 3 rfl ?_
        refine h.iload_n (pc := 95) dX3_reckonNumbers_95 rfl 0 rfl ?_
        obtain ⟨hj96, hw⟩ := hw
        refine h.iast (pc := 96) (f := 16) (o := o0) (i := v3.toNatClampNeg) (n := 6) (ix := v1) (x := (v2 + (M 12 o0 (v3.toNatClampNeg) v1.toNatClampNeg))) (k_2 (by decide) ho0 (vin_lt hj17)) (fun _ => rfl) hj96 dX3_reckonNumbers_96 (fun M96 e96 => ?_)
        replace hw := hw M96 e96
        refine h.iinc (pc := 97) [(3, .int (v3 + 1)), (2, .int (v2 + (M 12 o0 (v3.toNatClampNeg) v1.toNatClampNeg))), (4, .ref (gA G (4, o0, v3.toNatClampNeg))), (0, .ref (gA G (1, o0, 0))), (1, .int v1)] dX3_reckonNumbers_97 4 rfl (inc_ (by decide)) (by decide) rfl ?_
        refine h.goto (pc := 100) 4 dX3_reckonNumbers_100 (by decide) ?_
        refine h.sub (pc := 4) [3, 4, 1, 0] (lv' := [(0, .ref (gA G (1, o0, 0))), (1, .int v1), (2, .int (v2 + (M 12 o0 (v3.toNatClampNeg) v1.toNatClampNeg))), (3, .int (v3 + 1))]) rfl ?_
        exact ih (v2 + (M 12 o0 (v3.toNatClampNeg) v1.toNatClampNeg)) (v3 + 1) M96 hw
      · replace hw := hw.2 c26
        exact hw.elim
def wp_X3_reckonNumbers (o0 : Nat) (v1 : Int32) (M : Mem) (Q : Mem → Prop) : Prop := ∃ n4, wp_X3_reckonNumbers_L4 o0 v1 (fun M => Q M) Q n4 0 0 M
set_option maxHeartbeats 4000000 in
set_option maxRecDepth 100000 in
theorem m_X3_reckonNumbers {l : Launch} {G : GG} (hG : GoodG G) {o0 : Nat} {v1 : Int32}  {M : Mem} {Q : Mem → Prop} (ho0 : o0 < 2) (hw : wp_X3_reckonNumbers o0 v1 M Q) : CTv l G yX3_reckonNumbers wsX3_reckonNumbers F_X3_reckonNumbers L_X3_reckonNumbers [.ref (gA G (1, o0, 0)), .int v1] M Q := by
  refine CTv_mk hG (by decide +kernel) rfl (Nat.le_of_ble_eq_true rfl) (fun Z (h : AX l G cX3_reckonNumbers 9 RX3 wsX3_reckonNumbers F_X3_reckonNumbers L_X3_reckonNumbers Z) hr => ?_)
  show Z 0 [(0, .ref (gA G (1, o0, 0))), (1, .int v1)] [] M
  unfold wp_X3_reckonNumbers at hw
  refine h.iconst (pc := 0) (v := 0) dX3_reckonNumbers_0 (by decide) ?_
  refine h.istore_n (pc := 1) [(2, .int 0), (0, .ref (gA G (1, o0, 0))), (1, .int v1)] dX3_reckonNumbers_1 rfl (by decide) rfl ?_
  refine h.iconst (pc := 2) (v := 0) dX3_reckonNumbers_2 (by decide) ?_
  refine h.istore_n (pc := 3) [(3, .int 0), (2, .int 0), (0, .ref (gA G (1, o0, 0))), (1, .int v1)] dX3_reckonNumbers_3 rfl (by decide) rfl ?_
  refine h.sub (pc := 4) [2, 3, 1, 0] (lv' := [(0, .ref (gA G (1, o0, 0))), (1, .int v1), (2, .int 0), (3, .int 0)]) rfl ?_
  obtain ⟨n4, hw⟩ := hw
  exact l_X3_reckonNumbers_L4 h hG hr o0 v1 ho0 _ (fun M hw => by
      exact hr _ _ _ dX3_reckonNumbers_103 hw) n4 0 0 M hw
-- X3_sizeOf
abbrev F_X3_sizeOf : Nat := 0
abbrev L_X3_sizeOf : Nat := 0
theorem hd_X3_sizeOf : yX3_sizeOf.cls ≠ "java/lang/invoke/MethodHandle" ∧ yX3_sizeOf.cls ≠ "java/lang/invoke/VarHandle" ∧ (parseMethodDescriptor yX3_sizeOf.desc).map (fun d => d.parameters.length) = some 1 := by decide +kernel
def wp_X3_sizeOf_L15 (v0 : Int32)  (X : Int32 → Mem → Prop) (Q : Int32 → Mem → Prop) : Nat → Int32 → Int32 → Mem → Prop
  | 0, _, _, _ => False
  | n + 1, v1, v2, M => ((v2 = 0 → X v1 M) ∧ (¬ (v2 = 0) → (wp_X3_sizeOf_L15 v0 X Q n) (v1 + 1) (v2 / 10) M))
set_option maxHeartbeats 4000000 in
set_option maxRecDepth 100000 in
theorem l_X3_sizeOf_L15 {l : Launch} {G : GG} {Z : ZT} (h : AX l G cX3_sizeOf 3 RX3 wsX3_sizeOf F_X3_sizeOf L_X3_sizeOf Z) (hG : GoodG G) {Q : Int32 → Mem → Prop} (hr : RETi cX3_sizeOf Q Z) (v0 : Int32)    (X : Int32 → Mem → Prop) (hX : ∀ (v1 : Int32) (M : Mem), X v1 M → Z 30 [(1, .int v1)] [] M) : ∀ (n : Nat) (v1 : Int32) (v2 : Int32) (M : Mem), wp_X3_sizeOf_L15 v0 X Q n v1 v2 M → Z 15 [(1, .int v1), (2, .int v2)] [] M := by
  intro n
  induction n with
  | zero => intro v1 v2 M hw; exact hw.elim
  | succ n ih =>
    intro v1 v2 M hw
    unfold wp_X3_sizeOf_L15 at hw
    refine h.iload_n (pc := 15) dX3_sizeOf_15 rfl 1 rfl ?_
    refine h.if_eq (pc := 16) 30 dX3_sizeOf_16 (by decide) (fun c16 => ?_) (fun c16 => ?_)
    · replace hw := hw.1 c16
      refine h.sub (pc := 30) [0] (lv' := [(1, .int v1)]) rfl ?_
      exact hX v1 M hw
    · replace hw := hw.2 c16
      refine h.iinc (pc := 19) [(1, .int (v1 + 1)), (2, .int v2)] dX3_sizeOf_19 0 rfl (inc_ (by decide)) (by decide) rfl ?_
      refine h.iload_n (pc := 22) dX3_sizeOf_22 rfl 1 rfl ?_
      refine h.bipush (pc := 23) (v := 10) dX3_sizeOf_23 (by decide) ?_
      refine h.idiv (pc := 25) dX3_sizeOf_25 (by decide) ?_
      refine h.istore_n (pc := 26) [(2, .int (v2 / 10)), (1, .int (v1 + 1))] dX3_sizeOf_26 rfl (by decide) rfl ?_
      refine h.goto (pc := 27) 15 dX3_sizeOf_27 (by decide) ?_
      refine h.sub (pc := 15) [1, 0] (lv' := [(1, .int (v1 + 1)), (2, .int (v2 / 10))]) rfl ?_
      exact ih (v1 + 1) (v2 / 10) M hw
def wp_X3_sizeOf_L9 (v0 : Int32)  (Q : Int32 → Mem → Prop) (t0 : Int32) (M : Mem) : Prop := ∃ n15, wp_X3_sizeOf_L15 v0 (fun v1 M => Q v1 M) Q n15 t0 (v0 / 10) M
set_option maxHeartbeats 4000000 in
set_option maxRecDepth 100000 in
theorem l_X3_sizeOf_L9 {l : Launch} {G : GG} {Z : ZT} (h : AX l G cX3_sizeOf 3 RX3 wsX3_sizeOf F_X3_sizeOf L_X3_sizeOf Z) (hG : GoodG G) {Q : Int32 → Mem → Prop} (hr : RETi cX3_sizeOf Q Z) (v0 : Int32)  (t0 : Int32)  (M : Mem) (hw : wp_X3_sizeOf_L9 v0 Q t0 M) : Z 9 [(0, .int v0)] [.int t0] M := by
  unfold wp_X3_sizeOf_L9 at hw
  refine h.istore_n (pc := 9) [(1, .int t0), (0, .int v0)] dX3_sizeOf_9 rfl (by decide) rfl ?_
  refine h.iload_n (pc := 10) dX3_sizeOf_10 rfl 1 rfl ?_
  refine h.bipush (pc := 11) (v := 10) dX3_sizeOf_11 (by decide) ?_
  refine h.idiv (pc := 13) dX3_sizeOf_13 (by decide) ?_
  refine h.istore_n (pc := 14) [(2, .int (v0 / 10)), (1, .int t0), (0, .int v0)] dX3_sizeOf_14 rfl (by decide) rfl ?_
  refine h.sub (pc := 15) [1, 0] (lv' := [(1, .int t0), (2, .int (v0 / 10))]) rfl ?_
  obtain ⟨n15, hw⟩ := hw
  exact l_X3_sizeOf_L15 h hG hr v0 _ (fun v1 M hw => by
      refine h.iload_n (pc := 30) dX3_sizeOf_30 rfl 0 rfl ?_
      exact hr _ _ _ _ dX3_sizeOf_31 hw) n15 t0 (v0 / 10) M hw
def wp_X3_sizeOf (v0 : Int32) (M : Mem) (Q : Int32 → Mem → Prop) : Prop := ((0 ≤ v0 → wp_X3_sizeOf_L9 v0 Q 1 M) ∧ (¬ (0 ≤ v0) → wp_X3_sizeOf_L9 v0 Q 2 M))
set_option maxHeartbeats 4000000 in
set_option maxRecDepth 100000 in
theorem m_X3_sizeOf {l : Launch} {G : GG} (hG : GoodG G) {v0 : Int32}  {M : Mem} {Q : Int32 → Mem → Prop}  (hw : wp_X3_sizeOf v0 M Q) : CTi l G yX3_sizeOf wsX3_sizeOf F_X3_sizeOf L_X3_sizeOf [.int v0] M Q := by
  refine CTi_mk hG (by decide +kernel) rfl (Nat.le_of_ble_eq_true rfl) (fun Z (h : AX l G cX3_sizeOf 3 RX3 wsX3_sizeOf F_X3_sizeOf L_X3_sizeOf Z) hr => ?_)
  show Z 0 [(0, .int v0)] [] M
  unfold wp_X3_sizeOf at hw
  refine h.iload_n (pc := 0) dX3_sizeOf_0 rfl 0 rfl ?_
  refine h.if_ge (pc := 1) 8 dX3_sizeOf_1 (by decide) (fun c1 => ?_) (fun c1 => ?_)
  · replace hw := hw.1 c1
    refine h.iconst (pc := 8) (v := 1) dX3_sizeOf_8 (by decide) ?_
    exact l_X3_sizeOf_L9 h hG hr v0 1 M hw
  · replace hw := hw.2 c1
    refine h.iconst (pc := 4) (v := 2) dX3_sizeOf_4 (by decide) ?_
    refine h.goto (pc := 5) 9 dX3_sizeOf_5 (by decide) ?_
    exact l_X3_sizeOf_L9 h hG hr v0 2 M hw
-- X3_measureText
theorem inX3_measureText_RX1 : ∀ w ∈ u_ws RX1 TX1 8, w ∈ wsX3_measureText := by decide +kernel
theorem inX3_measureText_RX3 : ∀ w ∈ u_ws RX3 TX3 9, w ∈ wsX3_measureText := by decide +kernel
theorem kX3_measureText_15 : Cond.fieldLink RX3 15 (TX3 2).1 (TX3 2).2.1 (TX3 2).2.2.1 ∈ wsX3_measureText := by decide +kernel
theorem kX3_measureText_41 : Cond.fieldLink RX3 41 (TX3 5).1 (TX3 5).2.1 (TX3 5).2.2.1 ∈ wsX3_measureText := by decide +kernel
theorem kX3_measureText_26 : Cond.fieldLink RX3 26 (TX3 6).1 (TX3 6).2.1 (TX3 6).2.2.1 ∈ wsX3_measureText := by decide +kernel
theorem kMX3_measureText_1_max_104 : Cond.methodLink RX3 104 Lib.Math.max.name ∈ wsX3_measureText := by decide +kernel
theorem kMX3_measureText_2_max : Cond.static Lib.Math.max.name ∈ wsX3_measureText := by decide +kernel
theorem kMX3_measureText_3 : Cond.initialized "java/lang/Math" ∈ wsX3_measureText := by decide +kernel
theorem kMX3_measureText_4_max : Cond.code Lib.Math.max.name Lib.Math.max.code 2 (some .int) ∈ wsX3_measureText := by decide +kernel
theorem kX3_measureText_30 : Cond.fieldLink RX3 30 (TX3 7).1 (TX3 7).2.1 (TX3 7).2.2.1 ∈ wsX3_measureText := by decide +kernel
theorem kX3_measureText_33 : Cond.fieldLink RX3 33 (TX3 8).1 (TX3 8).2.1 (TX3 8).2.2.1 ∈ wsX3_measureText := by decide +kernel
theorem kMX3_measureText_1_min_110 : Cond.methodLink RX3 110 Lib.Math.min.name ∈ wsX3_measureText := by decide +kernel
theorem kMX3_measureText_2_min : Cond.static Lib.Math.min.name ∈ wsX3_measureText := by decide +kernel
theorem kMX3_measureText_4_min : Cond.code Lib.Math.min.name Lib.Math.min.code 2 (some .int) ∈ wsX3_measureText := by decide +kernel
abbrev F_X3_measureText : Nat := 1
abbrev L_X3_measureText : Nat := 22
theorem hd_X3_measureText : yX3_measureText.cls = RX3 ∧ yX3_measureText.cls ≠ "java/lang/invoke/MethodHandle" ∧ yX3_measureText.cls ≠ "java/lang/invoke/VarHandle" ∧ (parseMethodDescriptor yX3_measureText.desc).map (fun d => d.parameters.length) = some 1 := by decide +kernel
def wp_X3_measureText_L80 (o0 : Nat) (v1 : Int32) (B : Int32 → Int32 → Int32 → Mem → Prop) (X : Int32 → Int32 → Mem → Prop) (Q : Mem → Prop) (v2 : Int32) (v3 : Int32) (v4 : Int32) (M : Mem) : Prop := B v2 v3 (v4 + 1) M
set_option maxHeartbeats 4000000 in
set_option maxRecDepth 100000 in
theorem l_X3_measureText_L80 {l : Launch} {G : GG} {Z : ZT} (h : AX l G cX3_measureText 5 RX3 wsX3_measureText F_X3_measureText L_X3_measureText Z) (hG : GoodG G) {Q : Mem → Prop} (hr : RETv cX3_measureText Q Z) (o0 : Nat) (v1 : Int32) (ho0 : o0 < 2) (v2 : Int32) (v3 : Int32) (v4 : Int32)  {B : Int32 → Int32 → Int32 → Mem → Prop} (hB : ∀ (v2 : Int32) (v3 : Int32) (v4 : Int32) (M : Mem), B v2 v3 v4 M → Z 12 [(0, .ref (gA G (1, o0, 0))), (1, .int v1), (2, .int v2), (3, .int v3), (4, .int v4)] [] M) {X : Int32 → Int32 → Mem → Prop} (hX : ∀ (v2 : Int32) (v3 : Int32) (M : Mem), X v2 v3 M → Z 86 [(0, .ref (gA G (1, o0, 0))), (1, .int v1), (2, .int v2), (3, .int v3)] [] M) (M : Mem) (hw : wp_X3_measureText_L80 o0 v1 B X Q v2 v3 v4 M) : Z 80 [(0, .ref (gA G (1, o0, 0))), (1, .int v1), (2, .int v2), (3, .int v3), (4, .int v4)] [] M := by
  unfold wp_X3_measureText_L80 at hw
  refine h.iinc (pc := 80) [(4, .int (v4 + 1)), (0, .ref (gA G (1, o0, 0))), (1, .int v1), (2, .int v2), (3, .int v3)] dX3_measureText_80 4 rfl (inc_ (by decide)) (by decide) rfl ?_
  refine h.goto (pc := 83) 12 dX3_measureText_83 (by decide) ?_
  refine h.sub (pc := 12) [1, 2, 3, 4, 0] (lv' := [(0, .ref (gA G (1, o0, 0))), (1, .int v1), (2, .int v2), (3, .int v3), (4, .int (v4 + 1))]) rfl ?_
  exact hB v2 v3 (v4 + 1) M hw
def wp_X3_measureText_L12 (o0 : Nat) (v1 : Int32)  (X : Int32 → Int32 → Mem → Prop) (Q : Mem → Prop) : Nat → Int32 → Int32 → Int32 → Mem → Prop
  | 0, _, _, _, _ => False
  | n + 1, v2, v3, v4, M => (((M 1 o0 0 5) ≤ v4 → X v2 v3 M) ∧ (¬ ((M 1 o0 0 5) ≤ v4) → (vp_in v4 30 ∧ (vp_in v1 6 ∧ (((M 17 o0 (v4.toNatClampNeg) v1.toNatClampNeg) = 0 → (wp_X3_isSpanning o0 v4 v1 M (fun r40 M40 => ((r40 = 0 → (vp_in v4 30 ∧ (vp_in v1 6 ∧ (vp_in v4 30 ∧ (vp_in v1 6 ∧ wp_X3_measureText_L80 o0 v1 (wp_X3_measureText_L12 o0 v1 X Q n) X Q (if v2 < (M40 14 o0 (v4.toNatClampNeg) v1.toNatClampNeg) then (M40 14 o0 (v4.toNatClampNeg) v1.toNatClampNeg) else v2) (if v3 < (M40 13 o0 (v4.toNatClampNeg) v1.toNatClampNeg) then (M40 13 o0 (v4.toNatClampNeg) v1.toNatClampNeg) else v3) v4 M40))))) ∧ (¬ (r40 = 0) → wp_X3_measureText_L80 o0 v1 (wp_X3_measureText_L12 o0 v1 X Q n) X Q v2 v3 v4 M40))))) ∧ (¬ ((M 17 o0 (v4.toNatClampNeg) v1.toNatClampNeg) = 0) → wp_X3_measureText_L80 o0 v1 (wp_X3_measureText_L12 o0 v1 X Q n) X Q v2 v3 v4 M))))))
set_option maxHeartbeats 4000000 in
set_option maxRecDepth 100000 in
theorem l_X3_measureText_L12 {l : Launch} {G : GG} {Z : ZT} (h : AX l G cX3_measureText 5 RX3 wsX3_measureText F_X3_measureText L_X3_measureText Z) (hG : GoodG G) {Q : Mem → Prop} (hr : RETv cX3_measureText Q Z) (o0 : Nat) (v1 : Int32) (ho0 : o0 < 2)   (X : Int32 → Int32 → Mem → Prop) (hX : ∀ (v2 : Int32) (v3 : Int32) (M : Mem), X v2 v3 M → Z 86 [(0, .ref (gA G (1, o0, 0))), (1, .int v1), (2, .int v2), (3, .int v3)] [] M) : ∀ (n : Nat) (v2 : Int32) (v3 : Int32) (v4 : Int32) (M : Mem), wp_X3_measureText_L12 o0 v1 X Q n v2 v3 v4 M → Z 12 [(0, .ref (gA G (1, o0, 0))), (1, .int v1), (2, .int v2), (3, .int v3), (4, .int v4)] [] M := by
  intro n
  induction n with
  | zero => intro v2 v3 v4 M hw; exact hw.elim
  | succ n ih =>
    intro v2 v3 v4 M hw
    unfold wp_X3_measureText_L12 at hw
    refine h.iload (pc := 12) dX3_measureText_12 4 rfl ?_
    refine h.aload_n (pc := 14) dX3_measureText_14 rfl 0 rfl ?_
    refine h.getf (pc := 15) (f := 1) (o := o0) (i := 0) (ci := 3) (C := RX3) (T := TX3) (N := 9) (j := 5) (v := .int (M 1 o0 0 5)) (k_1 2 (by decide) ho0) rfl rfl (by decide) inX3_measureText_RX3 kX3_measureText_41 rfl dX3_measureText_15 ?_
    refine h.icmp_ge (pc := 18) 86 dX3_measureText_18 (by decide) (fun c18 => ?_) (fun c18 => ?_)
    · replace hw := hw.1 c18
      refine h.sub (pc := 86) [0, 1, 2, 3] (lv' := [(0, .ref (gA G (1, o0, 0))), (1, .int v1), (2, .int v2), (3, .int v3)]) rfl ?_
      exact hX v2 v3 M hw
    · replace hw := hw.2 c18
      refine h.aload_n (pc := 21) dX3_measureText_21 rfl 0 rfl ?_
      refine h.getf (pc := 22) (f := 1) (o := o0) (i := 0) (ci := 3) (C := RX3) (T := TX3) (N := 9) (j := 6) (v := .ref (gA G (11, o0, 0))) (k_1 2 (by decide) ho0) rfl rfl (by decide) inX3_measureText_RX3 kX3_measureText_26 rfl dX3_measureText_22 ?_
      refine h.iload (pc := 25) dX3_measureText_25 4 rfl ?_
      obtain ⟨hj27, hw⟩ := hw
      refine h.aald (pc := 27) (o := o0) (ix := v4) ho0 hj27 dX3_measureText_27 ?_
      refine h.getN (pc := 28) (f := 4) (o := o0) (i := v4.toNatClampNeg) (ci := 1) (C := RX1) (T := TX1) (N := 8) (j := 7) (v := .ref (gA G (17, o0, v4.toNatClampNeg))) (k_2 (by decide) ho0 (vin_lt hj27)) rfl rfl (by decide) inX3_measureText_RX1 (own0 := RX3) (host := "TableWright") rfl nw_15 rfl dX3_measureText_28 ?_
      refine h.iload_n (pc := 31) dX3_measureText_31 rfl 1 rfl ?_
      obtain ⟨hj32, hw⟩ := hw
      refine h.zald (pc := 32) (f := 17) (o := o0) (i := v4.toNatClampNeg) (n := 6) (k_2 (by decide) ho0 (vin_lt hj27)) (fun _ => rfl) hj32 dX3_measureText_32 ?_
      refine h.if_ne (pc := 33) 80 dX3_measureText_33 (by decide) (fun c33 => ?_) (fun c33 => ?_)
      · replace hw := hw.2 c33
        exact l_X3_measureText_L80 h hG hr o0 v1 ho0 v2 v3 v4 ih hX M hw
      · replace hw := hw.1 c33
        refine h.aload_n (pc := 36) dX3_measureText_36 rfl 0 rfl ?_
        refine h.iload (pc := 37) dX3_measureText_37 4 rfl ?_
        refine h.iload_n (pc := 39) dX3_measureText_39 rfl 1 rfl ?_
        refine h.cVi (pc := 40) [.int v4, .int v1] (1, o0, 0) [] (m_X3_isSpanning hG ho0 hw) gX3_measureText_X3_isSpanning rfl hd_X3_isSpanning (by decide) (k_1 2 (by decide) ho0) rfl rfl rfl rfl rfl (Nat.le_of_ble_eq_true rfl) dX3_measureText_40 (fun r40 M40 hw => ?_)
        refine h.if_ne (pc := 43) 80 dX3_measureText_43 (by decide) (fun c43 => ?_) (fun c43 => ?_)
        · replace hw := hw.2 c43
          exact l_X3_measureText_L80 h hG hr o0 v1 ho0 v2 v3 v4 ih hX M40 hw
        · replace hw := hw.1 c43
          refine h.iload_n (pc := 46) dX3_measureText_46 rfl 2 rfl ?_
          refine h.aload_n (pc := 47) dX3_measureText_47 rfl 0 rfl ?_
          refine h.getf (pc := 48) (f := 1) (o := o0) (i := 0) (ci := 3) (C := RX3) (T := TX3) (N := 9) (j := 6) (v := .ref (gA G (11, o0, 0))) (k_1 2 (by decide) ho0) rfl rfl (by decide) inX3_measureText_RX3 kX3_measureText_26 rfl dX3_measureText_48 ?_
          refine h.iload (pc := 51) dX3_measureText_51 4 rfl ?_
          obtain ⟨hj53, hw⟩ := hw
          refine h.aald (pc := 53) (o := o0) (ix := v4) ho0 hj53 dX3_measureText_53 ?_
          refine h.getN (pc := 54) (f := 4) (o := o0) (i := v4.toNatClampNeg) (ci := 1) (C := RX1) (T := TX1) (N := 8) (j := 2) (v := .ref (gA G (14, o0, v4.toNatClampNeg))) (k_2 (by decide) ho0 (vin_lt hj53)) rfl rfl (by decide) inX3_measureText_RX1 (own0 := RX3) (host := "TableWright") rfl nw_6 rfl dX3_measureText_54 ?_
          refine h.iload_n (pc := 57) dX3_measureText_57 rfl 1 rfl ?_
          obtain ⟨hj58, hw⟩ := hw
          refine h.iald (pc := 58) (f := 14) (o := o0) (i := v4.toNatClampNeg) (n := 6) (k_2 (by decide) ho0 (vin_lt hj53)) (fun _ => rfl) hj58 dX3_measureText_58 ?_
          refine h.mmax (pc := 59) (st := []) kMX3_measureText_1_max_104 kMX3_measureText_2_max kMX3_measureText_3 kMX3_measureText_4_max (by decide) (Nat.le_of_ble_eq_true rfl) dX3_measureText_59 ?_
          refine h.istore_n (pc := 62) [(2, .int (if v2 < (M40 14 o0 (v4.toNatClampNeg) v1.toNatClampNeg) then (M40 14 o0 (v4.toNatClampNeg) v1.toNatClampNeg) else v2)), (0, .ref (gA G (1, o0, 0))), (1, .int v1), (3, .int v3), (4, .int v4)] dX3_measureText_62 rfl (by decide) rfl ?_
          refine h.iload_n (pc := 63) dX3_measureText_63 rfl 3 rfl ?_
          refine h.aload_n (pc := 64) dX3_measureText_64 rfl 1 rfl ?_
          refine h.getf (pc := 65) (f := 1) (o := o0) (i := 0) (ci := 3) (C := RX3) (T := TX3) (N := 9) (j := 6) (v := .ref (gA G (11, o0, 0))) (k_1 2 (by decide) ho0) rfl rfl (by decide) inX3_measureText_RX3 kX3_measureText_26 rfl dX3_measureText_65 ?_
          refine h.iload (pc := 68) dX3_measureText_68 4 rfl ?_
          obtain ⟨hj70, hw⟩ := hw
          refine h.aald (pc := 70) (o := o0) (ix := v4) ho0 hj70 dX3_measureText_70 ?_
          refine h.getN (pc := 71) (f := 4) (o := o0) (i := v4.toNatClampNeg) (ci := 1) (C := RX1) (T := TX1) (N := 8) (j := 1) (v := .ref (gA G (13, o0, v4.toNatClampNeg))) (k_2 (by decide) ho0 (vin_lt hj70)) rfl rfl (by decide) inX3_measureText_RX1 (own0 := RX3) (host := "TableWright") rfl nw_4 rfl dX3_measureText_71 ?_
          refine h.iload_n (pc := 74) dX3_measureText_74 rfl 2 rfl ?_
          obtain ⟨hj75, hw⟩ := hw
          refine h.iald (pc := 75) (f := 13) (o := o0) (i := v4.toNatClampNeg) (n := 6) (k_2 (by decide) ho0 (vin_lt hj70)) (fun _ => rfl) hj75 dX3_measureText_75 ?_
          refine h.mmax (pc := 76) (st := []) kMX3_measureText_1_max_104 kMX3_measureText_2_max kMX3_measureText_3 kMX3_measureText_4_max (by decide) (Nat.le_of_ble_eq_true rfl) dX3_measureText_76 ?_
          refine h.istore_n (pc := 79) [(3, .int (if v3 < (M40 13 o0 (v4.toNatClampNeg) v1.toNatClampNeg) then (M40 13 o0 (v4.toNatClampNeg) v1.toNatClampNeg) else v3)), (2, .int (if v2 < (M40 14 o0 (v4.toNatClampNeg) v1.toNatClampNeg) then (M40 14 o0 (v4.toNatClampNeg) v1.toNatClampNeg) else v2)), (0, .ref (gA G (1, o0, 0))), (1, .int v1), (4, .int v4)] dX3_measureText_79 rfl (by decide) rfl ?_
          refine h.sub (pc := 80) [2, 3, 1, 0, 4] (lv' := [(0, .ref (gA G (1, o0, 0))), (1, .int v1), (2, .int (if v2 < (M40 14 o0 (v4.toNatClampNeg) v1.toNatClampNeg) then (M40 14 o0 (v4.toNatClampNeg) v1.toNatClampNeg) else v2)), (3, .int (if v3 < (M40 13 o0 (v4.toNatClampNeg) v1.toNatClampNeg) then (M40 13 o0 (v4.toNatClampNeg) v1.toNatClampNeg) else v3)), (4, .int v4)]) rfl ?_
          exact l_X3_measureText_L80 h hG hr o0 v1 ho0 (if v2 < (M40 14 o0 (v4.toNatClampNeg) v1.toNatClampNeg) then (M40 14 o0 (v4.toNatClampNeg) v1.toNatClampNeg) else v2) (if v3 < (M40 13 o0 (v4.toNatClampNeg) v1.toNatClampNeg) then (M40 13 o0 (v4.toNatClampNeg) v1.toNatClampNeg) else v3) v4 ih hX M40 hw
def wp_X3_measureText_L86 (o0 : Nat) (v1 : Int32)  (Q : Mem → Prop) (v2 : Int32) (v3 : Int32) (M : Mem) : Prop := (vp_in v1 6 ∧ (∀ M92 : Mem, M92 = sM M 9 o0 0 v1.toNatClampNeg v2 → (vp_in v1 6 ∧ (∀ M108 : Mem, M108 = sM M92 10 o0 0 v1.toNatClampNeg (if v2 < (if v3 < 30 then v3 else 30) then (if v3 < 30 then v3 else 30) else v2) → Q M108))))
set_option maxHeartbeats 4000000 in
set_option maxRecDepth 100000 in
theorem l_X3_measureText_L86 {l : Launch} {G : GG} {Z : ZT} (h : AX l G cX3_measureText 5 RX3 wsX3_measureText F_X3_measureText L_X3_measureText Z) (hG : GoodG G) {Q : Mem → Prop} (hr : RETv cX3_measureText Q Z) (o0 : Nat) (v1 : Int32) (ho0 : o0 < 2) (v2 : Int32) (v3 : Int32)  (M : Mem) (hw : wp_X3_measureText_L86 o0 v1 Q v2 v3 M) : Z 86 [(0, .ref (gA G (1, o0, 0))), (1, .int v1), (2, .int v2), (3, .int v3)] [] M := by
  unfold wp_X3_measureText_L86 at hw
  refine h.aload_n (pc := 86) dX3_measureText_86 rfl 0 rfl ?_
  refine h.getf (pc := 87) (f := 1) (o := o0) (i := 0) (ci := 3) (C := RX3) (T := TX3) (N := 9) (j := 7) (v := .ref (gA G (9, o0, 0))) (k_1 2 (by decide) ho0) rfl rfl (by decide) inX3_measureText_RX3 kX3_measureText_30 rfl dX3_measureText_87 ?_
  refine h.iload_n (pc := 90) dX3_measureText_90 rfl 1 rfl ?_
  refine h.iload_n (pc := 91) dX3_measureText_91 rfl 2 rfl ?_
  obtain ⟨hj92, hw⟩ := hw
  refine h.iast (pc := 92) (f := 9) (o := o0) (i := 0) (n := 6) (ix := v1) (x := v2) (k_1 2 (by decide) ho0) (fun _ => rfl) hj92 dX3_measureText_92 (fun M92 e92 => ?_)
  replace hw := hw M92 e92
  refine h.aload_n (pc := 93) dX3_measureText_93 rfl 0 rfl ?_
  refine h.getf (pc := 94) (f := 1) (o := o0) (i := 0) (ci := 3) (C := RX3) (T := TX3) (N := 9) (j := 8) (v := .ref (gA G (10, o0, 0))) (k_1 2 (by decide) ho0) rfl rfl (by decide) inX3_measureText_RX3 kX3_measureText_33 rfl dX3_measureText_94 ?_
  refine h.iload_n (pc := 97) dX3_measureText_97 rfl 1 rfl ?_
  refine h.iload_n (pc := 98) dX3_measureText_98 rfl 2 rfl ?_
  refine h.bipush (pc := 99) (v := 30) dX3_measureText_99 (by decide) ?_
  refine h.iload_n (pc := 101) dX3_measureText_101 rfl 3 rfl ?_
  refine h.mmin (pc := 102) (st := [.int v2, .int v1, .ref (gA G (10, o0, 0))]) kMX3_measureText_1_min_110 kMX3_measureText_2_min kMX3_measureText_3 kMX3_measureText_4_min (by decide) (Nat.le_of_ble_eq_true rfl) dX3_measureText_102 ?_
  refine h.mmax (pc := 105) (st := [.int v1, .ref (gA G (10, o0, 0))]) kMX3_measureText_1_max_104 kMX3_measureText_2_max kMX3_measureText_3 kMX3_measureText_4_max (by decide) (Nat.le_of_ble_eq_true rfl) dX3_measureText_105 ?_
  obtain ⟨hj108, hw⟩ := hw
  refine h.iast (pc := 108) (f := 10) (o := o0) (i := 0) (n := 6) (ix := v1) (x := (if v2 < (if v3 < 30 then v3 else 30) then (if v3 < 30 then v3 else 30) else v2)) (k_1 2 (by decide) ho0) (fun _ => rfl) hj108 dX3_measureText_108 (fun M108 e108 => ?_)
  replace hw := hw M108 e108
  exact hr _ _ _ dX3_measureText_109 hw
def wp_X3_measureText (o0 : Nat) (v1 : Int32) (M : Mem) (Q : Mem → Prop) : Prop := (vp_in v1 6 ∧ ∃ n12, wp_X3_measureText_L12 o0 v1 (fun v2 v3 M => wp_X3_measureText_L86 o0 v1 Q v2 v3 M) Q n12 (M 6 o0 0 v1.toNatClampNeg) 0 0 M)
set_option maxHeartbeats 4000000 in
set_option maxRecDepth 100000 in
theorem m_X3_measureText {l : Launch} {G : GG} (hG : GoodG G) {o0 : Nat} {v1 : Int32}  {M : Mem} {Q : Mem → Prop} (ho0 : o0 < 2) (hw : wp_X3_measureText o0 v1 M Q) : CTv l G yX3_measureText wsX3_measureText F_X3_measureText L_X3_measureText [.ref (gA G (1, o0, 0)), .int v1] M Q := by
  refine CTv_mk hG (by decide +kernel) rfl (Nat.le_of_ble_eq_true rfl) (fun Z (h : AX l G cX3_measureText 5 RX3 wsX3_measureText F_X3_measureText L_X3_measureText Z) hr => ?_)
  show Z 0 [(0, .ref (gA G (1, o0, 0))), (1, .int v1)] [] M
  unfold wp_X3_measureText at hw
  refine h.aload_n (pc := 0) dX3_measureText_0 rfl 0 rfl ?_
  refine h.getf (pc := 1) (f := 1) (o := o0) (i := 0) (ci := 3) (C := RX3) (T := TX3) (N := 9) (j := 2) (v := .ref (gA G (6, o0, 0))) (k_1 2 (by decide) ho0) rfl rfl (by decide) inX3_measureText_RX3 kX3_measureText_15 rfl dX3_measureText_1 ?_
  refine h.iload_n (pc := 4) dX3_measureText_4 rfl 1 rfl ?_
  obtain ⟨hj5, hw⟩ := hw
  refine h.iald (pc := 5) (f := 6) (o := o0) (i := 0) (n := 6) (k_1 2 (by decide) ho0) (fun _ => rfl) hj5 dX3_measureText_5 ?_
  refine h.istore_n (pc := 6) [(2, .int (M 6 o0 0 v1.toNatClampNeg)), (0, .ref (gA G (1, o0, 0))), (1, .int v1)] dX3_measureText_6 rfl (by decide) rfl ?_
  refine h.iconst (pc := 7) (v := 0) dX3_measureText_7 (by decide) ?_
  refine h.istore_n (pc := 8) [(3, .int 0), (2, .int (M 6 o0 0 v1.toNatClampNeg)), (0, .ref (gA G (1, o0, 0))), (1, .int v1)] dX3_measureText_8 rfl (by decide) rfl ?_
  refine h.iconst (pc := 9) (v := 0) dX3_measureText_9 (by decide) ?_
  refine h.istore (pc := 10) [(4, .int 0), (3, .int 0), (2, .int (M 6 o0 0 v1.toNatClampNeg)), (0, .ref (gA G (1, o0, 0))), (1, .int v1)] dX3_measureText_10 (by decide) rfl ?_
  refine h.sub (pc := 12) [3, 4, 2, 1, 0] (lv' := [(0, .ref (gA G (1, o0, 0))), (1, .int v1), (2, .int (M 6 o0 0 v1.toNatClampNeg)), (3, .int 0), (4, .int 0)]) rfl ?_
  obtain ⟨n12, hw⟩ := hw
  exact l_X3_measureText_L12 h hG hr o0 v1 ho0 _ (fun v2 v3 M hw => by
      exact l_X3_measureText_L86 h hG hr o0 v1 ho0 v2 v3 M hw) n12 (M 6 o0 0 v1.toNatClampNeg) 0 0 M hw
-- X3_measureNumbers
theorem inX3_measureNumbers_RX1 : ∀ w ∈ u_ws RX1 TX1 8, w ∈ wsX3_measureNumbers := by decide +kernel
theorem inX3_measureNumbers_RX3 : ∀ w ∈ u_ws RX3 TX3 9, w ∈ wsX3_measureNumbers := by decide +kernel
theorem kX3_measureNumbers_15 : Cond.fieldLink RX3 15 (TX3 2).1 (TX3 2).2.1 (TX3 2).2.2.1 ∈ wsX3_measureNumbers := by decide +kernel
theorem kX3_measureNumbers_41 : Cond.fieldLink RX3 41 (TX3 5).1 (TX3 5).2.1 (TX3 5).2.2.1 ∈ wsX3_measureNumbers := by decide +kernel
theorem kX3_measureNumbers_26 : Cond.fieldLink RX3 26 (TX3 6).1 (TX3 6).2.1 (TX3 6).2.2.1 ∈ wsX3_measureNumbers := by decide +kernel
theorem kMX3_measureNumbers_1_max_104 : Cond.methodLink RX3 104 Lib.Math.max.name ∈ wsX3_measureNumbers := by decide +kernel
theorem kMX3_measureNumbers_2_max : Cond.static Lib.Math.max.name ∈ wsX3_measureNumbers := by decide +kernel
theorem kMX3_measureNumbers_3 : Cond.initialized "java/lang/Math" ∈ wsX3_measureNumbers := by decide +kernel
theorem kMX3_measureNumbers_4_max : Cond.code Lib.Math.max.name Lib.Math.max.code 2 (some .int) ∈ wsX3_measureNumbers := by decide +kernel
theorem kX3_measureNumbers_30 : Cond.fieldLink RX3 30 (TX3 7).1 (TX3 7).2.1 (TX3 7).2.2.1 ∈ wsX3_measureNumbers := by decide +kernel
theorem kX3_measureNumbers_33 : Cond.fieldLink RX3 33 (TX3 8).1 (TX3 8).2.1 (TX3 8).2.2.1 ∈ wsX3_measureNumbers := by decide +kernel
abbrev F_X3_measureNumbers : Nat := 1
abbrev L_X3_measureNumbers : Nat := 22
theorem hd_X3_measureNumbers : yX3_measureNumbers.cls = RX3 ∧ yX3_measureNumbers.cls ≠ "java/lang/invoke/MethodHandle" ∧ yX3_measureNumbers.cls ≠ "java/lang/invoke/VarHandle" ∧ (parseMethodDescriptor yX3_measureNumbers.desc).map (fun d => d.parameters.length) = some 1 := by decide +kernel
def wp_X3_measureNumbers_L9 (o0 : Nat) (v1 : Int32)  (X : Int32 → Mem → Prop) (Q : Mem → Prop) : Nat → Int32 → Int32 → Mem → Prop
  | 0, _, _, _ => False
  | n + 1, v2, v3, M => (((M 1 o0 0 5) ≤ v3 → X v2 M) ∧ (¬ ((M 1 o0 0 5) ≤ v3) → (vp_in v3 30 ∧ (vp_in v1 6 ∧ (wp_X3_sizeOf (M 12 o0 (v3.toNatClampNeg) v1.toNatClampNeg) M (fun r29 M29 => (vp_in v3 30 ∧ (vp_in v1 6 ∧ (wp_X3_sizeOf (M29 16 o0 (v3.toNatClampNeg) v1.toNatClampNeg) M29 (fun r48 M48 => (wp_X3_measureNumbers_L9 o0 v1 X Q n) (if (if v2 < r29 then r29 else v2) < r48 then r48 else (if v2 < r29 then r29 else v2)) (v3 + 1) M48))))))))))
set_option maxHeartbeats 4000000 in
set_option maxRecDepth 100000 in
theorem l_X3_measureNumbers_L9 {l : Launch} {G : GG} {Z : ZT} (h : AX l G cX3_measureNumbers 4 RX3 wsX3_measureNumbers F_X3_measureNumbers L_X3_measureNumbers Z) (hG : GoodG G) {Q : Mem → Prop} (hr : RETv cX3_measureNumbers Q Z) (o0 : Nat) (v1 : Int32) (ho0 : o0 < 2)   (X : Int32 → Mem → Prop) (hX : ∀ (v2 : Int32) (M : Mem), X v2 M → Z 61 [(0, .ref (gA G (1, o0, 0))), (1, .int v1), (2, .int v2)] [] M) : ∀ (n : Nat) (v2 : Int32) (v3 : Int32) (M : Mem), wp_X3_measureNumbers_L9 o0 v1 X Q n v2 v3 M → Z 9 [(0, .ref (gA G (1, o0, 0))), (1, .int v1), (2, .int v2), (3, .int v3)] [] M := by
  intro n
  induction n with
  | zero => intro v2 v3 M hw; exact hw.elim
  | succ n ih =>
    intro v2 v3 M hw
    unfold wp_X3_measureNumbers_L9 at hw
    refine h.iload_n (pc := 9) dX3_measureNumbers_9 rfl 3 rfl ?_
    refine h.aload_n (pc := 10) dX3_measureNumbers_10 rfl 0 rfl ?_
    refine h.getf (pc := 11) (f := 1) (o := o0) (i := 0) (ci := 3) (C := RX3) (T := TX3) (N := 9) (j := 5) (v := .int (M 1 o0 0 5)) (k_1 2 (by decide) ho0) rfl rfl (by decide) inX3_measureNumbers_RX3 kX3_measureNumbers_41 rfl dX3_measureNumbers_11 ?_
    refine h.icmp_ge (pc := 14) 61 dX3_measureNumbers_14 (by decide) (fun c14 => ?_) (fun c14 => ?_)
    · replace hw := hw.1 c14
      refine h.sub (pc := 61) [0, 1, 2] (lv' := [(0, .ref (gA G (1, o0, 0))), (1, .int v1), (2, .int v2)]) rfl ?_
      exact hX v2 M hw
    · replace hw := hw.2 c14
      refine h.iload_n (pc := 17) dX3_measureNumbers_17 rfl 2 rfl ?_
      refine h.aload_n (pc := 18) dX3_measureNumbers_18 rfl 0 rfl ?_
      refine h.getf (pc := 19) (f := 1) (o := o0) (i := 0) (ci := 3) (C := RX3) (T := TX3) (N := 9) (j := 6) (v := .ref (gA G (11, o0, 0))) (k_1 2 (by decide) ho0) rfl rfl (by decide) inX3_measureNumbers_RX3 kX3_measureNumbers_26 rfl dX3_measureNumbers_19 ?_
      refine h.iload_n (pc := 22) dX3_measureNumbers_22 rfl 3 rfl ?_
      obtain ⟨hj23, hw⟩ := hw
      refine h.aald (pc := 23) (o := o0) (ix := v3) ho0 hj23 dX3_measureNumbers_23 ?_
      refine h.getN (pc := 24) (f := 4) (o := o0) (i := v3.toNatClampNeg) (ci := 1) (C := RX1) (T := TX1) (N := 8) (j := 0) (v := .ref (gA G (12, o0, v3.toNatClampNeg))) (k_2 (by decide) ho0 (vin_lt hj23)) rfl rfl (by decide) inX3_measureNumbers_RX1 (own0 := RX3) (host := "TableWright") rfl nw_1 rfl dX3_measureNumbers_24 ?_
      refine h.iload_n (pc := 27) dX3_measureNumbers_27 rfl 1 rfl ?_
      obtain ⟨hj28, hw⟩ := hw
      refine h.iald (pc := 28) (f := 12) (o := o0) (i := v3.toNatClampNeg) (n := 6) (k_2 (by decide) ho0 (vin_lt hj23)) (fun _ => rfl) hj28 dX3_measureNumbers_28 ?_
      refine h.cSi (pc := 29) [.int (M 12 o0 (v3.toNatClampNeg) v1.toNatClampNeg)] [.int v2] (m_X3_sizeOf hG  hw) gX3_measureNumbers_X3_sizeOf rfl hd_X3_sizeOf (by decide) rfl rfl (Nat.le_of_ble_eq_true rfl) dX3_measureNumbers_29 (fun r29 M29 hw => ?_)
      refine h.mmax (pc := 32) (st := []) kMX3_measureNumbers_1_max_104 kMX3_measureNumbers_2_max kMX3_measureNumbers_3 kMX3_measureNumbers_4_max (by decide) (Nat.le_of_ble_eq_true rfl) dX3_measureNumbers_32 ?_
      refine h.istore_n (pc := 35) [(2, .int (if v2 < r29 then r29 else v2)), (0, .ref (gA G (1, o0, 0))), (1, .int v1), (3, .int v3)] dX3_measureNumbers_35 rfl (by decide) rfl ?_
      refine h.iload_n (pc := 36) dX3_measureNumbers_36 rfl 0 rfl ?_
      refine h.aload_n (pc := 37) dX3_measureNumbers_37 rfl 1 rfl ?_
      refine h.getf (pc := 38) (f := 1) (o := o0) (i := 0) (ci := 3) (C := RX3) (T := TX3) (N := 9) (j := 6) (v := .ref (gA G (11, o0, 0))) (k_1 2 (by decide) ho0) rfl rfl (by decide) inX3_measureNumbers_RX3 kX3_measureNumbers_26 rfl dX3_measureNumbers_38 ?_
      refine h.iload_n (pc := 41) dX3_measureNumbers_41 rfl 3 rfl ?_
      obtain ⟨hj42, hw⟩ := hw
      refine h.aald (pc := 42) (o := o0) (ix := v3) ho0 hj42 dX3_measureNumbers_42 ?_
      refine h.getN (pc := 43) (f := 4) (o := o0) (i := v3.toNatClampNeg) (ci := 1) (C := RX1) (T := TX1) (N := 8) (j := 6) (v := .ref (gA G (16, o0, v3.toNatClampNeg))) (k_2 (by decide) ho0 (vin_lt hj42)) rfl rfl (by decide) inX3_measureNumbers_RX1 (own0 := RX3) (host := "TableWright") rfl nw_14 rfl dX3_measureNumbers_43 ?_
      refine h.iload_n (pc := 46) dX3_measureNumbers_46 rfl 2 rfl ?_
      obtain ⟨hj47, hw⟩ := hw
      refine h.iald (pc := 47) (f := 16) (o := o0) (i := v3.toNatClampNeg) (n := 6) (k_2 (by decide) ho0 (vin_lt hj42)) (fun _ => rfl) hj47 dX3_measureNumbers_47 ?_
      refine h.cSi (pc := 48) [.int (M29 16 o0 (v3.toNatClampNeg) v1.toNatClampNeg)] [.int (if v2 < r29 then r29 else v2)] (m_X3_sizeOf hG  hw) gX3_measureNumbers_X3_sizeOf rfl hd_X3_sizeOf (by decide) rfl rfl (Nat.le_of_ble_eq_true rfl) dX3_measureNumbers_48 (fun r48 M48 hw => ?_)
      refine h.mmax (pc := 51) (st := []) kMX3_measureNumbers_1_max_104 kMX3_measureNumbers_2_max kMX3_measureNumbers_3 kMX3_measureNumbers_4_max (by decide) (Nat.le_of_ble_eq_true rfl) dX3_measureNumbers_51 ?_
      refine h.istore_n (pc := 54) [(2, .int (if (if v2 < r29 then r29 else v2) < r48 then r48 else (if v2 < r29 then r29 else v2))), (0, .ref (gA G (1, o0, 0))), (1, .int v1), (3, .int v3)] dX3_measureNumbers_54 rfl (by decide) rfl ?_
      refine h.iinc (pc := 55) [(3, .int (v3 + 1)), (2, .int (if (if v2 < r29 then r29 else v2) < r48 then r48 else (if v2 < r29 then r29 else v2))), (0, .ref (gA G (1, o0, 0))), (1, .int v1)] dX3_measureNumbers_55 3 rfl (inc_ (by decide)) (by decide) rfl ?_
      refine h.goto (pc := 58) 9 dX3_measureNumbers_58 (by decide) ?_
      refine h.sub (pc := 9) [2, 3, 1, 0] (lv' := [(0, .ref (gA G (1, o0, 0))), (1, .int v1), (2, .int (if (if v2 < r29 then r29 else v2) < r48 then r48 else (if v2 < r29 then r29 else v2))), (3, .int (v3 + 1))]) rfl ?_
      exact ih (if (if v2 < r29 then r29 else v2) < r48 then r48 else (if v2 < r29 then r29 else v2)) (v3 + 1) M48 hw
def wp_X3_measureNumbers_L61 (o0 : Nat) (v1 : Int32)  (Q : Mem → Prop) (v2 : Int32) (M : Mem) : Prop := (vp_in v1 6 ∧ (∀ M67 : Mem, M67 = sM M 9 o0 0 v1.toNatClampNeg v2 → (vp_in v1 6 ∧ (∀ M74 : Mem, M74 = sM M67 10 o0 0 v1.toNatClampNeg v2 → Q M74))))
set_option maxHeartbeats 4000000 in
set_option maxRecDepth 100000 in
theorem l_X3_measureNumbers_L61 {l : Launch} {G : GG} {Z : ZT} (h : AX l G cX3_measureNumbers 4 RX3 wsX3_measureNumbers F_X3_measureNumbers L_X3_measureNumbers Z) (hG : GoodG G) {Q : Mem → Prop} (hr : RETv cX3_measureNumbers Q Z) (o0 : Nat) (v1 : Int32) (ho0 : o0 < 2) (v2 : Int32)  (M : Mem) (hw : wp_X3_measureNumbers_L61 o0 v1 Q v2 M) : Z 61 [(0, .ref (gA G (1, o0, 0))), (1, .int v1), (2, .int v2)] [] M := by
  unfold wp_X3_measureNumbers_L61 at hw
  refine h.aload_n (pc := 61) dX3_measureNumbers_61 rfl 0 rfl ?_
  refine h.getf (pc := 62) (f := 1) (o := o0) (i := 0) (ci := 3) (C := RX3) (T := TX3) (N := 9) (j := 7) (v := .ref (gA G (9, o0, 0))) (k_1 2 (by decide) ho0) rfl rfl (by decide) inX3_measureNumbers_RX3 kX3_measureNumbers_30 rfl dX3_measureNumbers_62 ?_
  refine h.iload_n (pc := 65) dX3_measureNumbers_65 rfl 1 rfl ?_
  refine h.iload_n (pc := 66) dX3_measureNumbers_66 rfl 2 rfl ?_
  obtain ⟨hj67, hw⟩ := hw
  refine h.iast (pc := 67) (f := 9) (o := o0) (i := 0) (n := 6) (ix := v1) (x := v2) (k_1 2 (by decide) ho0) (fun _ => rfl) hj67 dX3_measureNumbers_67 (fun M67 e67 => ?_)
  replace hw := hw M67 e67
  refine h.aload_n (pc := 68) dX3_measureNumbers_68 rfl 0 rfl ?_
  refine h.getf (pc := 69) (f := 1) (o := o0) (i := 0) (ci := 3) (C := RX3) (T := TX3) (N := 9) (j := 8) (v := .ref (gA G (10, o0, 0))) (k_1 2 (by decide) ho0) rfl rfl (by decide) inX3_measureNumbers_RX3 kX3_measureNumbers_33 rfl dX3_measureNumbers_69 ?_
  refine h.iload_n (pc := 72) dX3_measureNumbers_72 rfl 1 rfl ?_
  refine h.iload_n (pc := 73) dX3_measureNumbers_73 rfl 2 rfl ?_
  obtain ⟨hj74, hw⟩ := hw
  refine h.iast (pc := 74) (f := 10) (o := o0) (i := 0) (n := 6) (ix := v1) (x := v2) (k_1 2 (by decide) ho0) (fun _ => rfl) hj74 dX3_measureNumbers_74 (fun M74 e74 => ?_)
  replace hw := hw M74 e74
  exact hr _ _ _ dX3_measureNumbers_75 hw
def wp_X3_measureNumbers (o0 : Nat) (v1 : Int32) (M : Mem) (Q : Mem → Prop) : Prop := (vp_in v1 6 ∧ ∃ n9, wp_X3_measureNumbers_L9 o0 v1 (fun v2 M => wp_X3_measureNumbers_L61 o0 v1 Q v2 M) Q n9 (M 6 o0 0 v1.toNatClampNeg) 0 M)
set_option maxHeartbeats 4000000 in
set_option maxRecDepth 100000 in
theorem m_X3_measureNumbers {l : Launch} {G : GG} (hG : GoodG G) {o0 : Nat} {v1 : Int32}  {M : Mem} {Q : Mem → Prop} (ho0 : o0 < 2) (hw : wp_X3_measureNumbers o0 v1 M Q) : CTv l G yX3_measureNumbers wsX3_measureNumbers F_X3_measureNumbers L_X3_measureNumbers [.ref (gA G (1, o0, 0)), .int v1] M Q := by
  refine CTv_mk hG (by decide +kernel) rfl (Nat.le_of_ble_eq_true rfl) (fun Z (h : AX l G cX3_measureNumbers 4 RX3 wsX3_measureNumbers F_X3_measureNumbers L_X3_measureNumbers Z) hr => ?_)
  show Z 0 [(0, .ref (gA G (1, o0, 0))), (1, .int v1)] [] M
  unfold wp_X3_measureNumbers at hw
  refine h.aload_n (pc := 0) dX3_measureNumbers_0 rfl 0 rfl ?_
  refine h.getf (pc := 1) (f := 1) (o := o0) (i := 0) (ci := 3) (C := RX3) (T := TX3) (N := 9) (j := 2) (v := .ref (gA G (6, o0, 0))) (k_1 2 (by decide) ho0) rfl rfl (by decide) inX3_measureNumbers_RX3 kX3_measureNumbers_15 rfl dX3_measureNumbers_1 ?_
  refine h.iload_n (pc := 4) dX3_measureNumbers_4 rfl 1 rfl ?_
  obtain ⟨hj5, hw⟩ := hw
  refine h.iald (pc := 5) (f := 6) (o := o0) (i := 0) (n := 6) (k_1 2 (by decide) ho0) (fun _ => rfl) hj5 dX3_measureNumbers_5 ?_
  refine h.istore_n (pc := 6) [(2, .int (M 6 o0 0 v1.toNatClampNeg)), (0, .ref (gA G (1, o0, 0))), (1, .int v1)] dX3_measureNumbers_6 rfl (by decide) rfl ?_
  refine h.iconst (pc := 7) (v := 0) dX3_measureNumbers_7 (by decide) ?_
  refine h.istore_n (pc := 8) [(3, .int 0), (2, .int (M 6 o0 0 v1.toNatClampNeg)), (0, .ref (gA G (1, o0, 0))), (1, .int v1)] dX3_measureNumbers_8 rfl (by decide) rfl ?_
  refine h.sub (pc := 9) [2, 3, 1, 0] (lv' := [(0, .ref (gA G (1, o0, 0))), (1, .int v1), (2, .int (M 6 o0 0 v1.toNatClampNeg)), (3, .int 0)]) rfl ?_
  obtain ⟨n9, hw⟩ := hw
  exact l_X3_measureNumbers_L9 h hG hr o0 v1 ho0 _ (fun v2 M hw => by
      exact l_X3_measureNumbers_L61 h hG hr o0 v1 ho0 v2 M hw) n9 (M 6 o0 0 v1.toNatClampNeg) 0 M hw
-- X3_reckon
theorem inX3_reckon_RX3 : ∀ w ∈ u_ws RX3 TX3 9, w ∈ wsX3_reckon := by decide +kernel
theorem kX3_reckon_37 : Cond.fieldLink RX3 37 (TX3 0).1 (TX3 0).2.1 (TX3 0).2.2.1 ∈ wsX3_reckon := by decide +kernel
theorem kX3_reckon_9 : Cond.fieldLink RX3 9 (TX3 1).1 (TX3 1).2.1 (TX3 1).2.2.1 ∈ wsX3_reckon := by decide +kernel
abbrev F_X3_reckon : Nat := 2
abbrev L_X3_reckon : Nat := 46
theorem hd_X3_reckon : yX3_reckon.cls = RX3 ∧ yX3_reckon.cls ≠ "java/lang/invoke/MethodHandle" ∧ yX3_reckon.cls ≠ "java/lang/invoke/VarHandle" ∧ (parseMethodDescriptor yX3_reckon.desc).map (fun d => d.parameters.length) = some 0 := by decide +kernel
def wp_X3_reckon_L33 (o0 : Nat) (B : Int32 → Mem → Prop) (X : Mem → Prop) (Q : Mem → Prop) (v1 : Int32) (M : Mem) : Prop := B (v1 + 1) M
set_option maxHeartbeats 4000000 in
set_option maxRecDepth 100000 in
theorem l_X3_reckon_L33 {l : Launch} {G : GG} {Z : ZT} (h : AX l G cX3_reckon 2 RX3 wsX3_reckon F_X3_reckon L_X3_reckon Z) (hG : GoodG G) {Q : Mem → Prop} (hr : RETv cX3_reckon Q Z) (o0 : Nat) (ho0 : o0 < 2) (v1 : Int32)  {B : Int32 → Mem → Prop} (hB : ∀ (v1 : Int32) (M : Mem), B v1 M → Z 2 [(0, .ref (gA G (1, o0, 0))), (1, .int v1)] [] M) {X : Mem → Prop} (hX : ∀  (M : Mem), X  M → Z 39 [(0, .ref (gA G (1, o0, 0)))] [] M) (M : Mem) (hw : wp_X3_reckon_L33 o0 B X Q v1 M) : Z 33 [(0, .ref (gA G (1, o0, 0))), (1, .int v1)] [] M := by
  unfold wp_X3_reckon_L33 at hw
  refine h.iinc (pc := 33) [(1, .int (v1 + 1)), (0, .ref (gA G (1, o0, 0)))] dX3_reckon_33 1 rfl (inc_ (by decide)) (by decide) rfl ?_
  refine h.goto (pc := 36) 2 dX3_reckon_36 (by decide) ?_
  refine h.sub (pc := 2) [1, 0] (lv' := [(0, .ref (gA G (1, o0, 0))), (1, .int (v1 + 1))]) rfl ?_
  exact hB (v1 + 1) M hw
def wp_X3_reckon_L2 (o0 : Nat)  (X : Mem → Prop) (Q : Mem → Prop) : Nat → Int32 → Mem → Prop
  | 0, _, _ => False
  | n + 1, v1, M => (((M 1 o0 0 0) ≤ v1 → X M) ∧ (¬ ((M 1 o0 0 0) ≤ v1) → (vp_in v1 6 ∧ (((M 5 o0 0 v1.toNatClampNeg) = 1 → (wp_X3_reckonHidden o0 v1 M (fun M22 => wp_X3_reckon_L33 o0 (wp_X3_reckon_L2 o0 X Q n) X Q v1 M22))) ∧ (¬ ((M 5 o0 0 v1.toNatClampNeg) = 1) → (wp_X3_reckonNumbers o0 v1 M (fun M30 => wp_X3_reckon_L33 o0 (wp_X3_reckon_L2 o0 X Q n) X Q v1 M30)))))))
set_option maxHeartbeats 4000000 in
set_option maxRecDepth 100000 in
theorem l_X3_reckon_L2 {l : Launch} {G : GG} {Z : ZT} (h : AX l G cX3_reckon 2 RX3 wsX3_reckon F_X3_reckon L_X3_reckon Z) (hG : GoodG G) {Q : Mem → Prop} (hr : RETv cX3_reckon Q Z) (o0 : Nat) (ho0 : o0 < 2)   (X : Mem → Prop) (hX : ∀  (M : Mem), X  M → Z 39 [(0, .ref (gA G (1, o0, 0)))] [] M) : ∀ (n : Nat) (v1 : Int32) (M : Mem), wp_X3_reckon_L2 o0 X Q n v1 M → Z 2 [(0, .ref (gA G (1, o0, 0))), (1, .int v1)] [] M := by
  intro n
  induction n with
  | zero => intro v1 M hw; exact hw.elim
  | succ n ih =>
    intro v1 M hw
    unfold wp_X3_reckon_L2 at hw
    refine h.iload_n (pc := 2) dX3_reckon_2 rfl 1 rfl ?_
    refine h.aload_n (pc := 3) dX3_reckon_3 rfl 0 rfl ?_
    refine h.getf (pc := 4) (f := 1) (o := o0) (i := 0) (ci := 3) (C := RX3) (T := TX3) (N := 9) (j := 0) (v := .int (M 1 o0 0 0)) (k_1 2 (by decide) ho0) rfl rfl (by decide) inX3_reckon_RX3 kX3_reckon_37 rfl dX3_reckon_4 ?_
    refine h.icmp_ge (pc := 7) 39 dX3_reckon_7 (by decide) (fun c7 => ?_) (fun c7 => ?_)
    · replace hw := hw.1 c7
      refine h.sub (pc := 39) [0] (lv' := [(0, .ref (gA G (1, o0, 0)))]) rfl ?_
      exact hX M hw
    · replace hw := hw.2 c7
      refine h.aload_n (pc := 10) dX3_reckon_10 rfl 0 rfl ?_
      refine h.getf (pc := 11) (f := 1) (o := o0) (i := 0) (ci := 3) (C := RX3) (T := TX3) (N := 9) (j := 1) (v := .ref (gA G (5, o0, 0))) (k_1 2 (by decide) ho0) rfl rfl (by decide) inX3_reckon_RX3 kX3_reckon_9 rfl dX3_reckon_11 ?_
      refine h.iload_n (pc := 14) dX3_reckon_14 rfl 1 rfl ?_
      obtain ⟨hj15, hw⟩ := hw
      refine h.iald (pc := 15) (f := 5) (o := o0) (i := 0) (n := 6) (k_1 2 (by decide) ho0) (fun _ => rfl) hj15 dX3_reckon_15 ?_
      refine h.iconst (pc := 16) (v := 1) dX3_reckon_16 (by decide) ?_
      refine h.icmp_ne (pc := 17) 28 dX3_reckon_17 (by decide) (fun c17 => ?_) (fun c17 => ?_)
      · replace hw := hw.2 c17
        refine h.aload_n (pc := 28) dX3_reckon_28 rfl 0 rfl ?_
        refine h.iload_n (pc := 29) dX3_reckon_29 rfl 1 rfl ?_
        refine h.cVv (pc := 30) [.int v1] (1, o0, 0) [] (m_X3_reckonNumbers hG ho0 hw) gX3_reckon_X3_reckonNumbers rfl hd_X3_reckonNumbers (by decide) (k_1 2 (by decide) ho0) rfl rfl rfl rfl rfl (Nat.le_of_ble_eq_true rfl) dX3_reckon_30 (fun M30 hw => ?_)
        exact l_X3_reckon_L33 h hG hr o0 ho0 v1 ih hX M30 hw
      · replace hw := hw.1 c17
        refine h.aload_n (pc := 20) dX3_reckon_20 rfl 0 rfl ?_
        refine h.iload_n (pc := 21) dX3_reckon_21 rfl 1 rfl ?_
        refine h.cVv (pc := 22) [.int v1] (1, o0, 0) [] (m_X3_reckonHidden hG ho0 hw) gX3_reckon_X3_reckonHidden rfl hd_X3_reckonHidden (by decide) (k_1 2 (by decide) ho0) rfl rfl rfl rfl rfl (Nat.le_of_ble_eq_true rfl) dX3_reckon_22 (fun M22 hw => ?_)
        refine h.goto (pc := 25) 33 dX3_reckon_25 (by decide) ?_
        exact l_X3_reckon_L33 h hG hr o0 ho0 v1 ih hX M22 hw
def wp_X3_reckon_L72 (o0 : Nat) (B : Int32 → Mem → Prop) (X : Mem → Prop) (Q : Mem → Prop) (v1 : Int32) (M : Mem) : Prop := B (v1 + 1) M
set_option maxHeartbeats 4000000 in
set_option maxRecDepth 100000 in
theorem l_X3_reckon_L72 {l : Launch} {G : GG} {Z : ZT} (h : AX l G cX3_reckon 2 RX3 wsX3_reckon F_X3_reckon L_X3_reckon Z) (hG : GoodG G) {Q : Mem → Prop} (hr : RETv cX3_reckon Q Z) (o0 : Nat) (ho0 : o0 < 2) (v1 : Int32)  {B : Int32 → Mem → Prop} (hB : ∀ (v1 : Int32) (M : Mem), B v1 M → Z 41 [(0, .ref (gA G (1, o0, 0))), (1, .int v1)] [] M) {X : Mem → Prop} (hX : ∀  (M : Mem), X  M → Z 78 [] [] M) (M : Mem) (hw : wp_X3_reckon_L72 o0 B X Q v1 M) : Z 72 [(0, .ref (gA G (1, o0, 0))), (1, .int v1)] [] M := by
  unfold wp_X3_reckon_L72 at hw
  refine h.iinc (pc := 72) [(1, .int (v1 + 1)), (0, .ref (gA G (1, o0, 0)))] dX3_reckon_72 1 rfl (inc_ (by decide)) (by decide) rfl ?_
  refine h.goto (pc := 75) 41 dX3_reckon_75 (by decide) ?_
  refine h.sub (pc := 41) [1, 0] (lv' := [(0, .ref (gA G (1, o0, 0))), (1, .int (v1 + 1))]) rfl ?_
  exact hB (v1 + 1) M hw
def wp_X3_reckon_L41 (o0 : Nat)  (X : Mem → Prop) (Q : Mem → Prop) : Nat → Int32 → Mem → Prop
  | 0, _, _ => False
  | n + 1, v1, M => (((M 1 o0 0 0) ≤ v1 → X M) ∧ (¬ ((M 1 o0 0 0) ≤ v1) → (vp_in v1 6 ∧ (((M 5 o0 0 v1.toNatClampNeg) = 1 → (wp_X3_measureText o0 v1 M (fun M61 => wp_X3_reckon_L72 o0 (wp_X3_reckon_L41 o0 X Q n) X Q v1 M61))) ∧ (¬ ((M 5 o0 0 v1.toNatClampNeg) = 1) → (wp_X3_measureNumbers o0 v1 M (fun M69 => wp_X3_reckon_L72 o0 (wp_X3_reckon_L41 o0 X Q n) X Q v1 M69)))))))
set_option maxHeartbeats 4000000 in
set_option maxRecDepth 100000 in
theorem l_X3_reckon_L41 {l : Launch} {G : GG} {Z : ZT} (h : AX l G cX3_reckon 2 RX3 wsX3_reckon F_X3_reckon L_X3_reckon Z) (hG : GoodG G) {Q : Mem → Prop} (hr : RETv cX3_reckon Q Z) (o0 : Nat) (ho0 : o0 < 2)   (X : Mem → Prop) (hX : ∀  (M : Mem), X  M → Z 78 [] [] M) : ∀ (n : Nat) (v1 : Int32) (M : Mem), wp_X3_reckon_L41 o0 X Q n v1 M → Z 41 [(0, .ref (gA G (1, o0, 0))), (1, .int v1)] [] M := by
  intro n
  induction n with
  | zero => intro v1 M hw; exact hw.elim
  | succ n ih =>
    intro v1 M hw
    unfold wp_X3_reckon_L41 at hw
    refine h.iload_n (pc := 41) dX3_reckon_41 rfl 1 rfl ?_
    refine h.aload_n (pc := 42) dX3_reckon_42 rfl 0 rfl ?_
    refine h.getf (pc := 43) (f := 1) (o := o0) (i := 0) (ci := 3) (C := RX3) (T := TX3) (N := 9) (j := 0) (v := .int (M 1 o0 0 0)) (k_1 2 (by decide) ho0) rfl rfl (by decide) inX3_reckon_RX3 kX3_reckon_37 rfl dX3_reckon_43 ?_
    refine h.icmp_ge (pc := 46) 78 dX3_reckon_46 (by decide) (fun c46 => ?_) (fun c46 => ?_)
    · replace hw := hw.1 c46
      refine h.sub (pc := 78) [] (lv' := []) rfl ?_
      exact hX M hw
    · replace hw := hw.2 c46
      refine h.aload_n (pc := 49) dX3_reckon_49 rfl 0 rfl ?_
      refine h.getf (pc := 50) (f := 1) (o := o0) (i := 0) (ci := 3) (C := RX3) (T := TX3) (N := 9) (j := 1) (v := .ref (gA G (5, o0, 0))) (k_1 2 (by decide) ho0) rfl rfl (by decide) inX3_reckon_RX3 kX3_reckon_9 rfl dX3_reckon_50 ?_
      refine h.iload_n (pc := 53) dX3_reckon_53 rfl 1 rfl ?_
      obtain ⟨hj54, hw⟩ := hw
      refine h.iald (pc := 54) (f := 5) (o := o0) (i := 0) (n := 6) (k_1 2 (by decide) ho0) (fun _ => rfl) hj54 dX3_reckon_54 ?_
      refine h.iconst (pc := 55) (v := 1) dX3_reckon_55 (by decide) ?_
      refine h.icmp_ne (pc := 56) 67 dX3_reckon_56 (by decide) (fun c56 => ?_) (fun c56 => ?_)
      · replace hw := hw.2 c56
        refine h.aload_n (pc := 67) dX3_reckon_67 rfl 0 rfl ?_
        refine h.iload_n (pc := 68) dX3_reckon_68 rfl 1 rfl ?_
        refine h.cVv (pc := 69) [.int v1] (1, o0, 0) [] (m_X3_measureNumbers hG ho0 hw) gX3_reckon_X3_measureNumbers rfl hd_X3_measureNumbers (by decide) (k_1 2 (by decide) ho0) rfl rfl rfl rfl rfl (Nat.le_of_ble_eq_true rfl) dX3_reckon_69 (fun M69 hw => ?_)
        exact l_X3_reckon_L72 h hG hr o0 ho0 v1 ih hX M69 hw
      · replace hw := hw.1 c56
        refine h.aload_n (pc := 59) dX3_reckon_59 rfl 0 rfl ?_
        refine h.iload_n (pc := 60) dX3_reckon_60 rfl 1 rfl ?_
        refine h.cVv (pc := 61) [.int v1] (1, o0, 0) [] (m_X3_measureText hG ho0 hw) gX3_reckon_X3_measureText rfl hd_X3_measureText (by decide) (k_1 2 (by decide) ho0) rfl rfl rfl rfl rfl (Nat.le_of_ble_eq_true rfl) dX3_reckon_61 (fun M61 hw => ?_)
        refine h.goto (pc := 64) 72 dX3_reckon_64 (by decide) ?_
        exact l_X3_reckon_L72 h hG hr o0 ho0 v1 ih hX M61 hw
def wp_X3_reckon_L39 (o0 : Nat)  (Q : Mem → Prop)  (M : Mem) : Prop := ∃ n41, wp_X3_reckon_L41 o0 (fun M => Q M) Q n41 0 M
set_option maxHeartbeats 4000000 in
set_option maxRecDepth 100000 in
theorem l_X3_reckon_L39 {l : Launch} {G : GG} {Z : ZT} (h : AX l G cX3_reckon 2 RX3 wsX3_reckon F_X3_reckon L_X3_reckon Z) (hG : GoodG G) {Q : Mem → Prop} (hr : RETv cX3_reckon Q Z) (o0 : Nat) (ho0 : o0 < 2)   (M : Mem) (hw : wp_X3_reckon_L39 o0 Q M) : Z 39 [(0, .ref (gA G (1, o0, 0)))] [] M := by
  unfold wp_X3_reckon_L39 at hw
  refine h.iconst (pc := 39) (v := 0) dX3_reckon_39 (by decide) ?_
  refine h.istore_n (pc := 40) [(1, .int 0), (0, .ref (gA G (1, o0, 0)))] dX3_reckon_40 rfl (by decide) rfl ?_
  refine h.sub (pc := 41) [1, 0] (lv' := [(0, .ref (gA G (1, o0, 0))), (1, .int 0)]) rfl ?_
  obtain ⟨n41, hw⟩ := hw
  exact l_X3_reckon_L41 h hG hr o0 ho0 _ (fun M hw => by
      exact hr _ _ _ dX3_reckon_78 hw) n41 0 M hw
def wp_X3_reckon (o0 : Nat) (M : Mem) (Q : Mem → Prop) : Prop := ∃ n2, wp_X3_reckon_L2 o0 (fun M => wp_X3_reckon_L39 o0 Q M) Q n2 0 M
set_option maxHeartbeats 4000000 in
set_option maxRecDepth 100000 in
theorem m_X3_reckon {l : Launch} {G : GG} (hG : GoodG G) {o0 : Nat}  {M : Mem} {Q : Mem → Prop} (ho0 : o0 < 2) (hw : wp_X3_reckon o0 M Q) : CTv l G yX3_reckon wsX3_reckon F_X3_reckon L_X3_reckon [.ref (gA G (1, o0, 0))] M Q := by
  refine CTv_mk hG (by decide +kernel) rfl (Nat.le_of_ble_eq_true rfl) (fun Z (h : AX l G cX3_reckon 2 RX3 wsX3_reckon F_X3_reckon L_X3_reckon Z) hr => ?_)
  show Z 0 [(0, .ref (gA G (1, o0, 0)))] [] M
  unfold wp_X3_reckon at hw
  refine h.iconst (pc := 0) (v := 0) dX3_reckon_0 (by decide) ?_
  refine h.istore_n (pc := 1) [(1, .int 0), (0, .ref (gA G (1, o0, 0)))] dX3_reckon_1 rfl (by decide) rfl ?_
  refine h.sub (pc := 2) [1, 0] (lv' := [(0, .ref (gA G (1, o0, 0))), (1, .int 0)]) rfl ?_
  obtain ⟨n2, hw⟩ := hw
  exact l_X3_reckon_L2 h hG hr o0 ho0 _ (fun M hw => by
      exact l_X3_reckon_L39 h hG hr o0 ho0 M hw) n2 0 M hw
