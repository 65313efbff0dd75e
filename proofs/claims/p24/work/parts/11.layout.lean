-- X0_pagesOrNone
theorem inX0_pagesOrNone_RX0 : ∀ w ∈ u_ws RX0 TX0 14, w ∈ wsX0_pagesOrNone := by decide +kernel
theorem kX0_pagesOrNone_51 : Cond.fieldLink RX0 51 (TX0 0).1 (TX0 0).2.1 (TX0 0).2.2.1 ∈ wsX0_pagesOrNone := by decide +kernel
theorem kX0_pagesOrNone_55 : Cond.fieldLink RX0 55 (TX0 6).1 (TX0 6).2.1 (TX0 6).2.2.1 ∈ wsX0_pagesOrNone := by decide +kernel
abbrev F_X0_pagesOrNone : Nat := 0
abbrev L_X0_pagesOrNone : Nat := 0
theorem hd_X0_pagesOrNone : yX0_pagesOrNone.cls = RX0 ∧ yX0_pagesOrNone.cls ≠ "java/lang/invoke/MethodHandle" ∧ yX0_pagesOrNone.cls ≠ "java/lang/invoke/VarHandle" ∧ (parseMethodDescriptor yX0_pagesOrNone.desc).map (fun d => d.parameters.length) = some 0 := by decide +kernel
def wp_X0_pagesOrNone (o0 : Nat) (M : Mem) (Q : Int32 → Mem → Prop) : Prop := (((M 3 o0 0 0) = 0 → Q (-1) M) ∧ (¬ ((M 3 o0 0 0) = 0) → Q (M 3 o0 0 6) M))
set_option maxHeartbeats 4000000 in
set_option maxRecDepth 100000 in
theorem m_X0_pagesOrNone {l : Launch} {G : GG} (hG : GoodG G) {o0 : Nat}  {M : Mem} {Q : Int32 → Mem → Prop} (ho0 : o0 < 5) (hw : wp_X0_pagesOrNone o0 M Q) : CTi l G yX0_pagesOrNone wsX0_pagesOrNone F_X0_pagesOrNone L_X0_pagesOrNone [.ref (gA G (3, o0, 0))] M Q := by
  refine CTi_mk hG (by decide +kernel) rfl (Nat.le_of_ble_eq_true rfl) (fun Z (h : AX l G cX0_pagesOrNone 1 RX0 wsX0_pagesOrNone F_X0_pagesOrNone L_X0_pagesOrNone Z) hr => ?_)
  show Z 0 [(0, .ref (gA G (3, o0, 0)))] [] M
  unfold wp_X0_pagesOrNone at hw
  refine h.aload_n (pc := 0) dX0_pagesOrNone_0 rfl 0 rfl ?_
  refine h.getf (pc := 1) (f := 3) (o := o0) (i := 0) (ci := 0) (C := RX0) (T := TX0) (N := 14) (j := 0) (v := .int (M 3 o0 0 0)) (k_1 5 (by decide) ho0) rfl rfl (by decide) inX0_pagesOrNone_RX0 kX0_pagesOrNone_51 rfl dX0_pagesOrNone_1 ?_
  refine h.if_eq (pc := 4) 14 dX0_pagesOrNone_4 (by decide) (fun c4 => ?_) (fun c4 => ?_)
  · replace hw := hw.1 c4
    refine h.iconst (pc := 14) (v := (-1)) dX0_pagesOrNone_14 (by decide) ?_
    exact hr _ _ _ _ dX0_pagesOrNone_15 hw
  · replace hw := hw.2 c4
    refine h.aload_n (pc := 7) dX0_pagesOrNone_7 rfl 0 rfl ?_
    refine h.getf (pc := 8) (f := 3) (o := o0) (i := 0) (ci := 0) (C := RX0) (T := TX0) (N := 14) (j := 6) (v := .int (M 3 o0 0 6)) (k_1 5 (by decide) ho0) rfl rfl (by decide) inX0_pagesOrNone_RX0 kX0_pagesOrNone_55 rfl dX0_pagesOrNone_8 ?_
    refine h.goto (pc := 11) 15 dX0_pagesOrNone_11 (by decide) ?_
    exact hr _ _ _ _ dX0_pagesOrNone_15 hw
-- X0_tableWidth
theorem inX0_tableWidth_RX0 : ∀ w ∈ u_ws RX0 TX0 14, w ∈ wsX0_tableWidth := by decide +kernel
theorem inX0_tableWidth_RX3 : ∀ w ∈ u_ws RX3 TX3 9, w ∈ wsX0_tableWidth := by decide +kernel
theorem kX0_tableWidth_9 : Cond.fieldLink RX0 9 (TX0 2).1 (TX0 2).2.1 (TX0 2).2.2.1 ∈ wsX0_tableWidth := by decide +kernel
abbrev F_X0_tableWidth : Nat := 0
abbrev L_X0_tableWidth : Nat := 0
theorem hd_X0_tableWidth : yX0_tableWidth.cls = RX0 ∧ yX0_tableWidth.cls ≠ "java/lang/invoke/MethodHandle" ∧ yX0_tableWidth.cls ≠ "java/lang/invoke/VarHandle" ∧ (parseMethodDescriptor yX0_tableWidth.desc).map (fun d => d.parameters.length) = some 1 := by decide +kernel
def wp_X0_tableWidth_L9 (o0 : Nat) (o1 : Nat)  (X : Int32 → Mem → Prop) (Q : Int32 → Mem → Prop) : Nat → Int32 → Int32 → Mem → Prop
  | 0, _, _, _ => False
  | n + 1, v2, v3, M => (((M 1 o1 0 0) ≤ v3 → X v2 M) ∧ (¬ ((M 1 o1 0 0) ≤ v3) → (vp_in v3 6 ∧ (wp_X0_tableWidth_L9 o0 o1 X Q n) (v2 + (M 18 o0 0 v3.toNatClampNeg)) (v3 + 1) M)))
set_option maxHeartbeats 4000000 in
set_option maxRecDepth 100000 in
theorem l_X0_tableWidth_L9 {l : Launch} {G : GG} {Z : ZT} (h : AX l G cX0_tableWidth 4 RX0 wsX0_tableWidth F_X0_tableWidth L_X0_tableWidth Z) (hG : GoodG G) {Q : Int32 → Mem → Prop} (hr : RETi cX0_tableWidth Q Z) (o0 : Nat) (o1 : Nat) (ho0 : o0 < 5) (ho1 : o1 < 2)   (X : Int32 → Mem → Prop) (hX : ∀ (v2 : Int32) (M : Mem), X v2 M → Z 32 [(2, .int v2)] [] M) : ∀ (n : Nat) (v2 : Int32) (v3 : Int32) (M : Mem), wp_X0_tableWidth_L9 o0 o1 X Q n v2 v3 M → Z 9 [(0, .ref (gA G (3, o0, 0))), (1, .ref (gA G (1, o1, 0))), (2, .int v2), (3, .int v3)] [] M := by
  intro n
  induction n with
  | zero => intro v2 v3 M hw; exact hw.elim
  | succ n ih =>
    intro v2 v3 M hw
    unfold wp_X0_tableWidth_L9 at hw
    refine h.iload_n (pc := 9) dX0_tableWidth_9 rfl 3 rfl ?_
    refine h.aload_n (pc := 10) dX0_tableWidth_10 rfl 1 rfl ?_
    refine h.getN (pc := 11) (f := 1) (o := o1) (i := 0) (ci := 3) (C := RX3) (T := TX3) (N := 9) (j := 0) (v := .int (M 1 o1 0 0)) (k_1 2 (by decide) ho1) rfl rfl (by decide) inX0_tableWidth_RX3 (own0 := RX0) (host := "TableWright") rfl nw_18 rfl dX0_tableWidth_11 ?_
    refine h.icmp_ge (pc := 14) 32 dX0_tableWidth_14 (by decide) (fun c14 => ?_) (fun c14 => ?_)
    · replace hw := hw.1 c14
      refine h.sub (pc := 32) [2] (lv' := [(2, .int v2)]) rfl ?_
      exact hX v2 M hw
    · replace hw := hw.2 c14
      refine h.iload_n (pc := 17) dX0_tableWidth_17 rfl 2 rfl ?_
      refine h.aload_n (pc := 18) dX0_tableWidth_18 rfl 0 rfl ?_
      refine h.getf (pc := 19) (f := 3) (o := o0) (i := 0) (ci := 0) (C := RX0) (T := TX0) (N := 14) (j := 2) (v := .ref (gA G (18, o0, 0))) (k_1 5 (by decide) ho0) rfl rfl (by decide) inX0_tableWidth_RX0 kX0_tableWidth_9 rfl dX0_tableWidth_19 ?_
      refine h.iload_n (pc := 22) dX0_tableWidth_22 rfl 3 rfl ?_
      obtain ⟨hj23, hw⟩ := hw
      refine h.iald (pc := 23) (f := 18) (o := o0) (i := 0) (n := 6) (k_1 5 (by decide) ho0) (fun _ => rfl) hj23 dX0_tableWidth_23 ?_
      refine h.iadd (pc := 24) dX0_tableWidth_24 ?_
      refine h.istore_n (pc := 25) [(2, .int (v2 + (M 18 o0 0 v3.toNatClampNeg))), (0, .ref (gA G (3, o0, 0))), (1, .ref (gA G (1, o1, 0))), (3, .int v3)] dX0_tableWidth_25 rfl (by decide) rfl ?_
      refine h.iinc (pc := 26) [(3, .int (v3 + 1)), (2, .int (v2 + (M 18 o0 0 v3.toNatClampNeg))), (0, .ref (gA G (3, o0, 0))), (1, .ref (gA G (1, o1, 0)))] dX0_tableWidth_26 3 rfl (inc_ (by decide)) (by decide) rfl ?_
      refine h.goto (pc := 29) 9 dX0_tableWidth_29 (by decide) ?_
      refine h.sub (pc := 9) [2, 3, 1, 0] (lv' := [(0, .ref (gA G (3, o0, 0))), (1, .ref (gA G (1, o1, 0))), (2, .int (v2 + (M 18 o0 0 v3.toNatClampNeg))), (3, .int (v3 + 1))]) rfl ?_
      exact ih (v2 + (M 18 o0 0 v3.toNatClampNeg)) (v3 + 1) M hw
def wp_X0_tableWidth (o0 : Nat) (o1 : Nat) (M : Mem) (Q : Int32 → Mem → Prop) : Prop := ∃ n9, wp_X0_tableWidth_L9 o0 o1 (fun v2 M => Q v2 M) Q n9 ((M 1 o1 0 0) - 1) 0 M
set_option maxHeartbeats 4000000 in
set_option maxRecDepth 100000 in
theorem m_X0_tableWidth {l : Launch} {G : GG} (hG : GoodG G) {o0 : Nat} {o1 : Nat}  {M : Mem} {Q : Int32 → Mem → Prop} (ho0 : o0 < 5) (ho1 : o1 < 2) (hw : wp_X0_tableWidth o0 o1 M Q) : CTi l G yX0_tableWidth wsX0_tableWidth F_X0_tableWidth L_X0_tableWidth [.ref (gA G (3, o0, 0)), .ref (gA G (1, o1, 0))] M Q := by
  refine CTi_mk hG (by decide +kernel) rfl (Nat.le_of_ble_eq_true rfl) (fun Z (h : AX l G cX0_tableWidth 4 RX0 wsX0_tableWidth F_X0_tableWidth L_X0_tableWidth Z) hr => ?_)
  show Z 0 [(0, .ref (gA G (3, o0, 0))), (1, .ref (gA G (1, o1, 0)))] [] M
  unfold wp_X0_tableWidth at hw
  refine h.aload_n (pc := 0) dX0_tableWidth_0 rfl 1 rfl ?_
  refine h.getN (pc := 1) (f := 1) (o := o1) (i := 0) (ci := 3) (C := RX3) (T := TX3) (N := 9) (j := 0) (v := .int (M 1 o1 0 0)) (k_1 2 (by decide) ho1) rfl rfl (by decide) inX0_tableWidth_RX3 (own0 := RX0) (host := "TableWright") rfl nw_18 rfl dX0_tableWidth_1 ?_
  refine h.iconst (pc := 4) (v := 1) dX0_tableWidth_4 (by decide) ?_
  refine h.isub (pc := 5) dX0_tableWidth_5 ?_
  refine h.istore_n (pc := 6) [(2, .int ((M 1 o1 0 0) - 1)), (0, .ref (gA G (3, o0, 0))), (1, .ref (gA G (1, o1, 0)))] dX0_tableWidth_6 rfl (by decide) rfl ?_
  refine h.iconst (pc := 7) (v := 0) dX0_tableWidth_7 (by decide) ?_
  refine h.istore_n (pc := 8) [(3, .int 0), (2, .int ((M 1 o1 0 0) - 1)), (0, .ref (gA G (3, o0, 0))), (1, .ref (gA G (1, o1, 0)))] dX0_tableWidth_8 rfl (by decide) rfl ?_
  refine h.sub (pc := 9) [2, 3, 1, 0] (lv' := [(0, .ref (gA G (3, o0, 0))), (1, .ref (gA G (1, o1, 0))), (2, .int ((M 1 o1 0 0) - 1)), (3, .int 0)]) rfl ?_
  obtain ⟨n9, hw⟩ := hw
  exact l_X0_tableWidth_L9 h hG hr o0 o1 ho0 ho1 _ (fun v2 M hw => by
      refine h.iload_n (pc := 32) dX0_tableWidth_32 rfl 0 rfl ?_
      exact hr _ _ _ _ dX0_tableWidth_33 hw) n9 ((M 1 o1 0 0) - 1) 0 M hw
-- X0_heightOfRows
theorem inX0_heightOfRows_RX0 : ∀ w ∈ u_ws RX0 TX0 14, w ∈ wsX0_heightOfRows := by decide +kernel
theorem inX0_heightOfRows_RX3 : ∀ w ∈ u_ws RX3 TX3 9, w ∈ wsX0_heightOfRows := by decide +kernel
theorem kX0_heightOfRows_15 : Cond.fieldLink RX0 15 (TX0 3).1 (TX0 3).2.1 (TX0 3).2.2.1 ∈ wsX0_heightOfRows := by decide +kernel
abbrev F_X0_heightOfRows : Nat := 0
abbrev L_X0_heightOfRows : Nat := 0
theorem hd_X0_heightOfRows : yX0_heightOfRows.cls = RX0 ∧ yX0_heightOfRows.cls ≠ "java/lang/invoke/MethodHandle" ∧ yX0_heightOfRows.cls ≠ "java/lang/invoke/VarHandle" ∧ (parseMethodDescriptor yX0_heightOfRows.desc).map (fun d => d.parameters.length) = some 1 := by decide +kernel
def wp_X0_heightOfRows_L4 (o0 : Nat) (o1 : Nat)  (X : Int32 → Mem → Prop) (Q : Int32 → Mem → Prop) : Nat → Int32 → Int32 → Mem → Prop
  | 0, _, _, _ => False
  | n + 1, v2, v3, M => (((M 1 o1 0 5) ≤ v3 → X v2 M) ∧ (¬ ((M 1 o1 0 5) ≤ v3) → (vp_in v3 30 ∧ (wp_X0_heightOfRows_L4 o0 o1 X Q n) (v2 + (M 19 o0 0 v3.toNatClampNeg)) (v3 + 1) M)))
set_option maxHeartbeats 4000000 in
set_option maxRecDepth 100000 in
theorem l_X0_heightOfRows_L4 {l : Launch} {G : GG} {Z : ZT} (h : AX l G cX0_heightOfRows 4 RX0 wsX0_heightOfRows F_X0_heightOfRows L_X0_heightOfRows Z) (hG : GoodG G) {Q : Int32 → Mem → Prop} (hr : RETi cX0_heightOfRows Q Z) (o0 : Nat) (o1 : Nat) (ho0 : o0 < 5) (ho1 : o1 < 2)   (X : Int32 → Mem → Prop) (hX : ∀ (v2 : Int32) (M : Mem), X v2 M → Z 27 [(2, .int v2)] [] M) : ∀ (n : Nat) (v2 : Int32) (v3 : Int32) (M : Mem), wp_X0_heightOfRows_L4 o0 o1 X Q n v2 v3 M → Z 4 [(0, .ref (gA G (3, o0, 0))), (1, .ref (gA G (1, o1, 0))), (2, .int v2), (3, .int v3)] [] M := by
  intro n
  induction n with
  | zero => intro v2 v3 M hw; exact hw.elim
  | succ n ih =>
    intro v2 v3 M hw
    unfold wp_X0_heightOfRows_L4 at hw
    refine h.iload_n (pc := 4) dX0_heightOfRows_4 rfl 3 rfl ?_
    refine h.aload_n (pc := 5) dX0_heightOfRows_5 rfl 1 rfl ?_
    refine h.getN (pc := 6) (f := 1) (o := o1) (i := 0) (ci := 3) (C := RX3) (T := TX3) (N := 9) (j := 5) (v := .int (M 1 o1 0 5)) (k_1 2 (by decide) ho1) rfl rfl (by decide) inX0_heightOfRows_RX3 (own0 := RX0) (host := "TableWright") rfl nw_22 rfl dX0_heightOfRows_6 ?_
    refine h.icmp_ge (pc := 9) 27 dX0_heightOfRows_9 (by decide) (fun c9 => ?_) (fun c9 => ?_)
    · replace hw := hw.1 c9
      refine h.sub (pc := 27) [2] (lv' := [(2, .int v2)]) rfl ?_
      exact hX v2 M hw
    · replace hw := hw.2 c9
      refine h.iload_n (pc := 12) dX0_heightOfRows_12 rfl 2 rfl ?_
      refine h.aload_n (pc := 13) dX0_heightOfRows_13 rfl 0 rfl ?_
      refine h.getf (pc := 14) (f := 3) (o := o0) (i := 0) (ci := 0) (C := RX0) (T := TX0) (N := 14) (j := 3) (v := .ref (gA G (19, o0, 0))) (k_1 5 (by decide) ho0) rfl rfl (by decide) inX0_heightOfRows_RX0 kX0_heightOfRows_15 rfl dX0_heightOfRows_14 ?_
      refine h.iload_n (pc := 17) dX0_heightOfRows_17 rfl 3 rfl ?_
      obtain ⟨hj18, hw⟩ := hw
      refine h.iald (pc := 18) (f := 19) (o := o0) (i := 0) (n := 30) (k_1 5 (by decide) ho0) (fun _ => rfl) hj18 dX0_heightOfRows_18 ?_
      refine h.iadd (pc := 19) dX0_heightOfRows_19 ?_
      refine h.istore_n (pc := 20) [(2, .int (v2 + (M 19 o0 0 v3.toNatClampNeg))), (0, .ref (gA G (3, o0, 0))), (1, .ref (gA G (1, o1, 0))), (3, .int v3)] dX0_heightOfRows_20 rfl (by decide) rfl ?_
      refine h.iinc (pc := 21) [(3, .int (v3 + 1)), (2, .int (v2 + (M 19 o0 0 v3.toNatClampNeg))), (0, .ref (gA G (3, o0, 0))), (1, .ref (gA G (1, o1, 0)))] dX0_heightOfRows_21 3 rfl (inc_ (by decide)) (by decide) rfl ?_
      refine h.goto (pc := 24) 4 dX0_heightOfRows_24 (by decide) ?_
      refine h.sub (pc := 4) [2, 3, 1, 0] (lv' := [(0, .ref (gA G (3, o0, 0))), (1, .ref (gA G (1, o1, 0))), (2, .int (v2 + (M 19 o0 0 v3.toNatClampNeg))), (3, .int (v3 + 1))]) rfl ?_
      exact ih (v2 + (M 19 o0 0 v3.toNatClampNeg)) (v3 + 1) M hw
def wp_X0_heightOfRows (o0 : Nat) (o1 : Nat) (M : Mem) (Q : Int32 → Mem → Prop) : Prop := ∃ n4, wp_X0_heightOfRows_L4 o0 o1 (fun v2 M => Q v2 M) Q n4 0 0 M
set_option maxHeartbeats 4000000 in
set_option maxRecDepth 100000 in
theorem m_X0_heightOfRows {l : Launch} {G : GG} (hG : GoodG G) {o0 : Nat} {o1 : Nat}  {M : Mem} {Q : Int32 → Mem → Prop} (ho0 : o0 < 5) (ho1 : o1 < 2) (hw : wp_X0_heightOfRows o0 o1 M Q) : CTi l G yX0_heightOfRows wsX0_heightOfRows F_X0_heightOfRows L_X0_heightOfRows [.ref (gA G (3, o0, 0)), .ref (gA G (1, o1, 0))] M Q := by
  refine CTi_mk hG (by decide +kernel) rfl (Nat.le_of_ble_eq_true rfl) (fun Z (h : AX l G cX0_heightOfRows 4 RX0 wsX0_heightOfRows F_X0_heightOfRows L_X0_heightOfRows Z) hr => ?_)
  show Z 0 [(0, .ref (gA G (3, o0, 0))), (1, .ref (gA G (1, o1, 0)))] [] M
  unfold wp_X0_heightOfRows at hw
  refine h.iconst (pc := 0) (v := 0) dX0_heightOfRows_0 (by decide) ?_
  refine h.istore_n (pc := 1) [(2, .int 0), (0, .ref (gA G (3, o0, 0))), (1, .ref (gA G (1, o1, 0)))] dX0_heightOfRows_1 rfl (by decide) rfl ?_
  refine h.iconst (pc := 2) (v := 0) dX0_heightOfRows_2 (by decide) ?_
  refine h.istore_n (pc := 3) [(3, .int 0), (2, .int 0), (0, .ref (gA G (3, o0, 0))), (1, .ref (gA G (1, o1, 0)))] dX0_heightOfRows_3 rfl (by decide) rfl ?_
  refine h.sub (pc := 4) [2, 3, 1, 0] (lv' := [(0, .ref (gA G (3, o0, 0))), (1, .ref (gA G (1, o1, 0))), (2, .int 0), (3, .int 0)]) rfl ?_
  obtain ⟨n4, hw⟩ := hw
  exact l_X0_heightOfRows_L4 h hG hr o0 o1 ho0 ho1 _ (fun v2 M hw => by
      refine h.iload_n (pc := 27) dX0_heightOfRows_27 rfl 0 rfl ?_
      exact hr _ _ _ _ dX0_heightOfRows_28 hw) n4 0 0 M hw
-- X0_notesElsewhere
theorem inX0_notesElsewhere_RX0 : ∀ w ∈ u_ws RX0 TX0 14, w ∈ wsX0_notesElsewhere := by decide +kernel
theorem inX0_notesElsewhere_RX3 : ∀ w ∈ u_ws RX3 TX3 9, w ∈ wsX0_notesElsewhere := by decide +kernel
theorem kX0_notesElsewhere_21 : Cond.fieldLink RX0 21 (TX0 5).1 (TX0 5).2.1 (TX0 5).2.2.1 ∈ wsX0_notesElsewhere := by decide +kernel
theorem kX0_notesElsewhere_18 : Cond.fieldLink RX0 18 (TX0 4).1 (TX0 4).2.1 (TX0 4).2.2.1 ∈ wsX0_notesElsewhere := by decide +kernel
abbrev F_X0_notesElsewhere : Nat := 0
abbrev L_X0_notesElsewhere : Nat := 0
theorem hd_X0_notesElsewhere : yX0_notesElsewhere.cls = RX0 ∧ yX0_notesElsewhere.cls ≠ "java/lang/invoke/MethodHandle" ∧ yX0_notesElsewhere.cls ≠ "java/lang/invoke/VarHandle" ∧ (parseMethodDescriptor yX0_notesElsewhere.desc).map (fun d => d.parameters.length) = some 1 := by decide +kernel
def wp_X0_notesElsewhere_L40 (o0 : Nat) (o1 : Nat) (B : Int32 → Int32 → Mem → Prop) (X : Int32 → Mem → Prop) (Q : Int32 → Mem → Prop) (v2 : Int32) (v3 : Int32) (M : Mem) : Prop := B v2 (v3 + 1) M
set_option maxHeartbeats 4000000 in
set_option maxRecDepth 100000 in
theorem l_X0_notesElsewhere_L40 {l : Launch} {G : GG} {Z : ZT} (h : AX l G cX0_notesElsewhere 4 RX0 wsX0_notesElsewhere F_X0_notesElsewhere L_X0_notesElsewhere Z) (hG : GoodG G) {Q : Int32 → Mem → Prop} (hr : RETi cX0_notesElsewhere Q Z) (o0 : Nat) (o1 : Nat) (ho0 : o0 < 5) (ho1 : o1 < 2) (v2 : Int32) (v3 : Int32)  {B : Int32 → Int32 → Mem → Prop} (hB : ∀ (v2 : Int32) (v3 : Int32) (M : Mem), B v2 v3 M → Z 4 [(0, .ref (gA G (3, o0, 0))), (1, .ref (gA G (1, o1, 0))), (2, .int v2), (3, .int v3)] [] M) {X : Int32 → Mem → Prop} (hX : ∀ (v2 : Int32) (M : Mem), X v2 M → Z 46 [(2, .int v2)] [] M) (M : Mem) (hw : wp_X0_notesElsewhere_L40 o0 o1 B X Q v2 v3 M) : Z 40 [(0, .ref (gA G (3, o0, 0))), (1, .ref (gA G (1, o1, 0))), (2, .int v2), (3, .int v3)] [] M := by
  unfold wp_X0_notesElsewhere_L40 at hw
  refine h.iinc (pc := 40) [(3, .int (v3 + 1)), (0, .ref (gA G (3, o0, 0))), (1, .ref (gA G (1, o1, 0))), (2, .int v2)] dX0_notesElsewhere_40 3 rfl (inc_ (by decide)) (by decide) rfl ?_
  refine h.goto (pc := 43) 4 dX0_notesElsewhere_43 (by decide) ?_
  refine h.sub (pc := 4) [1, 2, 3, 0] (lv' := [(0, .ref (gA G (3, o0, 0))), (1, .ref (gA G (1, o1, 0))), (2, .int v2), (3, .int (v3 + 1))]) rfl ?_
  exact hB v2 (v3 + 1) M hw
def wp_X0_notesElsewhere_L4 (o0 : Nat) (o1 : Nat)  (X : Int32 → Mem → Prop) (Q : Int32 → Mem → Prop) : Nat → Int32 → Int32 → Mem → Prop
  | 0, _, _, _ => False
  | n + 1, v2, v3, M => (((M 1 o1 0 5) ≤ v3 → X v2 M) ∧ (¬ ((M 1 o1 0 5) ≤ v3) → (vp_in v3 30 ∧ (((M 21 o0 0 v3.toNatClampNeg) = (-1) → wp_X0_notesElsewhere_L40 o0 o1 (wp_X0_notesElsewhere_L4 o0 o1 X Q n) X Q v2 v3 M) ∧ (¬ ((M 21 o0 0 v3.toNatClampNeg) = (-1)) → (vp_in v3 30 ∧ (vp_in v3 30 ∧ (((M 21 o0 0 v3.toNatClampNeg) = (M 20 o0 0 v3.toNatClampNeg) → wp_X0_notesElsewhere_L40 o0 o1 (wp_X0_notesElsewhere_L4 o0 o1 X Q n) X Q v2 v3 M) ∧ (¬ ((M 21 o0 0 v3.toNatClampNeg) = (M 20 o0 0 v3.toNatClampNeg)) → wp_X0_notesElsewhere_L40 o0 o1 (wp_X0_notesElsewhere_L4 o0 o1 X Q n) X Q (v2 + 1) v3 M)))))))))
set_option maxHeartbeats 4000000 in
set_option maxRecDepth 100000 in
theorem l_X0_notesElsewhere_L4 {l : Launch} {G : GG} {Z : ZT} (h : AX l G cX0_notesElsewhere 4 RX0 wsX0_notesElsewhere F_X0_notesElsewhere L_X0_notesElsewhere Z) (hG : GoodG G) {Q : Int32 → Mem → Prop} (hr : RETi cX0_notesElsewhere Q Z) (o0 : Nat) (o1 : Nat) (ho0 : o0 < 5) (ho1 : o1 < 2)   (X : Int32 → Mem → Prop) (hX : ∀ (v2 : Int32) (M : Mem), X v2 M → Z 46 [(2, .int v2)] [] M) : ∀ (n : Nat) (v2 : Int32) (v3 : Int32) (M : Mem), wp_X0_notesElsewhere_L4 o0 o1 X Q n v2 v3 M → Z 4 [(0, .ref (gA G (3, o0, 0))), (1, .ref (gA G (1, o1, 0))), (2, .int v2), (3, .int v3)] [] M := by
  intro n
  induction n with
  | zero => intro v2 v3 M hw; exact hw.elim
  | succ n ih =>
    intro v2 v3 M hw
    unfold wp_X0_notesElsewhere_L4 at hw
    refine h.iload_n (pc := 4) dX0_notesElsewhere_4 rfl 3 rfl ?_
    refine h.aload_n (pc := 5) dX0_notesElsewhere_5 rfl 1 rfl ?_
    refine h.getN (pc := 6) (f := 1) (o := o1) (i := 0) (ci := 3) (C := RX3) (T := TX3) (N := 9) (j := 5) (v := .int (M 1 o1 0 5)) (k_1 2 (by decide) ho1) rfl rfl (by decide) inX0_notesElsewhere_RX3 (own0 := RX0) (host := "TableWright") rfl nw_22 rfl dX0_notesElsewhere_6 ?_
    refine h.icmp_ge (pc := 9) 46 dX0_notesElsewhere_9 (by decide) (fun c9 => ?_) (fun c9 => ?_)
    · replace hw := hw.1 c9
      refine h.sub (pc := 46) [2] (lv' := [(2, .int v2)]) rfl ?_
      exact hX v2 M hw
    · replace hw := hw.2 c9
      refine h.aload_n (pc := 12) dX0_notesElsewhere_12 rfl 0 rfl ?_
      refine h.getf (pc := 13) (f := 3) (o := o0) (i := 0) (ci := 0) (C := RX0) (T := TX0) (N := 14) (j := 5) (v := .ref (gA G (21, o0, 0))) (k_1 5 (by decide) ho0) rfl rfl (by decide) inX0_notesElsewhere_RX0 kX0_notesElsewhere_21 rfl dX0_notesElsewhere_13 ?_
      refine h.iload_n (pc := 16) dX0_notesElsewhere_16 rfl 3 rfl ?_
      obtain ⟨hj17, hw⟩ := hw
      refine h.iald (pc := 17) (f := 21) (o := o0) (i := 0) (n := 30) (k_1 5 (by decide) ho0) (fun _ => rfl) hj17 dX0_notesElsewhere_17 ?_
      refine h.iconst (pc := 18) (v := (-1)) dX0_notesElsewhere_18 (by decide) ?_
      refine h.icmp_eq (pc := 19) 40 dX0_notesElsewhere_19 (by decide) (fun c19 => ?_) (fun c19 => ?_)
      · replace hw := hw.1 c19
        exact l_X0_notesElsewhere_L40 h hG hr o0 o1 ho0 ho1 v2 v3 ih hX M hw
      · replace hw := hw.2 c19
        refine h.aload_n (pc := 22) dX0_notesElsewhere_22 rfl 0 rfl ?_
        refine h.getf (pc := 23) (f := 3) (o := o0) (i := 0) (ci := 0) (C := RX0) (T := TX0) (N := 14) (j := 5) (v := .ref (gA G (21, o0, 0))) (k_1 5 (by decide) ho0) rfl rfl (by decide) inX0_notesElsewhere_RX0 kX0_notesElsewhere_21 rfl dX0_notesElsewhere_23 ?_
        refine h.iload_n (pc := 26) dX0_notesElsewhere_26 rfl 3 rfl ?_
        obtain ⟨hj27, hw⟩ := hw
        refine h.iald (pc := 27) (f := 21) (o := o0) (i := 0) (n := 30) (k_1 5 (by decide) ho0) (fun _ => rfl) hj27 dX0_notesElsewhere_27 ?_
        refine h.aload_n (pc := 28) dX0_notesElsewhere_28 rfl 0 rfl ?_
        refine h.getf (pc := 29) (f := 3) (o := o0) (i := 0) (ci := 0) (C := RX0) (T := TX0) (N := 14) (j := 4) (v := .ref (gA G (20, o0, 0))) (k_1 5 (by decide) ho0) rfl rfl (by decide) inX0_notesElsewhere_RX0 kX0_notesElsewhere_18 rfl dX0_notesElsewhere_29 ?_
        refine h.iload_n (pc := 32) dX0_notesElsewhere_32 rfl 3 rfl ?_
        obtain ⟨hj33, hw⟩ := hw
        refine h.iald (pc := 33) (f := 20) (o := o0) (i := 0) (n := 30) (k_1 5 (by decide) ho0) (fun _ => rfl) hj33 dX0_notesElsewhere_33 ?_
        refine h.icmp_eq (pc := 34) 40 dX0_notesElsewhere_34 (by decide) (fun c34 => ?_) (fun c34 => ?_)
        · replace hw := hw.1 c34
          exact l_X0_notesElsewhere_L40 h hG hr o0 o1 ho0 ho1 v2 v3 ih hX M hw
        · replace hw := hw.2 c34
          refine h.iinc (pc := 37) [(2, .int (v2 + 1)), (0, .ref (gA G (3, o0, 0))), (1, .ref (gA G (1, o1, 0))), (3, .int v3)] dX0_notesElsewhere_37 2 rfl (inc_ (by decide)) (by decide) rfl ?_
          refine h.sub (pc := 40) [1, 2, 0, 3] (lv' := [(0, .ref (gA G (3, o0, 0))), (1, .ref (gA G (1, o1, 0))), (2, .int (v2 + 1)), (3, .int v3)]) rfl ?_
          exact l_X0_notesElsewhere_L40 h hG hr o0 o1 ho0 ho1 (v2 + 1) v3 ih hX M hw
def wp_X0_notesElsewhere (o0 : Nat) (o1 : Nat) (M : Mem) (Q : Int32 → Mem → Prop) : Prop := ∃ n4, wp_X0_notesElsewhere_L4 o0 o1 (fun v2 M => Q v2 M) Q n4 0 0 M
set_option maxHeartbeats 4000000 in
set_option maxRecDepth 100000 in
theorem m_X0_notesElsewhere {l : Launch} {G : GG} (hG : GoodG G) {o0 : Nat} {o1 : Nat}  {M : Mem} {Q : Int32 → Mem → Prop} (ho0 : o0 < 5) (ho1 : o1 < 2) (hw : wp_X0_notesElsewhere o0 o1 M Q) : CTi l G yX0_notesElsewhere wsX0_notesElsewhere F_X0_notesElsewhere L_X0_notesElsewhere [.ref (gA G (3, o0, 0)), .ref (gA G (1, o1, 0))] M Q := by
  refine CTi_mk hG (by decide +kernel) rfl (Nat.le_of_ble_eq_true rfl) (fun Z (h : AX l G cX0_notesElsewhere 4 RX0 wsX0_notesElsewhere F_X0_notesElsewhere L_X0_notesElsewhere Z) hr => ?_)
  show Z 0 [(0, .ref (gA G (3, o0, 0))), (1, .ref (gA G (1, o1, 0)))] [] M
  unfold wp_X0_notesElsewhere at hw
  refine h.iconst (pc := 0) (v := 0) dX0_notesElsewhere_0 (by decide) ?_
  refine h.istore_n (pc := 1) [(2, .int 0), (0, .ref (gA G (3, o0, 0))), (1, .ref (gA G (1, o1, 0)))] dX0_notesElsewhere_1 rfl (by decide) rfl ?_
  refine h.iconst (pc := 2) (v := 0) dX0_notesElsewhere_2 (by decide) ?_
  refine h.istore_n (pc := 3) [(3, .int 0), (2, .int 0), (0, .ref (gA G (3, o0, 0))), (1, .ref (gA G (1, o1, 0)))] dX0_notesElsewhere_3 rfl (by decide) rfl ?_
  refine h.sub (pc := 4) [2, 3, 1, 0] (lv' := [(0, .ref (gA G (3, o0, 0))), (1, .ref (gA G (1, o1, 0))), (2, .int 0), (3, .int 0)]) rfl ?_
  obtain ⟨n4, hw⟩ := hw
  exact l_X0_notesElsewhere_L4 h hG hr o0 o1 ho0 ho1 _ (fun v2 M hw => by
      refine h.iload_n (pc := 46) dX0_notesElsewhere_46 rfl 0 rfl ?_
      exact hr _ _ _ _ dX0_notesElsewhere_47 hw) n4 0 0 M hw
-- X0_carriedOn
theorem inX0_carriedOn_RX0 : ∀ w ∈ u_ws RX0 TX0 14, w ∈ wsX0_carriedOn := by decide +kernel
theorem kX0_carriedOn_36 : Cond.fieldLink RX0 36 (TX0 11).1 (TX0 11).2.1 (TX0 11).2.2.1 ∈ wsX0_carriedOn := by decide +kernel
abbrev F_X0_carriedOn : Nat := 1
abbrev L_X0_carriedOn : Nat := 22
theorem hd_X0_carriedOn : yX0_carriedOn.cls = RX0 ∧ yX0_carriedOn.cls ≠ "java/lang/invoke/MethodHandle" ∧ yX0_carriedOn.cls ≠ "java/lang/invoke/VarHandle" ∧ (parseMethodDescriptor yX0_carriedOn.desc).map (fun d => d.parameters.length) = some 3 := by decide +kernel
def wp_X0_carriedOn (o0 : Nat) (o1 : Nat) (v2 : Int32) (v3 : Int32) (M : Mem) (Q : Int32 → Mem → Prop) : Prop := (vp_in v2 60 ∧ (wp_X3_sumUpTo o1 (M 26 o0 0 v2.toNatClampNeg) v3 M (fun r8 M8 => Q r8 M8)))
set_option maxHeartbeats 4000000 in
set_option maxRecDepth 100000 in
theorem m_X0_carriedOn {l : Launch} {G : GG} (hG : GoodG G) {o0 : Nat} {o1 : Nat} {v2 : Int32} {v3 : Int32}  {M : Mem} {Q : Int32 → Mem → Prop} (ho0 : o0 < 5) (ho1 : o1 < 2) (hw : wp_X0_carriedOn o0 o1 v2 v3 M Q) : CTi l G yX0_carriedOn wsX0_carriedOn F_X0_carriedOn L_X0_carriedOn [.ref (gA G (3, o0, 0)), .ref (gA G (1, o1, 0)), .int v2, .int v3] M Q := by
  refine CTi_mk hG (by decide +kernel) rfl (Nat.le_of_ble_eq_true rfl) (fun Z (h : AX l G cX0_carriedOn 4 RX0 wsX0_carriedOn F_X0_carriedOn L_X0_carriedOn Z) hr => ?_)
  show Z 0 [(0, .ref (gA G (3, o0, 0))), (1, .ref (gA G (1, o1, 0))), (2, .int v2), (3, .int v3)] [] M
  unfold wp_X0_carriedOn at hw
  refine h.aload_n (pc := 0) dX0_carriedOn_0 rfl 1 rfl ?_
  refine h.aload_n (pc := 1) dX0_carriedOn_1 rfl 0 rfl ?_
  refine h.getf (pc := 2) (f := 3) (o := o0) (i := 0) (ci := 0) (C := RX0) (T := TX0) (N := 14) (j := 11) (v := .ref (gA G (26, o0, 0))) (k_1 5 (by decide) ho0) rfl rfl (by decide) inX0_carriedOn_RX0 kX0_carriedOn_36 rfl dX0_carriedOn_2 ?_
  refine h.iload_n (pc := 5) dX0_carriedOn_5 rfl 2 rfl ?_
  obtain ⟨hj6, hw⟩ := hw
  refine h.iald (pc := 6) (f := 26) (o := o0) (i := 0) (n := 60) (k_1 5 (by decide) ho0) (fun _ => rfl) hj6 dX0_carriedOn_6 ?_
  refine h.iload_n (pc := 7) dX0_carriedOn_7 rfl 3 rfl ?_
  refine h.cVi (pc := 8) [.int (M 26 o0 0 v2.toNatClampNeg), .int v3] (1, o1, 0) [] (m_X3_sumUpTo hG ho1 hw) gX0_carriedOn_X3_sumUpTo rfl hd_X3_sumUpTo (by decide) (k_1 2 (by decide) ho1) rfl rfl rfl rfl rfl (Nat.le_of_ble_eq_true rfl) dX0_carriedOn_8 (fun r8 M8 hw => ?_)
  exact hr _ _ _ _ dX0_carriedOn_11 hw
-- X0_shownCells
theorem inX0_shownCells_RX1 : ∀ w ∈ u_ws RX1 TX1 8, w ∈ wsX0_shownCells := by decide +kernel
theorem inX0_shownCells_RX3 : ∀ w ∈ u_ws RX3 TX3 9, w ∈ wsX0_shownCells := by decide +kernel
abbrev F_X0_shownCells : Nat := 0
abbrev L_X0_shownCells : Nat := 0
theorem hd_X0_shownCells : yX0_shownCells.cls ≠ "java/lang/invoke/MethodHandle" ∧ yX0_shownCells.cls ≠ "java/lang/invoke/VarHandle" ∧ (parseMethodDescriptor yX0_shownCells.desc).map (fun d => d.parameters.length) = some 2 := by decide +kernel
def wp_X0_shownCells_L29 (o0 : Nat) (v1 : Int32) (B : Int32 → Int32 → Mem → Prop) (X : Int32 → Mem → Prop) (Q : Int32 → Mem → Prop) (v2 : Int32) (v3 : Int32) (M : Mem) : Prop := B v2 (v3 + 1) M
set_option maxHeartbeats 4000000 in
set_option maxRecDepth 100000 in
theorem l_X0_shownCells_L29 {l : Launch} {G : GG} {Z : ZT} (h : AX l G cX0_shownCells 4 RX0 wsX0_shownCells F_X0_shownCells L_X0_shownCells Z) (hG : GoodG G) {Q : Int32 → Mem → Prop} (hr : RETi cX0_shownCells Q Z) (o0 : Nat) (v1 : Int32) (ho0 : o0 < 2) (v2 : Int32) (v3 : Int32)  {B : Int32 → Int32 → Mem → Prop} (hB : ∀ (v2 : Int32) (v3 : Int32) (M : Mem), B v2 v3 M → Z 4 [(0, .ref (gA G (1, o0, 0))), (1, .int v1), (2, .int v2), (3, .int v3)] [] M) {X : Int32 → Mem → Prop} (hX : ∀ (v2 : Int32) (M : Mem), X v2 M → Z 35 [(2, .int v2)] [] M) (M : Mem) (hw : wp_X0_shownCells_L29 o0 v1 B X Q v2 v3 M) : Z 29 [(0, .ref (gA G (1, o0, 0))), (1, .int v1), (2, .int v2), (3, .int v3)] [] M := by
  unfold wp_X0_shownCells_L29 at hw
  refine h.iinc (pc := 29) [(3, .int (v3 + 1)), (0, .ref (gA G (1, o0, 0))), (1, .int v1), (2, .int v2)] dX0_shownCells_29 3 rfl (inc_ (by decide)) (by decide) rfl ?_
  refine h.goto (pc := 32) 4 dX0_shownCells_32 (by decide) ?_
  refine h.sub (pc := 4) [1, 2, 3, 0] (lv' := [(0, .ref (gA G (1, o0, 0))), (1, .int v1), (2, .int v2), (3, .int (v3 + 1))]) rfl ?_
  exact hB v2 (v3 + 1) M hw
def wp_X0_shownCells_L4 (o0 : Nat) (v1 : Int32)  (X : Int32 → Mem → Prop) (Q : Int32 → Mem → Prop) : Nat → Int32 → Int32 → Mem → Prop
  | 0, _, _, _ => False
  | n + 1, v2, v3, M => (((M 1 o0 0 0) ≤ v3 → X v2 M) ∧ (¬ ((M 1 o0 0 0) ≤ v3) → (vp_in v1 30 ∧ (vp_in v3 6 ∧ (((M 17 o0 (v1.toNatClampNeg) v3.toNatClampNeg) = 0 → wp_X0_shownCells_L29 o0 v1 (wp_X0_shownCells_L4 o0 v1 X Q n) X Q (v2 + 1) v3 M) ∧ (¬ ((M 17 o0 (v1.toNatClampNeg) v3.toNatClampNeg) = 0) → wp_X0_shownCells_L29 o0 v1 (wp_X0_shownCells_L4 o0 v1 X Q n) X Q v2 v3 M))))))
set_option maxHeartbeats 4000000 in
set_option maxRecDepth 100000 in
theorem l_X0_shownCells_L4 {l : Launch} {G : GG} {Z : ZT} (h : AX l G cX0_shownCells 4 RX0 wsX0_shownCells F_X0_shownCells L_X0_shownCells Z) (hG : GoodG G) {Q : Int32 → Mem → Prop} (hr : RETi cX0_shownCells Q Z) (o0 : Nat) (v1 : Int32) (ho0 : o0 < 2)   (X : Int32 → Mem → Prop) (hX : ∀ (v2 : Int32) (M : Mem), X v2 M → Z 35 [(2, .int v2)] [] M) : ∀ (n : Nat) (v2 : Int32) (v3 : Int32) (M : Mem), wp_X0_shownCells_L4 o0 v1 X Q n v2 v3 M → Z 4 [(0, .ref (gA G (1, o0, 0))), (1, .int v1), (2, .int v2), (3, .int v3)] [] M := by
  intro n
  induction n with
  | zero => intro v2 v3 M hw; exact hw.elim
  | succ n ih =>
    intro v2 v3 M hw
    unfold wp_X0_shownCells_L4 at hw
    refine h.iload_n (pc := 4) dX0_shownCells_4 rfl 3 rfl ?_
    refine h.aload_n (pc := 5) dX0_shownCells_5 rfl 0 rfl ?_
    refine h.getN (pc := 6) (f := 1) (o := o0) (i := 0) (ci := 3) (C := RX3) (T := TX3) (N := 9) (j := 0) (v := .int (M 1 o0 0 0)) (k_1 2 (by decide) ho0) rfl rfl (by decide) inX0_shownCells_RX3 (own0 := RX0) (host := "TableWright") rfl nw_18 rfl dX0_shownCells_6 ?_
    refine h.icmp_ge (pc := 9) 35 dX0_shownCells_9 (by decide) (fun c9 => ?_) (fun c9 => ?_)
    · replace hw := hw.1 c9
      refine h.sub (pc := 35) [2] (lv' := [(2, .int v2)]) rfl ?_
      exact hX v2 M hw
    · replace hw := hw.2 c9
      refine h.aload_n (pc := 12) dX0_shownCells_12 rfl 0 rfl ?_
      refine h.getN (pc := 13) (f := 1) (o := o0) (i := 0) (ci := 3) (C := RX3) (T := TX3) (N := 9) (j := 6) (v := .ref (gA G (11, o0, 0))) (k_1 2 (by decide) ho0) rfl rfl (by decide) inX0_shownCells_RX3 (own0 := RX0) (host := "TableWright") rfl nw_25 rfl dX0_shownCells_13 ?_
      refine h.iload_n (pc := 16) dX0_shownCells_16 rfl 1 rfl ?_
      obtain ⟨hj17, hw⟩ := hw
      refine h.aald (pc := 17) (o := o0) (ix := v1) ho0 hj17 dX0_shownCells_17 ?_
      refine h.getN (pc := 18) (f := 4) (o := o0) (i := v1.toNatClampNeg) (ci := 1) (C := RX1) (T := TX1) (N := 8) (j := 7) (v := .ref (gA G (17, o0, v1.toNatClampNeg))) (k_2 (by decide) ho0 (vin_lt hj17)) rfl rfl (by decide) inX0_shownCells_RX1 (own0 := RX0) (host := "TableWright") rfl nw_17 rfl dX0_shownCells_18 ?_
      refine h.iload_n (pc := 21) dX0_shownCells_21 rfl 3 rfl ?_
      obtain ⟨hj22, hw⟩ := hw
      refine h.zald (pc := 22) (f := 17) (o := o0) (i := v1.toNatClampNeg) (n := 6) (k_2 (by decide) ho0 (vin_lt hj17)) (fun _ => rfl) hj22 dX0_shownCells_22 ?_
      refine h.if_ne (pc := 23) 29 dX0_shownCells_23 (by decide) (fun c23 => ?_) (fun c23 => ?_)
      · replace hw := hw.2 c23
        exact l_X0_shownCells_L29 h hG hr o0 v1 ho0 v2 v3 ih hX M hw
      · replace hw := hw.1 c23
        refine h.iinc (pc := 26) [(2, .int (v2 + 1)), (0, .ref (gA G (1, o0, 0))), (1, .int v1), (3, .int v3)] dX0_shownCells_26 2 rfl (inc_ (by decide)) (by decide) rfl ?_
        refine h.sub (pc := 29) [1, 2, 0, 3] (lv' := [(0, .ref (gA G (1, o0, 0))), (1, .int v1), (2, .int (v2 + 1)), (3, .int v3)]) rfl ?_
        exact l_X0_shownCells_L29 h hG hr o0 v1 ho0 (v2 + 1) v3 ih hX M hw
def wp_X0_shownCells (o0 : Nat) (v1 : Int32) (M : Mem) (Q : Int32 → Mem → Prop) : Prop := ∃ n4, wp_X0_shownCells_L4 o0 v1 (fun v2 M => Q v2 M) Q n4 0 0 M
set_option maxHeartbeats 4000000 in
set_option maxRecDepth 100000 in
theorem m_X0_shownCells {l : Launch} {G : GG} (hG : GoodG G) {o0 : Nat} {v1 : Int32}  {M : Mem} {Q : Int32 → Mem → Prop} (ho0 : o0 < 2) (hw : wp_X0_shownCells o0 v1 M Q) : CTi l G yX0_shownCells wsX0_shownCells F_X0_shownCells L_X0_shownCells [.ref (gA G (1, o0, 0)), .int v1] M Q := by
  refine CTi_mk hG (by decide +kernel) rfl (Nat.le_of_ble_eq_true rfl) (fun Z (h : AX l G cX0_shownCells 4 RX0 wsX0_shownCells F_X0_shownCells L_X0_shownCells Z) hr => ?_)
  show Z 0 [(0, .ref (gA G (1, o0, 0))), (1, .int v1)] [] M
  unfold wp_X0_shownCells at hw
  refine h.iconst (pc := 0) (v := 0) dX0_shownCells_0 (by decide) ?_
  refine h.istore_n (pc := 1) [(2, .int 0), (0, .ref (gA G (1, o0, 0))), (1, .int v1)] dX0_shownCells_1 rfl (by decide) rfl ?_
  refine h.iconst (pc := 2) (v := 0) dX0_shownCells_2 (by decide) ?_
  refine h.istore_n (pc := 3) [(3, .int 0), (2, .int 0), (0, .ref (gA G (1, o0, 0))), (1, .int v1)] dX0_shownCells_3 rfl (by decide) rfl ?_
  refine h.sub (pc := 4) [2, 3, 1, 0] (lv' := [(0, .ref (gA G (1, o0, 0))), (1, .int v1), (2, .int 0), (3, .int 0)]) rfl ?_
  obtain ⟨n4, hw⟩ := hw
  exact l_X0_shownCells_L4 h hG hr o0 v1 ho0 _ (fun v2 M hw => by
      refine h.iload_n (pc := 35) dX0_shownCells_35 rfl 0 rfl ?_
      exact hr _ _ _ _ dX0_shownCells_36 hw) n4 0 0 M hw
-- X0_readAloud
theorem inX0_readAloud_RX0 : ∀ w ∈ u_ws RX0 TX0 14, w ∈ wsX0_readAloud := by decide +kernel
theorem inX0_readAloud_RX3 : ∀ w ∈ u_ws RX3 TX3 9, w ∈ wsX0_readAloud := by decide +kernel
theorem kX0_readAloud_30 : Cond.fieldLink RX0 30 (TX0 9).1 (TX0 9).2.1 (TX0 9).2.2.1 ∈ wsX0_readAloud := by decide +kernel
theorem kX0_readAloud_18 : Cond.fieldLink RX0 18 (TX0 4).1 (TX0 4).2.1 (TX0 4).2.2.1 ∈ wsX0_readAloud := by decide +kernel
abbrev F_X0_readAloud : Nat := 1
abbrev L_X0_readAloud : Nat := 23
theorem hd_X0_readAloud : yX0_readAloud.cls = RX0 ∧ yX0_readAloud.cls ≠ "java/lang/invoke/MethodHandle" ∧ yX0_readAloud.cls ≠ "java/lang/invoke/VarHandle" ∧ (parseMethodDescriptor yX0_readAloud.desc).map (fun d => d.parameters.length) = some 2 := by decide +kernel
def wp_X0_readAloud_L42 (o0 : Nat) (o1 : Nat) (v2 : Int32) (B : Int32 → Int32 → Mem → Prop) (X : Int32 → Mem → Prop) (Q : Int32 → Mem → Prop) (v3 : Int32) (v4 : Int32) (M : Mem) : Prop := B v3 (v4 + 1) M
set_option maxHeartbeats 4000000 in
set_option maxRecDepth 100000 in
theorem l_X0_readAloud_L42 {l : Launch} {G : GG} {Z : ZT} (h : AX l G cX0_readAloud 5 RX0 wsX0_readAloud F_X0_readAloud L_X0_readAloud Z) (hG : GoodG G) {Q : Int32 → Mem → Prop} (hr : RETi cX0_readAloud Q Z) (o0 : Nat) (o1 : Nat) (v2 : Int32) (ho0 : o0 < 5) (ho1 : o1 < 2) (v3 : Int32) (v4 : Int32)  {B : Int32 → Int32 → Mem → Prop} (hB : ∀ (v3 : Int32) (v4 : Int32) (M : Mem), B v3 v4 M → Z 15 [(0, .ref (gA G (3, o0, 0))), (1, .ref (gA G (1, o1, 0))), (2, .int v2), (3, .int v3), (4, .int v4)] [] M) {X : Int32 → Mem → Prop} (hX : ∀ (v3 : Int32) (M : Mem), X v3 M → Z 48 [(0, .ref (gA G (3, o0, 0))), (1, .ref (gA G (1, o1, 0))), (2, .int v2), (3, .int v3)] [] M) (M : Mem) (hw : wp_X0_readAloud_L42 o0 o1 v2 B X Q v3 v4 M) : Z 42 [(0, .ref (gA G (3, o0, 0))), (1, .ref (gA G (1, o1, 0))), (2, .int v2), (3, .int v3), (4, .int v4)] [] M := by
  unfold wp_X0_readAloud_L42 at hw
  refine h.iinc (pc := 42) [(4, .int (v4 + 1)), (0, .ref (gA G (3, o0, 0))), (1, .ref (gA G (1, o1, 0))), (2, .int v2), (3, .int v3)] dX0_readAloud_42 4 rfl (inc_ (by decide)) (by decide) rfl ?_
  refine h.goto (pc := 45) 15 dX0_readAloud_45 (by decide) ?_
  refine h.sub (pc := 15) [1, 2, 3, 4, 0] (lv' := [(0, .ref (gA G (3, o0, 0))), (1, .ref (gA G (1, o1, 0))), (2, .int v2), (3, .int v3), (4, .int (v4 + 1))]) rfl ?_
  exact hB v3 (v4 + 1) M hw
def wp_X0_readAloud_L15 (o0 : Nat) (o1 : Nat) (v2 : Int32)  (X : Int32 → Mem → Prop) (Q : Int32 → Mem → Prop) : Nat → Int32 → Int32 → Mem → Prop
  | 0, _, _, _ => False
  | n + 1, v3, v4, M => (((M 1 o1 0 0) ≤ v4 → X v3 M) ∧ (¬ ((M 1 o1 0 0) ≤ v4) → ((v2 ≤ 0 → wp_X0_readAloud_L42 o0 o1 v2 (wp_X0_readAloud_L15 o0 o1 v2 X Q n) X Q v3 v4 M) ∧ (¬ (v2 ≤ 0) → (vp_in v4 6 ∧ (((M 5 o1 0 v4.toNatClampNeg) = 1 → wp_X0_readAloud_L42 o0 o1 v2 (wp_X0_readAloud_L15 o0 o1 v2 X Q n) X Q v3 v4 M) ∧ (¬ ((M 5 o1 0 v4.toNatClampNeg) = 1) → wp_X0_readAloud_L42 o0 o1 v2 (wp_X0_readAloud_L15 o0 o1 v2 X Q n) X Q (v3 + 1) v4 M)))))))
set_option maxHeartbeats 4000000 in
set_option maxRecDepth 100000 in
theorem l_X0_readAloud_L15 {l : Launch} {G : GG} {Z : ZT} (h : AX l G cX0_readAloud 5 RX0 wsX0_readAloud F_X0_readAloud L_X0_readAloud Z) (hG : GoodG G) {Q : Int32 → Mem → Prop} (hr : RETi cX0_readAloud Q Z) (o0 : Nat) (o1 : Nat) (v2 : Int32) (ho0 : o0 < 5) (ho1 : o1 < 2)   (X : Int32 → Mem → Prop) (hX : ∀ (v3 : Int32) (M : Mem), X v3 M → Z 48 [(0, .ref (gA G (3, o0, 0))), (1, .ref (gA G (1, o1, 0))), (2, .int v2), (3, .int v3)] [] M) : ∀ (n : Nat) (v3 : Int32) (v4 : Int32) (M : Mem), wp_X0_readAloud_L15 o0 o1 v2 X Q n v3 v4 M → Z 15 [(0, .ref (gA G (3, o0, 0))), (1, .ref (gA G (1, o1, 0))), (2, .int v2), (3, .int v3), (4, .int v4)] [] M := by
  intro n
  induction n with
  | zero => intro v3 v4 M hw; exact hw.elim
  | succ n ih =>
    intro v3 v4 M hw
    unfold wp_X0_readAloud_L15 at hw
    refine h.iload (pc := 15) dX0_readAloud_15 4 rfl ?_
    refine h.aload_n (pc := 17) dX0_readAloud_17 rfl 1 rfl ?_
    refine h.getN (pc := 18) (f := 1) (o := o1) (i := 0) (ci := 3) (C := RX3) (T := TX3) (N := 9) (j := 0) (v := .int (M 1 o1 0 0)) (k_1 2 (by decide) ho1) rfl rfl (by decide) inX0_readAloud_RX3 (own0 := RX0) (host := "TableWright") rfl nw_18 rfl dX0_readAloud_18 ?_
    refine h.icmp_ge (pc := 21) 48 dX0_readAloud_21 (by decide) (fun c21 => ?_) (fun c21 => ?_)
    · replace hw := hw.1 c21
      refine h.sub (pc := 48) [0, 1, 2, 3] (lv' := [(0, .ref (gA G (3, o0, 0))), (1, .ref (gA G (1, o1, 0))), (2, .int v2), (3, .int v3)]) rfl ?_
      exact hX v3 M hw
    · replace hw := hw.2 c21
      refine h.iload_n (pc := 24) dX0_readAloud_24 rfl 2 rfl ?_
      refine h.if_le (pc := 25) 42 dX0_readAloud_25 (by decide) (fun c25 => ?_) (fun c25 => ?_)
      · replace hw := hw.1 c25
        exact l_X0_readAloud_L42 h hG hr o0 o1 v2 ho0 ho1 v3 v4 ih hX M hw
      · replace hw := hw.2 c25
        refine h.aload_n (pc := 28) dX0_readAloud_28 rfl 1 rfl ?_
        refine h.getN (pc := 29) (f := 1) (o := o1) (i := 0) (ci := 3) (C := RX3) (T := TX3) (N := 9) (j := 1) (v := .ref (gA G (5, o1, 0))) (k_1 2 (by decide) ho1) rfl rfl (by decide) inX0_readAloud_RX3 (own0 := RX0) (host := "TableWright") rfl nw_20 rfl dX0_readAloud_29 ?_
        refine h.iload (pc := 32) dX0_readAloud_32 4 rfl ?_
        obtain ⟨hj34, hw⟩ := hw
        refine h.iald (pc := 34) (f := 5) (o := o1) (i := 0) (n := 6) (k_1 2 (by decide) ho1) (fun _ => rfl) hj34 dX0_readAloud_34 ?_
        refine h.iconst (pc := 35) (v := 1) dX0_readAloud_35 (by decide) ?_
        refine h.icmp_eq (pc := 36) 42 dX0_readAloud_36 (by decide) (fun c36 => ?_) (fun c36 => ?_)
        · replace hw := hw.1 c36
          exact l_X0_readAloud_L42 h hG hr o0 o1 v2 ho0 ho1 v3 v4 ih hX M hw
        · replace hw := hw.2 c36
          refine h.iinc (pc := 39) [(3, .int (v3 + 1)), (0, .ref (gA G (3, o0, 0))), (1, .ref (gA G (1, o1, 0))), (2, .int v2), (4, .int v4)] dX0_readAloud_39 3 rfl (inc_ (by decide)) (by decide) rfl ?_
          refine h.sub (pc := 42) [1, 2, 3, 0, 4] (lv' := [(0, .ref (gA G (3, o0, 0))), (1, .ref (gA G (1, o1, 0))), (2, .int v2), (3, .int (v3 + 1)), (4, .int v4)]) rfl ?_
          exact l_X0_readAloud_L42 h hG hr o0 o1 v2 ho0 ho1 (v3 + 1) v4 ih hX M hw
def wp_X0_readAloud_L80 (o0 : Nat) (o1 : Nat) (v2 : Int32) (B : Int32 → Int32 → Mem → Prop) (X : Int32 → Mem → Prop) (Q : Int32 → Mem → Prop) (v3 : Int32) (v4 : Int32) (M : Mem) : Prop := B v3 (v4 + 1) M
set_option maxHeartbeats 4000000 in
set_option maxRecDepth 100000 in
theorem l_X0_readAloud_L80 {l : Launch} {G : GG} {Z : ZT} (h : AX l G cX0_readAloud 5 RX0 wsX0_readAloud F_X0_readAloud L_X0_readAloud Z) (hG : GoodG G) {Q : Int32 → Mem → Prop} (hr : RETi cX0_readAloud Q Z) (o0 : Nat) (o1 : Nat) (v2 : Int32) (ho0 : o0 < 5) (ho1 : o1 < 2) (v3 : Int32) (v4 : Int32)  {B : Int32 → Int32 → Mem → Prop} (hB : ∀ (v3 : Int32) (v4 : Int32) (M : Mem), B v3 v4 M → Z 51 [(0, .ref (gA G (3, o0, 0))), (1, .ref (gA G (1, o1, 0))), (2, .int v2), (3, .int v3), (4, .int v4)] [] M) {X : Int32 → Mem → Prop} (hX : ∀ (v3 : Int32) (M : Mem), X v3 M → Z 86 [(3, .int v3)] [] M) (M : Mem) (hw : wp_X0_readAloud_L80 o0 o1 v2 B X Q v3 v4 M) : Z 80 [(0, .ref (gA G (3, o0, 0))), (1, .ref (gA G (1, o1, 0))), (2, .int v2), (3, .int v3), (4, .int v4)] [] M := by
  unfold wp_X0_readAloud_L80 at hw
  refine h.iinc (pc := 80) [(4, .int (v4 + 1)), (0, .ref (gA G (3, o0, 0))), (1, .ref (gA G (1, o1, 0))), (2, .int v2), (3, .int v3)] dX0_readAloud_80 4 rfl (inc_ (by decide)) (by decide) rfl ?_
  refine h.goto (pc := 83) 51 dX0_readAloud_83 (by decide) ?_
  refine h.sub (pc := 51) [1, 2, 3, 4, 0] (lv' := [(0, .ref (gA G (3, o0, 0))), (1, .ref (gA G (1, o1, 0))), (2, .int v2), (3, .int v3), (4, .int (v4 + 1))]) rfl ?_
  exact hB v3 (v4 + 1) M hw
def wp_X0_readAloud_L51 (o0 : Nat) (o1 : Nat) (v2 : Int32)  (X : Int32 → Mem → Prop) (Q : Int32 → Mem → Prop) : Nat → Int32 → Int32 → Mem → Prop
  | 0, _, _, _ => False
  | n + 1, v3, v4, M => (((M 1 o1 0 5) ≤ v4 → X v3 M) ∧ (¬ ((M 1 o1 0 5) ≤ v4) → (vp_in v4 30 ∧ (((M 20 o0 0 v4.toNatClampNeg) = v2 → (wp_X0_shownCells o1 v4 M (fun r75 M75 => wp_X0_readAloud_L80 o0 o1 v2 (wp_X0_readAloud_L51 o0 o1 v2 X Q n) X Q (v3 + r75) v4 M75))) ∧ (¬ ((M 20 o0 0 v4.toNatClampNeg) = v2) → wp_X0_readAloud_L80 o0 o1 v2 (wp_X0_readAloud_L51 o0 o1 v2 X Q n) X Q v3 v4 M)))))
set_option maxHeartbeats 4000000 in
set_option maxRecDepth 100000 in
theorem l_X0_readAloud_L51 {l : Launch} {G : GG} {Z : ZT} (h : AX l G cX0_readAloud 5 RX0 wsX0_readAloud F_X0_readAloud L_X0_readAloud Z) (hG : GoodG G) {Q : Int32 → Mem → Prop} (hr : RETi cX0_readAloud Q Z) (o0 : Nat) (o1 : Nat) (v2 : Int32) (ho0 : o0 < 5) (ho1 : o1 < 2)   (X : Int32 → Mem → Prop) (hX : ∀ (v3 : Int32) (M : Mem), X v3 M → Z 86 [(3, .int v3)] [] M) : ∀ (n : Nat) (v3 : Int32) (v4 : Int32) (M : Mem), wp_X0_readAloud_L51 o0 o1 v2 X Q n v3 v4 M → Z 51 [(0, .ref (gA G (3, o0, 0))), (1, .ref (gA G (1, o1, 0))), (2, .int v2), (3, .int v3), (4, .int v4)] [] M := by
  intro n
  induction n with
  | zero => intro v3 v4 M hw; exact hw.elim
  | succ n ih =>
    intro v3 v4 M hw
    unfold wp_X0_readAloud_L51 at hw
    refine h.iload (pc := 51) dX0_readAloud_51 4 rfl ?_
    refine h.aload_n (pc := 53) dX0_readAloud_53 rfl 1 rfl ?_
    refine h.getN (pc := 54) (f := 1) (o := o1) (i := 0) (ci := 3) (C := RX3) (T := TX3) (N := 9) (j := 5) (v := .int (M 1 o1 0 5)) (k_1 2 (by decide) ho1) rfl rfl (by decide) inX0_readAloud_RX3 (own0 := RX0) (host := "TableWright") rfl nw_22 rfl dX0_readAloud_54 ?_
    refine h.icmp_ge (pc := 57) 86 dX0_readAloud_57 (by decide) (fun c57 => ?_) (fun c57 => ?_)
    · replace hw := hw.1 c57
      refine h.sub (pc := 86) [3] (lv' := [(3, .int v3)]) rfl ?_
      exact hX v3 M hw
    · replace hw := hw.2 c57
      refine h.aload_n (pc := 60) dX0_readAloud_60 rfl 0 rfl ?_
      refine h.getf (pc := 61) (f := 3) (o := o0) (i := 0) (ci := 0) (C := RX0) (T := TX0) (N := 14) (j := 4) (v := .ref (gA G (20, o0, 0))) (k_1 5 (by decide) ho0) rfl rfl (by decide) inX0_readAloud_RX0 kX0_readAloud_18 rfl dX0_readAloud_61 ?_
      refine h.iload (pc := 64) dX0_readAloud_64 4 rfl ?_
      obtain ⟨hj66, hw⟩ := hw
      refine h.iald (pc := 66) (f := 20) (o := o0) (i := 0) (n := 30) (k_1 5 (by decide) ho0) (fun _ => rfl) hj66 dX0_readAloud_66 ?_
      refine h.iload_n (pc := 67) dX0_readAloud_67 rfl 2 rfl ?_
      refine h.icmp_ne (pc := 68) 80 dX0_readAloud_68 (by decide) (fun c68 => ?_) (fun c68 => ?_)
      · replace hw := hw.2 c68
        exact l_X0_readAloud_L80 h hG hr o0 o1 v2 ho0 ho1 v3 v4 ih hX M hw
      · replace hw := hw.1 c68
        refine h.iload_n (pc := 71) dX0_readAloud_71 rfl 3 rfl ?_
        refine h.aload_n (pc := 72) dX0_readAloud_72 rfl 1 rfl ?_
        refine h.iload (pc := 73) dX0_readAloud_73 4 rfl ?_
        refine h.cSi (pc := 75) [.ref (gA G (1, o1, 0)), .int v4] [.int v3] (m_X0_shownCells hG ho1 hw) gX0_readAloud_X0_shownCells rfl hd_X0_shownCells (by decide) rfl rfl (Nat.le_of_ble_eq_true rfl) dX0_readAloud_75 (fun r75 M75 hw => ?_)
        refine h.iadd (pc := 78) dX0_readAloud_78 ?_
        refine h.istore_n (pc := 79) [(3, .int (v3 + r75)), (0, .ref (gA G (3, o0, 0))), (1, .ref (gA G (1, o1, 0))), (2, .int v2), (4, .int v4)] dX0_readAloud_79 rfl (by decide) rfl ?_
        refine h.sub (pc := 80) [1, 2, 3, 0, 4] (lv' := [(0, .ref (gA G (3, o0, 0))), (1, .ref (gA G (1, o1, 0))), (2, .int v2), (3, .int (v3 + r75)), (4, .int v4)]) rfl ?_
        exact l_X0_readAloud_L80 h hG hr o0 o1 v2 ho0 ho1 (v3 + r75) v4 ih hX M75 hw
def wp_X0_readAloud_L48 (o0 : Nat) (o1 : Nat) (v2 : Int32)  (Q : Int32 → Mem → Prop) (v3 : Int32) (M : Mem) : Prop := ∃ n51, wp_X0_readAloud_L51 o0 o1 v2 (fun v3 M => Q v3 M) Q n51 v3 0 M
set_option maxHeartbeats 4000000 in
set_option maxRecDepth 100000 in
theorem l_X0_readAloud_L48 {l : Launch} {G : GG} {Z : ZT} (h : AX l G cX0_readAloud 5 RX0 wsX0_readAloud F_X0_readAloud L_X0_readAloud Z) (hG : GoodG G) {Q : Int32 → Mem → Prop} (hr : RETi cX0_readAloud Q Z) (o0 : Nat) (o1 : Nat) (v2 : Int32) (ho0 : o0 < 5) (ho1 : o1 < 2) (v3 : Int32)  (M : Mem) (hw : wp_X0_readAloud_L48 o0 o1 v2 Q v3 M) : Z 48 [(0, .ref (gA G (3, o0, 0))), (1, .ref (gA G (1, o1, 0))), (2, .int v2), (3, .int v3)] [] M := by
  unfold wp_X0_readAloud_L48 at hw
  refine h.iconst (pc := 48) (v := 0) dX0_readAloud_48 (by decide) ?_
  refine h.istore (pc := 49) [(4, .int 0), (0, .ref (gA G (3, o0, 0))), (1, .ref (gA G (1, o1, 0))), (2, .int v2), (3, .int v3)] dX0_readAloud_49 (by decide) rfl ?_
  refine h.sub (pc := 51) [1, 2, 3, 4, 0] (lv' := [(0, .ref (gA G (3, o0, 0))), (1, .ref (gA G (1, o1, 0))), (2, .int v2), (3, .int v3), (4, .int 0)]) rfl ?_
  obtain ⟨n51, hw⟩ := hw
  exact l_X0_readAloud_L51 h hG hr o0 o1 v2 ho0 ho1 _ (fun v3 M hw => by
      refine h.iload_n (pc := 86) dX0_readAloud_86 rfl 0 rfl ?_
      exact hr _ _ _ _ dX0_readAloud_87 hw) n51 v3 0 M hw
def wp_X0_readAloud (o0 : Nat) (o1 : Nat) (v2 : Int32) (M : Mem) (Q : Int32 → Mem → Prop) : Prop := (vp_in v2 60 ∧ ∃ n15, wp_X0_readAloud_L15 o0 o1 v2 (fun v3 M => wp_X0_readAloud_L48 o0 o1 v2 Q v3 M) Q n15 ((M 1 o1 0 0) + (M 24 o0 0 v2.toNatClampNeg)) 0 M)
set_option maxHeartbeats 4000000 in
set_option maxRecDepth 100000 in
theorem m_X0_readAloud {l : Launch} {G : GG} (hG : GoodG G) {o0 : Nat} {o1 : Nat} {v2 : Int32}  {M : Mem} {Q : Int32 → Mem → Prop} (ho0 : o0 < 5) (ho1 : o1 < 2) (hw : wp_X0_readAloud o0 o1 v2 M Q) : CTi l G yX0_readAloud wsX0_readAloud F_X0_readAloud L_X0_readAloud [.ref (gA G (3, o0, 0)), .ref (gA G (1, o1, 0)), .int v2] M Q := by
  refine CTi_mk hG (by decide +kernel) rfl (Nat.le_of_ble_eq_true rfl) (fun Z (h : AX l G cX0_readAloud 5 RX0 wsX0_readAloud F_X0_readAloud L_X0_readAloud Z) hr => ?_)
  show Z 0 [(0, .ref (gA G (3, o0, 0))), (1, .ref (gA G (1, o1, 0))), (2, .int v2)] [] M
  unfold wp_X0_readAloud at hw
  refine h.aload_n (pc := 0) dX0_readAloud_0 rfl 1 rfl ?_
  refine h.getN (pc := 1) (f := 1) (o := o1) (i := 0) (ci := 3) (C := RX3) (T := TX3) (N := 9) (j := 0) (v := .int (M 1 o1 0 0)) (k_1 2 (by decide) ho1) rfl rfl (by decide) inX0_readAloud_RX3 (own0 := RX0) (host := "TableWright") rfl nw_18 rfl dX0_readAloud_1 ?_
  refine h.aload_n (pc := 4) dX0_readAloud_4 rfl 0 rfl ?_
  refine h.getf (pc := 5) (f := 3) (o := o0) (i := 0) (ci := 0) (C := RX0) (T := TX0) (N := 14) (j := 9) (v := .ref (gA G (24, o0, 0))) (k_1 5 (by decide) ho0) rfl rfl (by decide) inX0_readAloud_RX0 kX0_readAloud_30 rfl dX0_readAloud_5 ?_
  refine h.iload_n (pc := 8) dX0_readAloud_8 rfl 2 rfl ?_
  obtain ⟨hj9, hw⟩ := hw
  refine h.iald (pc := 9) (f := 24) (o := o0) (i := 0) (n := 60) (k_1 5 (by decide) ho0) (fun _ => rfl) hj9 dX0_readAloud_9 ?_
  refine h.iadd (pc := 10) dX0_readAloud_10 ?_
  refine h.istore_n (pc := 11) [(3, .int ((M 1 o1 0 0) + (M 24 o0 0 v2.toNatClampNeg))), (0, .ref (gA G (3, o0, 0))), (1, .ref (gA G (1, o1, 0))), (2, .int v2)] dX0_readAloud_11 rfl (by decide) rfl ?_
  refine h.iconst (pc := 12) (v := 0) dX0_readAloud_12 (by decide) ?_
  refine h.istore (pc := 13) [(4, .int 0), (3, .int ((M 1 o1 0 0) + (M 24 o0 0 v2.toNatClampNeg))), (0, .ref (gA G (3, o0, 0))), (1, .ref (gA G (1, o1, 0))), (2, .int v2)] dX0_readAloud_13 (by decide) rfl ?_
  refine h.sub (pc := 15) [2, 3, 4, 1, 0] (lv' := [(0, .ref (gA G (3, o0, 0))), (1, .ref (gA G (1, o1, 0))), (2, .int v2), (3, .int ((M 1 o1 0 0) + (M 24 o0 0 v2.toNatClampNeg))), (4, .int 0)]) rfl ?_
  obtain ⟨n15, hw⟩ := hw
  exact l_X0_readAloud_L15 h hG hr o0 o1 v2 ho0 ho1 _ (fun v3 M hw => by
      exact l_X0_readAloud_L48 h hG hr o0 o1 v2 ho0 ho1 v3 M hw) n15 ((M 1 o1 0 0) + (M 24 o0 0 v2.toNatClampNeg)) 0 M hw
-- X0_heightOfCell
theorem inX0_heightOfCell_RX0 : ∀ w ∈ u_ws RX0 TX0 14, w ∈ wsX0_heightOfCell := by decide +kernel
theorem inX0_heightOfCell_RX1 : ∀ w ∈ u_ws RX1 TX1 8, w ∈ wsX0_heightOfCell := by decide +kernel
theorem inX0_heightOfCell_RX3 : ∀ w ∈ u_ws RX3 TX3 9, w ∈ wsX0_heightOfCell := by decide +kernel
theorem kX0_heightOfCell_9 : Cond.fieldLink RX0 9 (TX0 2).1 (TX0 2).2.1 (TX0 2).2.2.1 ∈ wsX0_heightOfCell := by decide +kernel
theorem kMX0_heightOfCell_1_max_104 : Cond.methodLink RX0 104 Lib.Math.max.name ∈ wsX0_heightOfCell := by decide +kernel
theorem kMX0_heightOfCell_2_max : Cond.static Lib.Math.max.name ∈ wsX0_heightOfCell := by decide +kernel
theorem kMX0_heightOfCell_3 : Cond.initialized "java/lang/Math" ∈ wsX0_heightOfCell := by decide +kernel
theorem kMX0_heightOfCell_4_max : Cond.code Lib.Math.max.name Lib.Math.max.code 2 (some .int) ∈ wsX0_heightOfCell := by decide +kernel
abbrev F_X0_heightOfCell : Nat := 1
abbrev L_X0_heightOfCell : Nat := 22
theorem hd_X0_heightOfCell : yX0_heightOfCell.cls = RX0 ∧ yX0_heightOfCell.cls ≠ "java/lang/invoke/MethodHandle" ∧ yX0_heightOfCell.cls ≠ "java/lang/invoke/VarHandle" ∧ (parseMethodDescriptor yX0_heightOfCell.desc).map (fun d => d.parameters.length) = some 3 := by decide +kernel
def wp_X0_heightOfCell_L60 (o0 : Nat) (o1 : Nat) (v2 : Int32) (v3 : Int32)  (Q : Int32 → Mem → Prop) (v4 : Int32) (M : Mem) : Prop := ((0 < v4 → (vp_in v2 30 ∧ (vp_in v3 6 ∧ (¬ v4 = 0 ∧ Q (if 1 < ((((M 13 o1 (v2.toNatClampNeg) v3.toNatClampNeg) + v4) - 1) / v4) then ((((M 13 o1 (v2.toNatClampNeg) v3.toNatClampNeg) + v4) - 1) / v4) else 1) M)))) ∧ (¬ (0 < v4) → Q 1 M))
set_option maxHeartbeats 4000000 in
set_option maxRecDepth 100000 in
theorem l_X0_heightOfCell_L60 {l : Launch} {G : GG} {Z : ZT} (h : AX l G cX0_heightOfCell 6 RX0 wsX0_heightOfCell F_X0_heightOfCell L_X0_heightOfCell Z) (hG : GoodG G) {Q : Int32 → Mem → Prop} (hr : RETi cX0_heightOfCell Q Z) (o0 : Nat) (o1 : Nat) (v2 : Int32) (v3 : Int32) (ho0 : o0 < 5) (ho1 : o1 < 2) (v4 : Int32)  (M : Mem) (hw : wp_X0_heightOfCell_L60 o0 o1 v2 v3 Q v4 M) : Z 60 [(1, .ref (gA G (1, o1, 0))), (2, .int v2), (3, .int v3), (4, .int v4)] [] M := by
  unfold wp_X0_heightOfCell_L60 at hw
  refine h.iload (pc := 60) dX0_heightOfCell_60 3 rfl ?_
  refine h.if_gt (pc := 62) 67 dX0_heightOfCell_62 (by decide) (fun c62 => ?_) (fun c62 => ?_)
  · replace hw := hw.1 c62
    refine h.aload_n (pc := 67) dX0_heightOfCell_67 rfl 0 rfl ?_
    refine h.getN (pc := 68) (f := 1) (o := o1) (i := 0) (ci := 3) (C := RX3) (T := TX3) (N := 9) (j := 6) (v := .ref (gA G (11, o1, 0))) (k_1 2 (by decide) ho1) rfl rfl (by decide) inX0_heightOfCell_RX3 (own0 := RX0) (host := "TableWright") rfl nw_25 rfl dX0_heightOfCell_68 ?_
    refine h.iload_n (pc := 71) dX0_heightOfCell_71 rfl 1 rfl ?_
    obtain ⟨hj72, hw⟩ := hw
    refine h.aald (pc := 72) (o := o1) (ix := v2) ho1 hj72 dX0_heightOfCell_72 ?_
    refine h.getN (pc := 73) (f := 4) (o := o1) (i := v2.toNatClampNeg) (ci := 1) (C := RX1) (T := TX1) (N := 8) (j := 1) (v := .ref (gA G (13, o1, v2.toNatClampNeg))) (k_2 (by decide) ho1 (vin_lt hj72)) rfl rfl (by decide) inX0_heightOfCell_RX1 (own0 := RX0) (host := "TableWright") rfl nw_3 rfl dX0_heightOfCell_73 ?_
    refine h.iload_n (pc := 76) dX0_heightOfCell_76 rfl 2 rfl ?_
    obtain ⟨hj77, hw⟩ := hw
    refine h.iald (pc := 77) (f := 13) (o := o1) (i := v2.toNatClampNeg) (n := 6) (k_2 (by decide) ho1 (vin_lt hj72)) (fun _ => rfl) hj77 dX0_heightOfCell_77 ?_
    refine h.istore (pc := 78) [(5, .int (M 13 o1 (v2.toNatClampNeg) v3.toNatClampNeg)), (1, .ref (gA G (1, o1, 0))), (2, .int v2), (3, .int v3), (4, .int v4)] dX0_heightOfCell_78 (by decide) rfl ?_
    refine h.iconst (pc := 80) (v := 1) dX0_heightOfCell_80 (by decide) ?_
    refine h.iload (pc := 81) dX0_heightOfCell_81 0 rfl ?_
    refine h.iload (pc := 83) dX0_heightOfCell_83 4 rfl ?_
    refine h.iadd (pc := 85) dX0_heightOfCell_85 ?_
    refine h.iconst (pc := 86) (v := 1) dX0_heightOfCell_86 (by decide) ?_
    refine h.isub (pc := 87) dX0_heightOfCell_87 ?_
    refine h.iload (pc := 88) dX0_heightOfCell_88 4 rfl ?_
    obtain ⟨hz90, hw⟩ := hw
    refine h.idiv (pc := 90) dX0_heightOfCell_90 hz90 ?_
    refine h.mmax (pc := 91) (st := []) kMX0_heightOfCell_1_max_104 kMX0_heightOfCell_2_max kMX0_heightOfCell_3 kMX0_heightOfCell_4_max (by decide) (Nat.le_of_ble_eq_true rfl) dX0_heightOfCell_91 ?_
    exact hr _ _ _ _ dX0_heightOfCell_94 hw
  · replace hw := hw.2 c62
    refine h.iconst (pc := 65) (v := 1) dX0_heightOfCell_65 (by decide) ?_
    exact hr _ _ _ _ dX0_heightOfCell_66 hw
def wp_X0_heightOfCell (o0 : Nat) (o1 : Nat) (v2 : Int32) (v3 : Int32) (M : Mem) (Q : Int32 → Mem → Prop) : Prop := (vp_in v2 30 ∧ (vp_in v3 6 ∧ (((M 17 o1 (v2.toNatClampNeg) v3.toNatClampNeg) = 0 → (vp_in v3 6 ∧ (((M 5 o1 0 v3.toNatClampNeg) = 1 → (vp_in v3 6 ∧ (wp_X3_isSpanning o1 v2 v3 M (fun r39 M39 => ((r39 = 0 → wp_X0_heightOfCell_L60 o0 o1 v2 v3 Q (M 18 o0 0 v3.toNatClampNeg) M39) ∧ (¬ (r39 = 0) → (vp_in (v3 + 1) 6 ∧ wp_X0_heightOfCell_L60 o0 o1 v2 v3 Q ((M 18 o0 0 v3.toNatClampNeg) + (1 + (M39 18 o0 0 (v3 + 1).toNatClampNeg))) M39))))))) ∧ (¬ ((M 5 o1 0 v3.toNatClampNeg) = 1) → Q 1 M)))) ∧ (¬ ((M 17 o1 (v2.toNatClampNeg) v3.toNatClampNeg) = 0) → Q 0 M))))
set_option maxHeartbeats 4000000 in
set_option maxRecDepth 100000 in
theorem m_X0_heightOfCell {l : Launch} {G : GG} (hG : GoodG G) {o0 : Nat} {o1 : Nat} {v2 : Int32} {v3 : Int32}  {M : Mem} {Q : Int32 → Mem → Prop} (ho0 : o0 < 5) (ho1 : o1 < 2) (hw : wp_X0_heightOfCell o0 o1 v2 v3 M Q) : CTi l G yX0_heightOfCell wsX0_heightOfCell F_X0_heightOfCell L_X0_heightOfCell [.ref (gA G (3, o0, 0)), .ref (gA G (1, o1, 0)), .int v2, .int v3] M Q := by
  refine CTi_mk hG (by decide +kernel) rfl (Nat.le_of_ble_eq_true rfl) (fun Z (h : AX l G cX0_heightOfCell 6 RX0 wsX0_heightOfCell F_X0_heightOfCell L_X0_heightOfCell Z) hr => ?_)
  show Z 0 [(0, .ref (gA G (3, o0, 0))), (1, .ref (gA G (1, o1, 0))), (2, .int v2), (3, .int v3)] [] M
  unfold wp_X0_heightOfCell at hw
  refine h.aload_n (pc := 0) dX0_heightOfCell_0 rfl 1 rfl ?_
  refine h.getN (pc := 1) (f := 1) (o := o1) (i := 0) (ci := 3) (C := RX3) (T := TX3) (N := 9) (j := 6) (v := .ref (gA G (11, o1, 0))) (k_1 2 (by decide) ho1) rfl rfl (by decide) inX0_heightOfCell_RX3 (own0 := RX0) (host := "TableWright") rfl nw_25 rfl dX0_heightOfCell_1 ?_
  refine h.iload_n (pc := 4) dX0_heightOfCell_4 rfl 2 rfl ?_
  obtain ⟨hj5, hw⟩ := hw
  refine h.aald (pc := 5) (o := o1) (ix := v2) ho1 hj5 dX0_heightOfCell_5 ?_
  refine h.getN (pc := 6) (f := 4) (o := o1) (i := v2.toNatClampNeg) (ci := 1) (C := RX1) (T := TX1) (N := 8) (j := 7) (v := .ref (gA G (17, o1, v2.toNatClampNeg))) (k_2 (by decide) ho1 (vin_lt hj5)) rfl rfl (by decide) inX0_heightOfCell_RX1 (own0 := RX0) (host := "TableWright") rfl nw_17 rfl dX0_heightOfCell_6 ?_
  refine h.iload_n (pc := 9) dX0_heightOfCell_9 rfl 3 rfl ?_
  obtain ⟨hj10, hw⟩ := hw
  refine h.zald (pc := 10) (f := 17) (o := o1) (i := v2.toNatClampNeg) (n := 6) (k_2 (by decide) ho1 (vin_lt hj5)) (fun _ => rfl) hj10 dX0_heightOfCell_10 ?_
  refine h.if_eq (pc := 11) 16 dX0_heightOfCell_11 (by decide) (fun c11 => ?_) (fun c11 => ?_)
  · replace hw := hw.1 c11
    refine h.aload_n (pc := 16) dX0_heightOfCell_16 rfl 1 rfl ?_
    refine h.getN (pc := 17) (f := 1) (o := o1) (i := 0) (ci := 3) (C := RX3) (T := TX3) (N := 9) (j := 1) (v := .ref (gA G (5, o1, 0))) (k_1 2 (by decide) ho1) rfl rfl (by decide) inX0_heightOfCell_RX3 (own0 := RX0) (host := "TableWright") rfl nw_20 rfl dX0_heightOfCell_17 ?_
    refine h.iload_n (pc := 20) dX0_heightOfCell_20 rfl 3 rfl ?_
    obtain ⟨hj21, hw⟩ := hw
    refine h.iald (pc := 21) (f := 5) (o := o1) (i := 0) (n := 6) (k_1 2 (by decide) ho1) (fun _ => rfl) hj21 dX0_heightOfCell_21 ?_
    refine h.iconst (pc := 22) (v := 1) dX0_heightOfCell_22 (by decide) ?_
    refine h.icmp_eq (pc := 23) 28 dX0_heightOfCell_23 (by decide) (fun c23 => ?_) (fun c23 => ?_)
    · replace hw := hw.1 c23
      refine h.aload_n (pc := 28) dX0_heightOfCell_28 rfl 0 rfl ?_
      refine h.getf (pc := 29) (f := 3) (o := o0) (i := 0) (ci := 0) (C := RX0) (T := TX0) (N := 14) (j := 2) (v := .ref (gA G (18, o0, 0))) (k_1 5 (by decide) ho0) rfl rfl (by decide) inX0_heightOfCell_RX0 kX0_heightOfCell_9 rfl dX0_heightOfCell_29 ?_
      refine h.iload_n (pc := 32) dX0_heightOfCell_32 rfl 3 rfl ?_
      obtain ⟨hj33, hw⟩ := hw
      refine h.iald (pc := 33) (f := 18) (o := o0) (i := 0) (n := 6) (k_1 5 (by decide) ho0) (fun _ => rfl) hj33 dX0_heightOfCell_33 ?_
      refine h.istore (pc := 34) [(4, .int (M 18 o0 0 v3.toNatClampNeg)), (0, .ref (gA G (3, o0, 0))), (1, .ref (gA G (1, o1, 0))), (2, .int v2), (3, .int v3)] dX0_heightOfCell_34 (by decide) rfl ?_
      refine h.aload_n (pc := 36) dX0_heightOfCell_36 rfl 2 rfl ?_
      refine h.iload_n (pc := 37) dX0_heightOfCell_37 rfl 3 rfl ?_
      refine h.iload_n (pc := 38) dX0_heightOfCell_38 rfl 4 rfl ?_
      refine h.cVi (pc := 39) [.int v2, .int v3] (1, o1, 0) [] (m_X3_isSpanning hG ho1 hw) gX0_heightOfCell_X3_isSpanning rfl hd_X3_isSpanning (by decide) (k_1 2 (by decide) ho1) rfl rfl rfl rfl rfl (Nat.le_of_ble_eq_true rfl) dX0_heightOfCell_39 (fun r39 M39 hw => ?_)
      refine h.if_eq (pc := 42) 60 dX0_heightOfCell_42 (by decide) (fun c42 => ?_) (fun c42 => ?_)
      · replace hw := hw.1 c42
        refine h.sub (pc := 60) [2, 3, 4, 0] (lv' := [(1, .ref (gA G (1, o1, 0))), (2, .int v2), (3, .int v3), (4, .int (M 18 o0 0 v3.toNatClampNeg))]) rfl ?_
        exact l_X0_heightOfCell_L60 h hG hr o0 o1 v2 v3 ho0 ho1 (M 18 o0 0 v3.toNatClampNeg) M39 hw
      · replace hw := hw.2 c42
        refine h.iload (pc := 45) dX0_heightOfCell_45 0 rfl ?_
        refine h.iconst (pc := 47) (v := 1) dX0_heightOfCell_47 (by decide) ?_
        refine h.aload_n (pc := 48) dX0_heightOfCell_48 rfl 1 rfl ?_
        refine h.getf (pc := 49) (f := 3) (o := o0) (i := 0) (ci := 0) (C := RX0) (T := TX0) (N := 14) (j := 2) (v := .ref (gA G (18, o0, 0))) (k_1 5 (by decide) ho0) rfl rfl (by decide) inX0_heightOfCell_RX0 kX0_heightOfCell_9 rfl dX0_heightOfCell_49 ?_
        refine h.iload_n (pc := 52) dX0_heightOfCell_52 rfl 4 rfl ?_
        refine h.iconst (pc := 53) (v := 1) dX0_heightOfCell_53 (by decide) ?_
        refine h.iadd (pc := 54) dX0_heightOfCell_54 ?_
        obtain ⟨hj55, hw⟩ := hw
        refine h.iald (pc := 55) (f := 18) (o := o0) (i := 0) (n := 6) (k_1 5 (by decide) ho0) (fun _ => rfl) hj55 dX0_heightOfCell_55 ?_
        refine h.iadd (pc := 56) dX0_heightOfCell_56 ?_
        refine h.iadd (pc := 57) dX0_heightOfCell_57 ?_
        refine h.istore (pc := 58) [(4, .int ((M 18 o0 0 v3.toNatClampNeg) + (1 + (M39 18 o0 0 (v3 + 1).toNatClampNeg)))), (0, .ref (gA G (3, o0, 0))), (1, .ref (gA G (1, o1, 0))), (2, .int v2), (3, .int v3)] dX0_heightOfCell_58 (by decide) rfl ?_
        refine h.sub (pc := 60) [2, 3, 4, 0] (lv' := [(1, .ref (gA G (1, o1, 0))), (2, .int v2), (3, .int v3), (4, .int ((M 18 o0 0 v3.toNatClampNeg) + (1 + (M39 18 o0 0 (v3 + 1).toNatClampNeg))))]) rfl ?_
        exact l_X0_heightOfCell_L60 h hG hr o0 o1 v2 v3 ho0 ho1 ((M 18 o0 0 v3.toNatClampNeg) + (1 + (M39 18 o0 0 (v3 + 1).toNatClampNeg))) M39 hw
    · replace hw := hw.2 c23
      refine h.iconst (pc := 26) (v := 1) dX0_heightOfCell_26 (by decide) ?_
      exact hr _ _ _ _ dX0_heightOfCell_27 hw
  · replace hw := hw.2 c11
    refine h.iconst (pc := 14) (v := 0) dX0_heightOfCell_14 (by decide) ?_
    exact hr _ _ _ _ dX0_heightOfCell_15 hw
-- X0_mostSpareColumn
theorem inX0_mostSpareColumn_RX0 : ∀ w ∈ u_ws RX0 TX0 14, w ∈ wsX0_mostSpareColumn := by decide +kernel
theorem inX0_mostSpareColumn_RX3 : ∀ w ∈ u_ws RX3 TX3 9, w ∈ wsX0_mostSpareColumn := by decide +kernel
theorem kX0_mostSpareColumn_9 : Cond.fieldLink RX0 9 (TX0 2).1 (TX0 2).2.1 (TX0 2).2.2.1 ∈ wsX0_mostSpareColumn := by decide +kernel
abbrev F_X0_mostSpareColumn : Nat := 0
abbrev L_X0_mostSpareColumn : Nat := 0
theorem hd_X0_mostSpareColumn : yX0_mostSpareColumn.cls = RX0 ∧ yX0_mostSpareColumn.cls ≠ "java/lang/invoke/MethodHandle" ∧ yX0_mostSpareColumn.cls ≠ "java/lang/invoke/VarHandle" ∧ (parseMethodDescriptor yX0_mostSpareColumn.desc).map (fun d => d.parameters.length) = some 1 := by decide +kernel
def wp_X0_mostSpareColumn_L45 (o0 : Nat) (o1 : Nat) (B : Int32 → Int32 → Int32 → Mem → Prop) (X : Int32 → Mem → Prop) (Q : Int32 → Mem → Prop) (v2 : Int32) (v3 : Int32) (v4 : Int32) (M : Mem) : Prop := B v2 v3 (v4 + 1) M
set_option maxHeartbeats 4000000 in
set_option maxRecDepth 100000 in
theorem l_X0_mostSpareColumn_L45 {l : Launch} {G : GG} {Z : ZT} (h : AX l G cX0_mostSpareColumn 6 RX0 wsX0_mostSpareColumn F_X0_mostSpareColumn L_X0_mostSpareColumn Z) (hG : GoodG G) {Q : Int32 → Mem → Prop} (hr : RETi cX0_mostSpareColumn Q Z) (o0 : Nat) (o1 : Nat) (ho0 : o0 < 5) (ho1 : o1 < 2) (v2 : Int32) (v3 : Int32) (v4 : Int32)  {B : Int32 → Int32 → Int32 → Mem → Prop} (hB : ∀ (v2 : Int32) (v3 : Int32) (v4 : Int32) (M : Mem), B v2 v3 v4 M → Z 7 [(0, .ref (gA G (3, o0, 0))), (1, .ref (gA G (1, o1, 0))), (2, .int v2), (3, .int v3), (4, .int v4)] [] M) {X : Int32 → Mem → Prop} (hX : ∀ (v3 : Int32) (M : Mem), X v3 M → Z 51 [(3, .int v3)] [] M) (M : Mem) (hw : wp_X0_mostSpareColumn_L45 o0 o1 B X Q v2 v3 v4 M) : Z 45 [(0, .ref (gA G (3, o0, 0))), (1, .ref (gA G (1, o1, 0))), (2, .int v2), (3, .int v3), (4, .int v4)] [] M := by
  unfold wp_X0_mostSpareColumn_L45 at hw
  refine h.iinc (pc := 45) [(4, .int (v4 + 1)), (0, .ref (gA G (3, o0, 0))), (1, .ref (gA G (1, o1, 0))), (2, .int v2), (3, .int v3)] dX0_mostSpareColumn_45 4 rfl (inc_ (by decide)) (by decide) rfl ?_
  refine h.goto (pc := 48) 7 dX0_mostSpareColumn_48 (by decide) ?_
  refine h.sub (pc := 7) [1, 2, 3, 4, 0] (lv' := [(0, .ref (gA G (3, o0, 0))), (1, .ref (gA G (1, o1, 0))), (2, .int v2), (3, .int v3), (4, .int (v4 + 1))]) rfl ?_
  exact hB v2 v3 (v4 + 1) M hw
def wp_X0_mostSpareColumn_L7 (o0 : Nat) (o1 : Nat)  (X : Int32 → Mem → Prop) (Q : Int32 → Mem → Prop) : Nat → Int32 → Int32 → Int32 → Mem → Prop
  | 0, _, _, _, _ => False
  | n + 1, v2, v3, v4, M => (((M 1 o1 0 0) ≤ v4 → X v3 M) ∧ (¬ ((M 1 o1 0 0) ≤ v4) → (vp_in v4 6 ∧ (vp_in v4 6 ∧ ((((M 18 o0 0 v4.toNatClampNeg) - (M 9 o1 0 v4.toNatClampNeg)) ≤ v2 → wp_X0_mostSpareColumn_L45 o0 o1 (wp_X0_mostSpareColumn_L7 o0 o1 X Q n) X Q v2 v3 v4 M) ∧ (¬ (((M 18 o0 0 v4.toNatClampNeg) - (M 9 o1 0 v4.toNatClampNeg)) ≤ v2) → wp_X0_mostSpareColumn_L45 o0 o1 (wp_X0_mostSpareColumn_L7 o0 o1 X Q n) X Q ((M 18 o0 0 v4.toNatClampNeg) - (M 9 o1 0 v4.toNatClampNeg)) v4 v4 M))))))
set_option maxHeartbeats 4000000 in
set_option maxRecDepth 100000 in
theorem l_X0_mostSpareColumn_L7 {l : Launch} {G : GG} {Z : ZT} (h : AX l G cX0_mostSpareColumn 6 RX0 wsX0_mostSpareColumn F_X0_mostSpareColumn L_X0_mostSpareColumn Z) (hG : GoodG G) {Q : Int32 → Mem → Prop} (hr : RETi cX0_mostSpareColumn Q Z) (o0 : Nat) (o1 : Nat) (ho0 : o0 < 5) (ho1 : o1 < 2)   (X : Int32 → Mem → Prop) (hX : ∀ (v3 : Int32) (M : Mem), X v3 M → Z 51 [(3, .int v3)] [] M) : ∀ (n : Nat) (v2 : Int32) (v3 : Int32) (v4 : Int32) (M : Mem), wp_X0_mostSpareColumn_L7 o0 o1 X Q n v2 v3 v4 M → Z 7 [(0, .ref (gA G (3, o0, 0))), (1, .ref (gA G (1, o1, 0))), (2, .int v2), (3, .int v3), (4, .int v4)] [] M := by
  intro n
  induction n with
  | zero => intro v2 v3 v4 M hw; exact hw.elim
  | succ n ih =>
    intro v2 v3 v4 M hw
    unfold wp_X0_mostSpareColumn_L7 at hw
    refine h.iload (pc := 7) dX0_mostSpareColumn_7 4 rfl ?_
    refine h.aload_n (pc := 9) dX0_mostSpareColumn_9 rfl 1 rfl ?_
    refine h.getN (pc := 10) (f := 1) (o := o1) (i := 0) (ci := 3) (C := RX3) (T := TX3) (N := 9) (j := 0) (v := .int (M 1 o1 0 0)) (k_1 2 (by decide) ho1) rfl rfl (by decide) inX0_mostSpareColumn_RX3 (own0 := RX0) (host := "TableWright") rfl nw_18 rfl dX0_mostSpareColumn_10 ?_
    refine h.icmp_ge (pc := 13) 51 dX0_mostSpareColumn_13 (by decide) (fun c13 => ?_) (fun c13 => ?_)
    · replace hw := hw.1 c13
      refine h.sub (pc := 51) [3] (lv' := [(3, .int v3)]) rfl ?_
      exact hX v3 M hw
    · replace hw := hw.2 c13
      refine h.aload_n (pc := 16) dX0_mostSpareColumn_16 rfl 0 rfl ?_
      refine h.getf (pc := 17) (f := 3) (o := o0) (i := 0) (ci := 0) (C := RX0) (T := TX0) (N := 14) (j := 2) (v := .ref (gA G (18, o0, 0))) (k_1 5 (by decide) ho0) rfl rfl (by decide) inX0_mostSpareColumn_RX0 kX0_mostSpareColumn_9 rfl dX0_mostSpareColumn_17 ?_
      refine h.iload (pc := 20) dX0_mostSpareColumn_20 4 rfl ?_
      obtain ⟨hj22, hw⟩ := hw
      refine h.iald (pc := 22) (f := 18) (o := o0) (i := 0) (n := 6) (k_1 5 (by decide) ho0) (fun _ => rfl) hj22 dX0_mostSpareColumn_22 ?_
      refine h.aload_n (pc := 23) dX0_mostSpareColumn_23 rfl 1 rfl ?_
      refine h.getN (pc := 24) (f := 1) (o := o1) (i := 0) (ci := 3) (C := RX3) (T := TX3) (N := 9) (j := 7) (v := .ref (gA G (9, o1, 0))) (k_1 2 (by decide) ho1) rfl rfl (by decide) inX0_mostSpareColumn_RX3 (own0 := RX0) (host := "TableWright") rfl nw_26 rfl dX0_mostSpareColumn_24 ?_
      refine h.iload (pc := 27) dX0_mostSpareColumn_27 4 rfl ?_
      obtain ⟨hj29, hw⟩ := hw
      refine h.iald (pc := 29) (f := 9) (o := o1) (i := 0) (n := 6) (k_1 2 (by decide) ho1) (fun _ => rfl) hj29 dX0_mostSpareColumn_29 ?_
      refine h.isub (pc := 30) dX0_mostSpareColumn_30 ?_
      refine h.istore (pc := 31) [(5, .int ((M 18 o0 0 v4.toNatClampNeg) - (M 9 o1 0 v4.toNatClampNeg))), (0, .ref (gA G (3, o0, 0))), (1, .ref (gA G (1, o1, 0))), (2, .int v2), (3, .int v3), (4, .int v4)] dX0_mostSpareColumn_31 (by decide) rfl ?_
      refine h.iload (pc := 33) dX0_mostSpareColumn_33 0 rfl ?_
      refine h.iload_n (pc := 35) dX0_mostSpareColumn_35 rfl 3 rfl ?_
      refine h.icmp_le (pc := 36) 45 dX0_mostSpareColumn_36 (by decide) (fun c36 => ?_) (fun c36 => ?_)
      · replace hw := hw.1 c36
        refine h.sub (pc := 45) [1, 2, 3, 4, 5] (lv' := [(0, .ref (gA G (3, o0, 0))), (1, .ref (gA G (1, o1, 0))), (2, .int v2), (3, .int v3), (4, .int v4)]) rfl ?_
        exact l_X0_mostSpareColumn_L45 h hG hr o0 o1 ho0 ho1 v2 v3 v4 ih hX M hw
      · replace hw := hw.2 c36
        refine h.iload (pc := 39) dX0_mostSpareColumn_39 0 rfl ?_
        refine h.istore_n (pc := 41) [(2, .int ((M 18 o0 0 v4.toNatClampNeg) - (M 9 o1 0 v4.toNatClampNeg))), (5, .int ((M 18 o0 0 v4.toNatClampNeg) - (M 9 o1 0 v4.toNatClampNeg))), (0, .ref (gA G (3, o0, 0))), (1, .ref (gA G (1, o1, 0))), (3, .int v3), (4, .int v4)] dX0_mostSpareColumn_41 rfl (by decide) rfl ?_
        refine h.iload (pc := 42) dX0_mostSpareColumn_42 5 rfl ?_
        refine h.istore_n (pc := 44) [(3, .int v4), (2, .int ((M 18 o0 0 v4.toNatClampNeg) - (M 9 o1 0 v4.toNatClampNeg))), (5, .int ((M 18 o0 0 v4.toNatClampNeg) - (M 9 o1 0 v4.toNatClampNeg))), (0, .ref (gA G (3, o0, 0))), (1, .ref (gA G (1, o1, 0))), (4, .int v4)] dX0_mostSpareColumn_44 rfl (by decide) rfl ?_
        refine h.sub (pc := 45) [3, 4, 1, 0, 5] (lv' := [(0, .ref (gA G (3, o0, 0))), (1, .ref (gA G (1, o1, 0))), (2, .int ((M 18 o0 0 v4.toNatClampNeg) - (M 9 o1 0 v4.toNatClampNeg))), (3, .int v4), (4, .int v4)]) rfl ?_
        exact l_X0_mostSpareColumn_L45 h hG hr o0 o1 ho0 ho1 ((M 18 o0 0 v4.toNatClampNeg) - (M 9 o1 0 v4.toNatClampNeg)) v4 v4 ih hX M hw
def wp_X0_mostSpareColumn (o0 : Nat) (o1 : Nat) (M : Mem) (Q : Int32 → Mem → Prop) : Prop := ∃ n7, wp_X0_mostSpareColumn_L7 o0 o1 (fun v3 M => Q v3 M) Q n7 0 (-1) 0 M
set_option maxHeartbeats 4000000 in
set_option maxRecDepth 100000 in
theorem m_X0_mostSpareColumn {l : Launch} {G : GG} (hG : GoodG G) {o0 : Nat} {o1 : Nat}  {M : Mem} {Q : Int32 → Mem → Prop} (ho0 : o0 < 5) (ho1 : o1 < 2) (hw : wp_X0_mostSpareColumn o0 o1 M Q) : CTi l G yX0_mostSpareColumn wsX0_mostSpareColumn F_X0_mostSpareColumn L_X0_mostSpareColumn [.ref (gA G (3, o0, 0)), .ref (gA G (1, o1, 0))] M Q := by
  refine CTi_mk hG (by decide +kernel) rfl (Nat.le_of_ble_eq_true rfl) (fun Z (h : AX l G cX0_mostSpareColumn 6 RX0 wsX0_mostSpareColumn F_X0_mostSpareColumn L_X0_mostSpareColumn Z) hr => ?_)
  show Z 0 [(0, .ref (gA G (3, o0, 0))), (1, .ref (gA G (1, o1, 0)))] [] M
  unfold wp_X0_mostSpareColumn at hw
  refine h.iconst (pc := 0) (v := 0) dX0_mostSpareColumn_0 (by decide) ?_
  refine h.istore_n (pc := 1) [(2, .int 0), (0, .ref (gA G (3, o0, 0))), (1, .ref (gA G (1, o1, 0)))] dX0_mostSpareColumn_1 rfl (by decide) rfl ?_
  refine h.iconst (pc := 2) (v := (-1)) dX0_mostSpareColumn_2 (by decide) ?_
  refine h.istore_n (pc := 3) [(3, .int (-1)), (2, .int 0), (0, .ref (gA G (3, o0, 0))), (1, .ref (gA G (1, o1, 0)))] dX0_mostSpareColumn_3 rfl (by decide) rfl ?_
  refine h.iconst (pc := 4) (v := 0) dX0_mostSpareColumn_4 (by decide) ?_
  refine h.istore (pc := 5) [(4, .int 0), (3, .int (-1)), (2, .int 0), (0, .ref (gA G (3, o0, 0))), (1, .ref (gA G (1, o1, 0)))] dX0_mostSpareColumn_5 (by decide) rfl ?_
  refine h.sub (pc := 7) [3, 4, 2, 1, 0] (lv' := [(0, .ref (gA G (3, o0, 0))), (1, .ref (gA G (1, o1, 0))), (2, .int 0), (3, .int (-1)), (4, .int 0)]) rfl ?_
  obtain ⟨n7, hw⟩ := hw
  exact l_X0_mostSpareColumn_L7 h hG hr o0 o1 ho0 ho1 _ (fun v3 M hw => by
      refine h.iload_n (pc := 51) dX0_mostSpareColumn_51 rfl 0 rfl ?_
      exact hr _ _ _ _ dX0_mostSpareColumn_52 hw) n7 0 (-1) 0 M hw
-- X0_isWidthFit
theorem inX0_isWidthFit_RX0 : ∀ w ∈ u_ws RX0 TX0 14, w ∈ wsX0_isWidthFit := by decide +kernel
theorem inX0_isWidthFit_RX3 : ∀ w ∈ u_ws RX3 TX3 9, w ∈ wsX0_isWidthFit := by decide +kernel
theorem kX0_isWidthFit_9 : Cond.fieldLink RX0 9 (TX0 2).1 (TX0 2).2.1 (TX0 2).2.2.1 ∈ wsX0_isWidthFit := by decide +kernel
abbrev F_X0_isWidthFit : Nat := 1
abbrev L_X0_isWidthFit : Nat := 25
theorem hd_X0_isWidthFit : yX0_isWidthFit.cls = RX0 ∧ yX0_isWidthFit.cls ≠ "java/lang/invoke/MethodHandle" ∧ yX0_isWidthFit.cls ≠ "java/lang/invoke/VarHandle" ∧ (parseMethodDescriptor yX0_isWidthFit.desc).map (fun d => d.parameters.length) = some 2 := by decide +kernel
def wp_X0_isWidthFit_L18 (o0 : Nat) (o1 : Nat) (v2 : Int32)  (X : Mem → Prop) (Q : Int32 → Mem → Prop) : Nat → Int32 → Mem → Prop
  | 0, _, _ => False
  | n + 1, v3, M => (((M 1 o1 0 0) ≤ v3 → X M) ∧ (¬ ((M 1 o1 0 0) ≤ v3) → (vp_in v3 6 ∧ (vp_in v3 6 ∧ (∀ M37 : Mem, M37 = sM M 18 o0 0 v3.toNatClampNeg (M 10 o1 0 v3.toNatClampNeg) → (wp_X0_isWidthFit_L18 o0 o1 v2 X Q n) (v3 + 1) M37)))))
set_option maxHeartbeats 4000000 in
set_option maxRecDepth 100000 in
theorem l_X0_isWidthFit_L18 {l : Launch} {G : GG} {Z : ZT} (h : AX l G cX0_isWidthFit 5 RX0 wsX0_isWidthFit F_X0_isWidthFit L_X0_isWidthFit Z) (hG : GoodG G) {Q : Int32 → Mem → Prop} (hr : RETz cX0_isWidthFit Q Z) (o0 : Nat) (o1 : Nat) (v2 : Int32) (ho0 : o0 < 5) (ho1 : o1 < 2)   (X : Mem → Prop) (hX : ∀  (M : Mem), X  M → Z 44 [(0, .ref (gA G (3, o0, 0))), (1, .ref (gA G (1, o1, 0))), (2, .int v2)] [] M) : ∀ (n : Nat) (v3 : Int32) (M : Mem), wp_X0_isWidthFit_L18 o0 o1 v2 X Q n v3 M → Z 18 [(0, .ref (gA G (3, o0, 0))), (1, .ref (gA G (1, o1, 0))), (2, .int v2), (3, .int v3)] [] M := by
  intro n
  induction n with
  | zero => intro v3 M hw; exact hw.elim
  | succ n ih =>
    intro v3 M hw
    unfold wp_X0_isWidthFit_L18 at hw
    refine h.iload_n (pc := 18) dX0_isWidthFit_18 rfl 3 rfl ?_
    refine h.aload_n (pc := 19) dX0_isWidthFit_19 rfl 1 rfl ?_
    refine h.getN (pc := 20) (f := 1) (o := o1) (i := 0) (ci := 3) (C := RX3) (T := TX3) (N := 9) (j := 0) (v := .int (M 1 o1 0 0)) (k_1 2 (by decide) ho1) rfl rfl (by decide) inX0_isWidthFit_RX3 (own0 := RX0) (host := "TableWright") rfl nw_18 rfl dX0_isWidthFit_20 ?_
    refine h.icmp_ge (pc := 23) 44 dX0_isWidthFit_23 (by decide) (fun c23 => ?_) (fun c23 => ?_)
    · replace hw := hw.1 c23
      refine h.sub (pc := 44) [0, 1, 2] (lv' := [(0, .ref (gA G (3, o0, 0))), (1, .ref (gA G (1, o1, 0))), (2, .int v2)]) rfl ?_
      exact hX M hw
    · replace hw := hw.2 c23
      refine h.aload_n (pc := 26) dX0_isWidthFit_26 rfl 0 rfl ?_
      refine h.getf (pc := 27) (f := 3) (o := o0) (i := 0) (ci := 0) (C := RX0) (T := TX0) (N := 14) (j := 2) (v := .ref (gA G (18, o0, 0))) (k_1 5 (by decide) ho0) rfl rfl (by decide) inX0_isWidthFit_RX0 kX0_isWidthFit_9 rfl dX0_isWidthFit_27 ?_
      refine h.iload_n (pc := 30) dX0_isWidthFit_30 rfl 3 rfl ?_
      refine h.aload_n (pc := 31) dX0_isWidthFit_31 rfl 1 rfl ?_
      refine h.getN (pc := 32) (f := 1) (o := o1) (i := 0) (ci := 3) (C := RX3) (T := TX3) (N := 9) (j := 8) (v := .ref (gA G (10, o1, 0))) (k_1 2 (by decide) ho1) rfl rfl (by decide) inX0_isWidthFit_RX3 (own0 := RX0) (host := "TableWright") rfl nw_28 rfl dX0_isWidthFit_32 ?_
      refine h.iload_n (pc := 35) dX0_isWidthFit_35 rfl 3 rfl ?_
      obtain ⟨hj36, hw⟩ := hw
      refine h.iald (pc := 36) (f := 10) (o := o1) (i := 0) (n := 6) (k_1 2 (by decide) ho1) (fun _ => rfl) hj36 dX0_isWidthFit_36 ?_
      obtain ⟨hj37, hw⟩ := hw
      refine h.iast (pc := 37) (f := 18) (o := o0) (i := 0) (n := 6) (ix := v3) (x := (M 10 o1 0 v3.toNatClampNeg)) (k_1 5 (by decide) ho0) (fun _ => rfl) hj37 dX0_isWidthFit_37 (fun M37 e37 => ?_)
      replace hw := hw M37 e37
      refine h.iinc (pc := 38) [(3, .int (v3 + 1)), (0, .ref (gA G (3, o0, 0))), (1, .ref (gA G (1, o1, 0))), (2, .int v2)] dX0_isWidthFit_38 3 rfl (inc_ (by decide)) (by decide) rfl ?_
      refine h.goto (pc := 41) 18 dX0_isWidthFit_41 (by decide) ?_
      refine h.sub (pc := 18) [1, 2, 3, 0] (lv' := [(0, .ref (gA G (3, o0, 0))), (1, .ref (gA G (1, o1, 0))), (2, .int v2), (3, .int (v3 + 1))]) rfl ?_
      exact ih (v3 + 1) M37 hw
def wp_X0_isWidthFit_L52 (o0 : Nat) (o1 : Nat) (v2 : Int32)  (X : Mem → Prop) (Q : Int32 → Mem → Prop) : Nat → Int32 → Mem → Prop
  | 0, _, _ => False
  | n + 1, v3, M => ((v3 ≤ 0 → X M) ∧ (¬ (v3 ≤ 0) → (wp_X0_mostSpareColumn o0 o1 M (fun r58 M58 => ((r58 = (-1) → Q 0 M58) ∧ (¬ (r58 = (-1)) → (vp_in r58 6 ∧ (vp_in r58 6 ∧ (∀ M81 : Mem, M81 = sM M58 18 o0 0 r58.toNatClampNeg ((M58 18 o0 0 r58.toNatClampNeg) - 1) → (wp_X0_isWidthFit_L52 o0 o1 v2 X Q n) (v3 + (-1)) M81)))))))))
set_option maxHeartbeats 4000000 in
set_option maxRecDepth 100000 in
theorem l_X0_isWidthFit_L52 {l : Launch} {G : GG} {Z : ZT} (h : AX l G cX0_isWidthFit 5 RX0 wsX0_isWidthFit F_X0_isWidthFit L_X0_isWidthFit Z) (hG : GoodG G) {Q : Int32 → Mem → Prop} (hr : RETz cX0_isWidthFit Q Z) (o0 : Nat) (o1 : Nat) (v2 : Int32) (ho0 : o0 < 5) (ho1 : o1 < 2)   (X : Mem → Prop) (hX : ∀  (M : Mem), X  M → Z 88 [] [] M) : ∀ (n : Nat) (v3 : Int32) (M : Mem), wp_X0_isWidthFit_L52 o0 o1 v2 X Q n v3 M → Z 52 [(0, .ref (gA G (3, o0, 0))), (1, .ref (gA G (1, o1, 0))), (3, .int v3)] [] M := by
  intro n
  induction n with
  | zero => intro v3 M hw; exact hw.elim
  | succ n ih =>
    intro v3 M hw
    unfold wp_X0_isWidthFit_L52 at hw
    refine h.iload_n (pc := 52) dX0_isWidthFit_52 rfl 2 rfl ?_
    refine h.if_le (pc := 53) 88 dX0_isWidthFit_53 (by decide) (fun c53 => ?_) (fun c53 => ?_)
    · replace hw := hw.1 c53
      refine h.sub (pc := 88) [] (lv' := []) rfl ?_
      exact hX M hw
    · replace hw := hw.2 c53
      refine h.aload_n (pc := 56) dX0_isWidthFit_56 rfl 0 rfl ?_
      refine h.aload_n (pc := 57) dX0_isWidthFit_57 rfl 1 rfl ?_
      refine h.cVi (pc := 58) [.ref (gA G (1, o1, 0))] (3, o0, 0) [] (m_X0_mostSpareColumn hG ho0 ho1 hw) gX0_isWidthFit_X0_mostSpareColumn rfl hd_X0_mostSpareColumn (by decide) (k_1 5 (by decide) ho0) rfl rfl rfl rfl rfl (Nat.le_of_ble_eq_true rfl) dX0_isWidthFit_58 (fun r58 M58 hw => ?_)
      refine h.istore (pc := 61) [(4, .int r58), (0, .ref (gA G (3, o0, 0))), (1, .ref (gA G (1, o1, 0))), (3, .int v3)] dX0_isWidthFit_61 (by decide) rfl ?_
      refine h.iload (pc := 63) dX0_isWidthFit_63 0 rfl ?_
      refine h.iconst (pc := 65) (v := (-1)) dX0_isWidthFit_65 (by decide) ?_
      refine h.icmp_ne (pc := 66) 71 dX0_isWidthFit_66 (by decide) (fun c66 => ?_) (fun c66 => ?_)
      · replace hw := hw.2 c66
        refine h.aload_n (pc := 71) dX0_isWidthFit_71 rfl 1 rfl ?_
        refine h.getf (pc := 72) (f := 3) (o := o0) (i := 0) (ci := 0) (C := RX0) (T := TX0) (N := 14) (j := 2) (v := .ref (gA G (18, o0, 0))) (k_1 5 (by decide) ho0) rfl rfl (by decide) inX0_isWidthFit_RX0 kX0_isWidthFit_9 rfl dX0_isWidthFit_72 ?_
        refine h.iload (pc := 75) dX0_isWidthFit_75 0 rfl ?_
        refine h.dup2 (pc := 77) dX0_isWidthFit_77 rfl rfl ?_
        obtain ⟨hj78, hw⟩ := hw
        refine h.iald (pc := 78) (f := 18) (o := o0) (i := 0) (n := 6) (k_1 5 (by decide) ho0) (fun _ => rfl) hj78 dX0_isWidthFit_78 ?_
        refine h.iconst (pc := 79) (v := 1) dX0_isWidthFit_79 (by decide) ?_
        refine h.isub (pc := 80) dX0_isWidthFit_80 ?_
        obtain ⟨hj81, hw⟩ := hw
        refine h.iast (pc := 81) (f := 18) (o := o0) (i := 0) (n := 6) (ix := r58) (x := ((M58 18 o0 0 r58.toNatClampNeg) - 1)) (k_1 5 (by decide) ho0) (fun _ => rfl) hj81 dX0_isWidthFit_81 (fun M81 e81 => ?_)
        replace hw := hw M81 e81
        refine h.iinc (pc := 82) [(3, .int (v3 + (-1))), (4, .int r58), (0, .ref (gA G (3, o0, 0))), (1, .ref (gA G (1, o1, 0)))] dX0_isWidthFit_82 3 rfl (inc_ (by decide)) (by decide) rfl ?_
        refine h.goto (pc := 85) 52 dX0_isWidthFit_85 (by decide) ?_
        refine h.sub (pc := 52) [2, 3, 0] (lv' := [(0, .ref (gA G (3, o0, 0))), (1, .ref (gA G (1, o1, 0))), (3, .int (v3 + (-1)))]) rfl ?_
        exact ih (v3 + (-1)) M81 hw
      · replace hw := hw.1 c66
        refine h.iconst (pc := 69) (v := 0) dX0_isWidthFit_69 (by decide) ?_
        exact hr _ _ _ _ dX0_isWidthFit_70 zb_0 hw
def wp_X0_isWidthFit_L44 (o0 : Nat) (o1 : Nat) (v2 : Int32)  (Q : Int32 → Mem → Prop)  (M : Mem) : Prop := (wp_X0_tableWidth o0 o1 M (fun r46 M46 => ∃ n52, wp_X0_isWidthFit_L52 o0 o1 v2 (fun M => Q 1 M) Q n52 (r46 - v2) M46))
set_option maxHeartbeats 4000000 in
set_option maxRecDepth 100000 in
theorem l_X0_isWidthFit_L44 {l : Launch} {G : GG} {Z : ZT} (h : AX l G cX0_isWidthFit 5 RX0 wsX0_isWidthFit F_X0_isWidthFit L_X0_isWidthFit Z) (hG : GoodG G) {Q : Int32 → Mem → Prop} (hr : RETz cX0_isWidthFit Q Z) (o0 : Nat) (o1 : Nat) (v2 : Int32) (ho0 : o0 < 5) (ho1 : o1 < 2)   (M : Mem) (hw : wp_X0_isWidthFit_L44 o0 o1 v2 Q M) : Z 44 [(0, .ref (gA G (3, o0, 0))), (1, .ref (gA G (1, o1, 0))), (2, .int v2)] [] M := by
  unfold wp_X0_isWidthFit_L44 at hw
  refine h.aload_n (pc := 44) dX0_isWidthFit_44 rfl 0 rfl ?_
  refine h.aload_n (pc := 45) dX0_isWidthFit_45 rfl 1 rfl ?_
  refine h.cVi (pc := 46) [.ref (gA G (1, o1, 0))] (3, o0, 0) [] (m_X0_tableWidth hG ho0 ho1 hw) gX0_isWidthFit_X0_tableWidth rfl hd_X0_tableWidth (by decide) (k_1 5 (by decide) ho0) rfl rfl rfl rfl rfl (Nat.le_of_ble_eq_true rfl) dX0_isWidthFit_46 (fun r46 M46 hw => ?_)
  refine h.iload_n (pc := 49) dX0_isWidthFit_49 rfl 2 rfl ?_
  refine h.isub (pc := 50) dX0_isWidthFit_50 ?_
  refine h.istore_n (pc := 51) [(3, .int (r46 - v2)), (0, .ref (gA G (3, o0, 0))), (1, .ref (gA G (1, o1, 0))), (2, .int v2)] dX0_isWidthFit_51 rfl (by decide) rfl ?_
  refine h.sub (pc := 52) [1, 2, 0] (lv' := [(0, .ref (gA G (3, o0, 0))), (1, .ref (gA G (1, o1, 0))), (3, .int (r46 - v2))]) rfl ?_
  obtain ⟨n52, hw⟩ := hw
  exact l_X0_isWidthFit_L52 h hG hr o0 o1 v2 ho0 ho1 _ (fun M hw => by
      refine h.iconst (pc := 88) (v := 1) dX0_isWidthFit_88 (by decide) ?_
      exact hr _ _ _ _ dX0_isWidthFit_89 zb_1 hw) n52 (r46 - v2) M46 hw
def wp_X0_isWidthFit (o0 : Nat) (o1 : Nat) (v2 : Int32) (M : Mem) (Q : Int32 → Mem → Prop) : Prop := (((M 1 o1 0 0) = 0 → Q 0 M) ∧ (¬ ((M 1 o1 0 0) = 0) → (((M 1 o1 0 5) = 0 → Q 0 M) ∧ (¬ ((M 1 o1 0 5) = 0) → ∃ n18, wp_X0_isWidthFit_L18 o0 o1 v2 (fun M => wp_X0_isWidthFit_L44 o0 o1 v2 Q M) Q n18 0 M))))
set_option maxHeartbeats 4000000 in
set_option maxRecDepth 100000 in
theorem m_X0_isWidthFit {l : Launch} {G : GG} (hG : GoodG G) {o0 : Nat} {o1 : Nat} {v2 : Int32}  {M : Mem} {Q : Int32 → Mem → Prop} (ho0 : o0 < 5) (ho1 : o1 < 2) (hw : wp_X0_isWidthFit o0 o1 v2 M Q) : CTi l G yX0_isWidthFit wsX0_isWidthFit F_X0_isWidthFit L_X0_isWidthFit [.ref (gA G (3, o0, 0)), .ref (gA G (1, o1, 0)), .int v2] M Q := by
  refine CTz_mk hG (by decide +kernel) rfl (Nat.le_of_ble_eq_true rfl) (fun Z (h : AX l G cX0_isWidthFit 5 RX0 wsX0_isWidthFit F_X0_isWidthFit L_X0_isWidthFit Z) hr => ?_)
  show Z 0 [(0, .ref (gA G (3, o0, 0))), (1, .ref (gA G (1, o1, 0))), (2, .int v2)] [] M
  unfold wp_X0_isWidthFit at hw
  refine h.aload_n (pc := 0) dX0_isWidthFit_0 rfl 1 rfl ?_
  refine h.getN (pc := 1) (f := 1) (o := o1) (i := 0) (ci := 3) (C := RX3) (T := TX3) (N := 9) (j := 0) (v := .int (M 1 o1 0 0)) (k_1 2 (by decide) ho1) rfl rfl (by decide) inX0_isWidthFit_RX3 (own0 := RX0) (host := "TableWright") rfl nw_18 rfl dX0_isWidthFit_1 ?_
  refine h.if_eq (pc := 4) 14 dX0_isWidthFit_4 (by decide) (fun c4 => ?_) (fun c4 => ?_)
  · replace hw := hw.1 c4
    refine h.iconst (pc := 14) (v := 0) dX0_isWidthFit_14 (by decide) ?_
    exact hr _ _ _ _ dX0_isWidthFit_15 zb_0 hw
  · replace hw := hw.2 c4
    refine h.aload_n (pc := 7) dX0_isWidthFit_7 rfl 1 rfl ?_
    refine h.getN (pc := 8) (f := 1) (o := o1) (i := 0) (ci := 3) (C := RX3) (T := TX3) (N := 9) (j := 5) (v := .int (M 1 o1 0 5)) (k_1 2 (by decide) ho1) rfl rfl (by decide) inX0_isWidthFit_RX3 (own0 := RX0) (host := "TableWright") rfl nw_22 rfl dX0_isWidthFit_8 ?_
    refine h.if_ne (pc := 11) 16 dX0_isWidthFit_11 (by decide) (fun c11 => ?_) (fun c11 => ?_)
    · replace hw := hw.2 c11
      refine h.iconst (pc := 16) (v := 0) dX0_isWidthFit_16 (by decide) ?_
      refine h.istore_n (pc := 17) [(3, .int 0), (0, .ref (gA G (3, o0, 0))), (1, .ref (gA G (1, o1, 0))), (2, .int v2)] dX0_isWidthFit_17 rfl (by decide) rfl ?_
      refine h.sub (pc := 18) [1, 2, 3, 0] (lv' := [(0, .ref (gA G (3, o0, 0))), (1, .ref (gA G (1, o1, 0))), (2, .int v2), (3, .int 0)]) rfl ?_
      obtain ⟨n18, hw⟩ := hw
      exact l_X0_isWidthFit_L18 h hG hr o0 o1 v2 ho0 ho1 _ (fun M hw => by
          exact l_X0_isWidthFit_L44 h hG hr o0 o1 v2 ho0 ho1 M hw) n18 0 M hw
    · replace hw := hw.1 c11
      refine h.iconst (pc := 14) (v := 0) dX0_isWidthFit_14 (by decide) ?_
      exact hr _ _ _ _ dX0_isWidthFit_15 zb_0 hw
-- X0_areHeightsFit
theorem inX0_areHeightsFit_RX0 : ∀ w ∈ u_ws RX0 TX0 14, w ∈ wsX0_areHeightsFit := by decide +kernel
theorem inX0_areHeightsFit_RX3 : ∀ w ∈ u_ws RX3 TX3 9, w ∈ wsX0_areHeightsFit := by decide +kernel
theorem kMX0_areHeightsFit_1_max_104 : Cond.methodLink RX0 104 Lib.Math.max.name ∈ wsX0_areHeightsFit := by decide +kernel
theorem kMX0_areHeightsFit_2_max : Cond.static Lib.Math.max.name ∈ wsX0_areHeightsFit := by decide +kernel
theorem kMX0_areHeightsFit_3 : Cond.initialized "java/lang/Math" ∈ wsX0_areHeightsFit := by decide +kernel
theorem kMX0_areHeightsFit_4_max : Cond.code Lib.Math.max.name Lib.Math.max.code 2 (some .int) ∈ wsX0_areHeightsFit := by decide +kernel
theorem kX0_areHeightsFit_39 : Cond.fieldLink RX0 39 (TX0 1).1 (TX0 1).2.1 (TX0 1).2.2.1 ∈ wsX0_areHeightsFit := by decide +kernel
theorem kX0_areHeightsFit_15 : Cond.fieldLink RX0 15 (TX0 3).1 (TX0 3).2.1 (TX0 3).2.2.1 ∈ wsX0_areHeightsFit := by decide +kernel
abbrev F_X0_areHeightsFit : Nat := 2
abbrev L_X0_areHeightsFit : Nat := 47
theorem hd_X0_areHeightsFit : yX0_areHeightsFit.cls = RX0 ∧ yX0_areHeightsFit.cls ≠ "java/lang/invoke/MethodHandle" ∧ yX0_areHeightsFit.cls ≠ "java/lang/invoke/VarHandle" ∧ (parseMethodDescriptor yX0_areHeightsFit.desc).map (fun d => d.parameters.length) = some 1 := by decide +kernel
def wp_X0_areHeightsFit_L15 (o0 : Nat) (o1 : Nat) (v2 : Int32) (X : Int32 → Mem → Prop) (Q : Int32 → Mem → Prop) : Nat → Int32 → Int32 → Mem → Prop
  | 0, _, _, _ => False
  | n + 1, v3, v4, M => (((M 1 o1 0 0) ≤ v4 → X v3 M) ∧ (¬ ((M 1 o1 0 0) ≤ v4) → (wp_X0_heightOfCell o0 o1 v2 v4 M (fun r30 M30 => (wp_X0_areHeightsFit_L15 o0 o1 v2 X Q n) (if v3 < r30 then r30 else v3) (v4 + 1) M30))))
set_option maxHeartbeats 4000000 in
set_option maxRecDepth 100000 in
theorem l_X0_areHeightsFit_L15 {l : Launch} {G : GG} {Z : ZT} (h : AX l G cX0_areHeightsFit 5 RX0 wsX0_areHeightsFit F_X0_areHeightsFit L_X0_areHeightsFit Z) (hG : GoodG G) {Q : Int32 → Mem → Prop} (hr : RETz cX0_areHeightsFit Q Z) (o0 : Nat) (o1 : Nat) (ho0 : o0 < 5) (ho1 : o1 < 2) (v2 : Int32)  (X : Int32 → Mem → Prop) (hX : ∀ (v3 : Int32) (M : Mem), X v3 M → Z 43 [(0, .ref (gA G (3, o0, 0))), (1, .ref (gA G (1, o1, 0))), (2, .int v2), (3, .int v3)] [] M) : ∀ (n : Nat) (v3 : Int32) (v4 : Int32) (M : Mem), wp_X0_areHeightsFit_L15 o0 o1 v2 X Q n v3 v4 M → Z 15 [(0, .ref (gA G (3, o0, 0))), (1, .ref (gA G (1, o1, 0))), (2, .int v2), (3, .int v3), (4, .int v4)] [] M := by
  intro n
  induction n with
  | zero => intro v3 v4 M hw; exact hw.elim
  | succ n ih =>
    intro v3 v4 M hw
    unfold wp_X0_areHeightsFit_L15 at hw
    refine h.iload (pc := 15) dX0_areHeightsFit_15 4 rfl ?_
    refine h.aload_n (pc := 17) dX0_areHeightsFit_17 rfl 1 rfl ?_
    refine h.getN (pc := 18) (f := 1) (o := o1) (i := 0) (ci := 3) (C := RX3) (T := TX3) (N := 9) (j := 0) (v := .int (M 1 o1 0 0)) (k_1 2 (by decide) ho1) rfl rfl (by decide) inX0_areHeightsFit_RX3 (own0 := RX0) (host := "TableWright") rfl nw_18 rfl dX0_areHeightsFit_18 ?_
    refine h.icmp_ge (pc := 21) 43 dX0_areHeightsFit_21 (by decide) (fun c21 => ?_) (fun c21 => ?_)
    · replace hw := hw.1 c21
      refine h.sub (pc := 43) [0, 1, 2, 3] (lv' := [(0, .ref (gA G (3, o0, 0))), (1, .ref (gA G (1, o1, 0))), (2, .int v2), (3, .int v3)]) rfl ?_
      exact hX v3 M hw
    · replace hw := hw.2 c21
      refine h.iload_n (pc := 24) dX0_areHeightsFit_24 rfl 3 rfl ?_
      refine h.aload_n (pc := 25) dX0_areHeightsFit_25 rfl 0 rfl ?_
      refine h.aload_n (pc := 26) dX0_areHeightsFit_26 rfl 1 rfl ?_
      refine h.iload_n (pc := 27) dX0_areHeightsFit_27 rfl 2 rfl ?_
      refine h.iload (pc := 28) dX0_areHeightsFit_28 4 rfl ?_
      refine h.cVi (pc := 30) [.ref (gA G (1, o1, 0)), .int v2, .int v4] (3, o0, 0) [.int v3] (m_X0_heightOfCell hG ho0 ho1 hw) gX0_areHeightsFit_X0_heightOfCell rfl hd_X0_heightOfCell (by decide) (k_1 5 (by decide) ho0) rfl rfl rfl rfl rfl (Nat.le_of_ble_eq_true rfl) dX0_areHeightsFit_30 (fun r30 M30 hw => ?_)
      refine h.mmax (pc := 33) (st := []) kMX0_areHeightsFit_1_max_104 kMX0_areHeightsFit_2_max kMX0_areHeightsFit_3 kMX0_areHeightsFit_4_max (by decide) (Nat.le_of_ble_eq_true rfl) dX0_areHeightsFit_33 ?_
      refine h.istore_n (pc := 36) [(3, .int (if v3 < r30 then r30 else v3)), (0, .ref (gA G (3, o0, 0))), (1, .ref (gA G (1, o1, 0))), (2, .int v2), (4, .int v4)] dX0_areHeightsFit_36 rfl (by decide) rfl ?_
      refine h.iinc (pc := 37) [(4, .int (v4 + 1)), (3, .int (if v3 < r30 then r30 else v3)), (0, .ref (gA G (3, o0, 0))), (1, .ref (gA G (1, o1, 0))), (2, .int v2)] dX0_areHeightsFit_37 4 rfl (inc_ (by decide)) (by decide) rfl ?_
      refine h.goto (pc := 40) 15 dX0_areHeightsFit_40 (by decide) ?_
      refine h.sub (pc := 15) [2, 3, 4, 1, 0] (lv' := [(0, .ref (gA G (3, o0, 0))), (1, .ref (gA G (1, o1, 0))), (2, .int v2), (3, .int (if v3 < r30 then r30 else v3)), (4, .int (v4 + 1))]) rfl ?_
      exact ih (if v3 < r30 then r30 else v3) (v4 + 1) M30 hw
def wp_X0_areHeightsFit_L43 (o0 : Nat) (o1 : Nat) (B : Int32 → Mem → Prop) (X : Mem → Prop) (Q : Int32 → Mem → Prop) (v2 : Int32) (v3 : Int32) (M : Mem) : Prop := ((v3 ≤ (M 3 o0 0 1) → (vp_in v2 30 ∧ (∀ M59 : Mem, M59 = sM M 19 o0 0 v2.toNatClampNeg v3 → B (v2 + 1) M59))) ∧ (¬ (v3 ≤ (M 3 o0 0 1)) → Q 0 M))
set_option maxHeartbeats 4000000 in
set_option maxRecDepth 100000 in
theorem l_X0_areHeightsFit_L43 {l : Launch} {G : GG} {Z : ZT} (h : AX l G cX0_areHeightsFit 5 RX0 wsX0_areHeightsFit F_X0_areHeightsFit L_X0_areHeightsFit Z) (hG : GoodG G) {Q : Int32 → Mem → Prop} (hr : RETz cX0_areHeightsFit Q Z) (o0 : Nat) (o1 : Nat) (ho0 : o0 < 5) (ho1 : o1 < 2) (v2 : Int32) (v3 : Int32)  {B : Int32 → Mem → Prop} (hB : ∀ (v2 : Int32) (M : Mem), B v2 M → Z 2 [(0, .ref (gA G (3, o0, 0))), (1, .ref (gA G (1, o1, 0))), (2, .int v2)] [] M) {X : Mem → Prop} (hX : ∀  (M : Mem), X  M → Z 66 [] [] M) (M : Mem) (hw : wp_X0_areHeightsFit_L43 o0 o1 B X Q v2 v3 M) : Z 43 [(0, .ref (gA G (3, o0, 0))), (1, .ref (gA G (1, o1, 0))), (2, .int v2), (3, .int v3)] [] M := by
  unfold wp_X0_areHeightsFit_L43 at hw
  refine h.iload_n (pc := 43) dX0_areHeightsFit_43 rfl 3 rfl ?_
  refine h.aload_n (pc := 44) dX0_areHeightsFit_44 rfl 0 rfl ?_
  refine h.getf (pc := 45) (f := 3) (o := o0) (i := 0) (ci := 0) (C := RX0) (T := TX0) (N := 14) (j := 1) (v := .int (M 3 o0 0 1)) (k_1 5 (by decide) ho0) rfl rfl (by decide) inX0_areHeightsFit_RX0 kX0_areHeightsFit_39 rfl dX0_areHeightsFit_45 ?_
  refine h.icmp_le (pc := 48) 53 dX0_areHeightsFit_48 (by decide) (fun c48 => ?_) (fun c48 => ?_)
  · replace hw := hw.1 c48
    refine h.aload_n (pc := 53) dX0_areHeightsFit_53 rfl 0 rfl ?_
    refine h.getf (pc := 54) (f := 3) (o := o0) (i := 0) (ci := 0) (C := RX0) (T := TX0) (N := 14) (j := 3) (v := .ref (gA G (19, o0, 0))) (k_1 5 (by decide) ho0) rfl rfl (by decide) inX0_areHeightsFit_RX0 kX0_areHeightsFit_15 rfl dX0_areHeightsFit_54 ?_
    refine h.iload_n (pc := 57) dX0_areHeightsFit_57 rfl 2 rfl ?_
    refine h.iload_n (pc := 58) dX0_areHeightsFit_58 rfl 3 rfl ?_
    obtain ⟨hj59, hw⟩ := hw
    refine h.iast (pc := 59) (f := 19) (o := o0) (i := 0) (n := 30) (ix := v2) (x := v3) (k_1 5 (by decide) ho0) (fun _ => rfl) hj59 dX0_areHeightsFit_59 (fun M59 e59 => ?_)
    replace hw := hw M59 e59
    refine h.iinc (pc := 60) [(2, .int (v2 + 1)), (0, .ref (gA G (3, o0, 0))), (1, .ref (gA G (1, o1, 0))), (3, .int v3)] dX0_areHeightsFit_60 2 rfl (inc_ (by decide)) (by decide) rfl ?_
    refine h.goto (pc := 63) 2 dX0_areHeightsFit_63 (by decide) ?_
    refine h.sub (pc := 2) [1, 2, 0] (lv' := [(0, .ref (gA G (3, o0, 0))), (1, .ref (gA G (1, o1, 0))), (2, .int (v2 + 1))]) rfl ?_
    exact hB (v2 + 1) M59 hw
  · replace hw := hw.2 c48
    refine h.iconst (pc := 51) (v := 0) dX0_areHeightsFit_51 (by decide) ?_
    exact hr _ _ _ _ dX0_areHeightsFit_52 zb_0 hw
def wp_X0_areHeightsFit_L2 (o0 : Nat) (o1 : Nat)  (X : Mem → Prop) (Q : Int32 → Mem → Prop) : Nat → Int32 → Mem → Prop
  | 0, _, _ => False
  | n + 1, v2, M => (((M 1 o1 0 5) ≤ v2 → X M) ∧ (¬ ((M 1 o1 0 5) ≤ v2) → ∃ n15, wp_X0_areHeightsFit_L15 o0 o1 v2 (fun v3 M => wp_X0_areHeightsFit_L43 o0 o1 (wp_X0_areHeightsFit_L2 o0 o1 X Q n) X Q v2 v3 M) Q n15 0 0 M))
set_option maxHeartbeats 4000000 in
set_option maxRecDepth 100000 in
theorem l_X0_areHeightsFit_L2 {l : Launch} {G : GG} {Z : ZT} (h : AX l G cX0_areHeightsFit 5 RX0 wsX0_areHeightsFit F_X0_areHeightsFit L_X0_areHeightsFit Z) (hG : GoodG G) {Q : Int32 → Mem → Prop} (hr : RETz cX0_areHeightsFit Q Z) (o0 : Nat) (o1 : Nat) (ho0 : o0 < 5) (ho1 : o1 < 2)   (X : Mem → Prop) (hX : ∀  (M : Mem), X  M → Z 66 [] [] M) : ∀ (n : Nat) (v2 : Int32) (M : Mem), wp_X0_areHeightsFit_L2 o0 o1 X Q n v2 M → Z 2 [(0, .ref (gA G (3, o0, 0))), (1, .ref (gA G (1, o1, 0))), (2, .int v2)] [] M := by
  intro n
  induction n with
  | zero => intro v2 M hw; exact hw.elim
  | succ n ih =>
    intro v2 M hw
    unfold wp_X0_areHeightsFit_L2 at hw
    refine h.iload_n (pc := 2) dX0_areHeightsFit_2 rfl 2 rfl ?_
    refine h.aload_n (pc := 3) dX0_areHeightsFit_3 rfl 1 rfl ?_
    refine h.getN (pc := 4) (f := 1) (o := o1) (i := 0) (ci := 3) (C := RX3) (T := TX3) (N := 9) (j := 5) (v := .int (M 1 o1 0 5)) (k_1 2 (by decide) ho1) rfl rfl (by decide) inX0_areHeightsFit_RX3 (own0 := RX0) (host := "TableWright") rfl nw_22 rfl dX0_areHeightsFit_4 ?_
    refine h.icmp_ge (pc := 7) 66 dX0_areHeightsFit_7 (by decide) (fun c7 => ?_) (fun c7 => ?_)
    · replace hw := hw.1 c7
      refine h.sub (pc := 66) [] (lv' := []) rfl ?_
      exact hX M hw
    · replace hw := hw.2 c7
      refine h.iconst (pc := 10) (v := 0) dX0_areHeightsFit_10 (by decide) ?_
      refine h.istore_n (pc := 11) [(3, .int 0), (0, .ref (gA G (3, o0, 0))), (1, .ref (gA G (1, o1, 0))), (2, .int v2)] dX0_areHeightsFit_11 rfl (by decide) rfl ?_
      refine h.iconst (pc := 12) (v := 0) dX0_areHeightsFit_12 (by decide) ?_
      refine h.istore (pc := 13) [(4, .int 0), (3, .int 0), (0, .ref (gA G (3, o0, 0))), (1, .ref (gA G (1, o1, 0))), (2, .int v2)] dX0_areHeightsFit_13 (by decide) rfl ?_
      refine h.sub (pc := 15) [2, 3, 4, 1, 0] (lv' := [(0, .ref (gA G (3, o0, 0))), (1, .ref (gA G (1, o1, 0))), (2, .int v2), (3, .int 0), (4, .int 0)]) rfl ?_
      obtain ⟨n15, hw⟩ := hw
      exact l_X0_areHeightsFit_L15 h hG hr o0 o1 ho0 ho1 v2 _ (fun v3 M hw => by
          exact l_X0_areHeightsFit_L43 h hG hr o0 o1 ho0 ho1 v2 v3 ih hX M hw) n15 0 0 M hw
def wp_X0_areHeightsFit (o0 : Nat) (o1 : Nat) (M : Mem) (Q : Int32 → Mem → Prop) : Prop := ∃ n2, wp_X0_areHeightsFit_L2 o0 o1 (fun M => Q 1 M) Q n2 0 M
set_option maxHeartbeats 4000000 in
set_option maxRecDepth 100000 in
theorem m_X0_areHeightsFit {l : Launch} {G : GG} (hG : GoodG G) {o0 : Nat} {o1 : Nat}  {M : Mem} {Q : Int32 → Mem → Prop} (ho0 : o0 < 5) (ho1 : o1 < 2) (hw : wp_X0_areHeightsFit o0 o1 M Q) : CTi l G yX0_areHeightsFit wsX0_areHeightsFit F_X0_areHeightsFit L_X0_areHeightsFit [.ref (gA G (3, o0, 0)), .ref (gA G (1, o1, 0))] M Q := by
  refine CTz_mk hG (by decide +kernel) rfl (Nat.le_of_ble_eq_true rfl) (fun Z (h : AX l G cX0_areHeightsFit 5 RX0 wsX0_areHeightsFit F_X0_areHeightsFit L_X0_areHeightsFit Z) hr => ?_)
  show Z 0 [(0, .ref (gA G (3, o0, 0))), (1, .ref (gA G (1, o1, 0)))] [] M
  unfold wp_X0_areHeightsFit at hw
  refine h.iconst (pc := 0) (v := 0) dX0_areHeightsFit_0 (by decide) ?_
  refine h.istore_n (pc := 1) [(2, .int 0), (0, .ref (gA G (3, o0, 0))), (1, .ref (gA G (1, o1, 0)))] dX0_areHeightsFit_1 rfl (by decide) rfl ?_
  refine h.sub (pc := 2) [1, 2, 0] (lv' := [(0, .ref (gA G (3, o0, 0))), (1, .ref (gA G (1, o1, 0))), (2, .int 0)]) rfl ?_
  obtain ⟨n2, hw⟩ := hw
  exact l_X0_areHeightsFit_L2 h hG hr o0 o1 ho0 ho1 _ (fun M hw => by
      refine h.iconst (pc := 66) (v := 1) dX0_areHeightsFit_66 (by decide) ?_
      exact hr _ _ _ _ dX0_areHeightsFit_67 zb_1 hw) n2 0 M hw
-- X0_putNextRow
theorem inX0_putNextRow_RX0 : ∀ w ∈ u_ws RX0 TX0 14, w ∈ wsX0_putNextRow := by decide +kernel
theorem kX0_putNextRow_27 : Cond.fieldLink RX0 27 (TX0 8).1 (TX0 8).2.1 (TX0 8).2.2.1 ∈ wsX0_putNextRow := by decide +kernel
theorem kX0_putNextRow_18 : Cond.fieldLink RX0 18 (TX0 4).1 (TX0 4).2.1 (TX0 4).2.2.1 ∈ wsX0_putNextRow := by decide +kernel
theorem kX0_putNextRow_58 : Cond.fieldLink RX0 58 (TX0 12).1 (TX0 12).2.1 (TX0 12).2.2.1 ∈ wsX0_putNextRow := by decide +kernel
theorem kX0_putNextRow_33 : Cond.fieldLink RX0 33 (TX0 10).1 (TX0 10).2.1 (TX0 10).2.2.1 ∈ wsX0_putNextRow := by decide +kernel
theorem kX0_putNextRow_15 : Cond.fieldLink RX0 15 (TX0 3).1 (TX0 3).2.1 (TX0 3).2.2.1 ∈ wsX0_putNextRow := by decide +kernel
theorem kX0_putNextRow_24 : Cond.fieldLink RX0 24 (TX0 7).1 (TX0 7).2.1 (TX0 7).2.2.1 ∈ wsX0_putNextRow := by decide +kernel
abbrev F_X0_putNextRow : Nat := 0
abbrev L_X0_putNextRow : Nat := 0
theorem hd_X0_putNextRow : yX0_putNextRow.cls = RX0 ∧ yX0_putNextRow.cls ≠ "java/lang/invoke/MethodHandle" ∧ yX0_putNextRow.cls ≠ "java/lang/invoke/VarHandle" ∧ (parseMethodDescriptor yX0_putNextRow.desc).map (fun d => d.parameters.length) = some 1 := by decide +kernel
def wp_X0_putNextRow_L19 (o0 : Nat) (v1 : Int32)  (Q : Mem → Prop)  (M : Mem) : Prop := (vp_in (M 3 o0 0 12) 30 ∧ (∀ M28 : Mem, M28 = sM M 20 o0 0 (M 3 o0 0 12).toNatClampNeg v1 → (vp_in v1 60 ∧ (vp_in v1 60 ∧ (∀ M38 : Mem, M38 = sM M28 23 o0 0 v1.toNatClampNeg ((M28 23 o0 0 v1.toNatClampNeg) + 1) → (vp_in v1 60 ∧ (vp_in (M38 3 o0 0 12) 30 ∧ (vp_in v1 60 ∧ (∀ M56 : Mem, M56 = sM M38 25 o0 0 v1.toNatClampNeg ((M38 25 o0 0 v1.toNatClampNeg) - (M38 19 o0 0 (M38 3 o0 0 12).toNatClampNeg)) → Q M56)))))))))
set_option maxHeartbeats 4000000 in
set_option maxRecDepth 100000 in
theorem l_X0_putNextRow_L19 {l : Launch} {G : GG} {Z : ZT} (h : AX l G cX0_putNextRow 2 RX0 wsX0_putNextRow F_X0_putNextRow L_X0_putNextRow Z) (hG : GoodG G) {Q : Mem → Prop} (hr : RETv cX0_putNextRow Q Z) (o0 : Nat) (v1 : Int32) (ho0 : o0 < 5)   (M : Mem) (hw : wp_X0_putNextRow_L19 o0 v1 Q M) : Z 19 [(0, .ref (gA G (3, o0, 0))), (1, .int v1)] [] M := by
  unfold wp_X0_putNextRow_L19 at hw
  refine h.aload_n (pc := 19) dX0_putNextRow_19 rfl 0 rfl ?_
  refine h.getf (pc := 20) (f := 3) (o := o0) (i := 0) (ci := 0) (C := RX0) (T := TX0) (N := 14) (j := 4) (v := .ref (gA G (20, o0, 0))) (k_1 5 (by decide) ho0) rfl rfl (by decide) inX0_putNextRow_RX0 kX0_putNextRow_18 rfl dX0_putNextRow_20 ?_
  refine h.aload_n (pc := 23) dX0_putNextRow_23 rfl 0 rfl ?_
  refine h.getf (pc := 24) (f := 3) (o := o0) (i := 0) (ci := 0) (C := RX0) (T := TX0) (N := 14) (j := 12) (v := .int (M 3 o0 0 12)) (k_1 5 (by decide) ho0) rfl rfl (by decide) inX0_putNextRow_RX0 kX0_putNextRow_58 rfl dX0_putNextRow_24 ?_
  refine h.iload_n (pc := 27) dX0_putNextRow_27 rfl 1 rfl ?_
  obtain ⟨hj28, hw⟩ := hw
  refine h.iast (pc := 28) (f := 20) (o := o0) (i := 0) (n := 30) (ix := (M 3 o0 0 12)) (x := v1) (k_1 5 (by decide) ho0) (fun _ => rfl) hj28 dX0_putNextRow_28 (fun M28 e28 => ?_)
  replace hw := hw M28 e28
  refine h.aload_n (pc := 29) dX0_putNextRow_29 rfl 0 rfl ?_
  refine h.getf (pc := 30) (f := 3) (o := o0) (i := 0) (ci := 0) (C := RX0) (T := TX0) (N := 14) (j := 8) (v := .ref (gA G (23, o0, 0))) (k_1 5 (by decide) ho0) rfl rfl (by decide) inX0_putNextRow_RX0 kX0_putNextRow_27 rfl dX0_putNextRow_30 ?_
  refine h.iload_n (pc := 33) dX0_putNextRow_33 rfl 1 rfl ?_
  refine h.dup2 (pc := 34) dX0_putNextRow_34 rfl rfl ?_
  obtain ⟨hj35, hw⟩ := hw
  refine h.iald (pc := 35) (f := 23) (o := o0) (i := 0) (n := 60) (k_1 5 (by decide) ho0) (fun _ => rfl) hj35 dX0_putNextRow_35 ?_
  refine h.iconst (pc := 36) (v := 1) dX0_putNextRow_36 (by decide) ?_
  refine h.iadd (pc := 37) dX0_putNextRow_37 ?_
  obtain ⟨hj38, hw⟩ := hw
  refine h.iast (pc := 38) (f := 23) (o := o0) (i := 0) (n := 60) (ix := v1) (x := ((M28 23 o0 0 v1.toNatClampNeg) + 1)) (k_1 5 (by decide) ho0) (fun _ => rfl) hj38 dX0_putNextRow_38 (fun M38 e38 => ?_)
  replace hw := hw M38 e38
  refine h.aload_n (pc := 39) dX0_putNextRow_39 rfl 0 rfl ?_
  refine h.getf (pc := 40) (f := 3) (o := o0) (i := 0) (ci := 0) (C := RX0) (T := TX0) (N := 14) (j := 10) (v := .ref (gA G (25, o0, 0))) (k_1 5 (by decide) ho0) rfl rfl (by decide) inX0_putNextRow_RX0 kX0_putNextRow_33 rfl dX0_putNextRow_40 ?_
  refine h.iload_n (pc := 43) dX0_putNextRow_43 rfl 1 rfl ?_
  refine h.dup2 (pc := 44) dX0_putNextRow_44 rfl rfl ?_
  obtain ⟨hj45, hw⟩ := hw
  refine h.iald (pc := 45) (f := 25) (o := o0) (i := 0) (n := 60) (k_1 5 (by decide) ho0) (fun _ => rfl) hj45 dX0_putNextRow_45 ?_
  refine h.aload_n (pc := 46) dX0_putNextRow_46 rfl 0 rfl ?_
  refine h.getf (pc := 47) (f := 3) (o := o0) (i := 0) (ci := 0) (C := RX0) (T := TX0) (N := 14) (j := 3) (v := .ref (gA G (19, o0, 0))) (k_1 5 (by decide) ho0) rfl rfl (by decide) inX0_putNextRow_RX0 kX0_putNextRow_15 rfl dX0_putNextRow_47 ?_
  refine h.aload_n (pc := 50) dX0_putNextRow_50 rfl 0 rfl ?_
  refine h.getf (pc := 51) (f := 3) (o := o0) (i := 0) (ci := 0) (C := RX0) (T := TX0) (N := 14) (j := 12) (v := .int (M38 3 o0 0 12)) (k_1 5 (by decide) ho0) rfl rfl (by decide) inX0_putNextRow_RX0 kX0_putNextRow_58 rfl dX0_putNextRow_51 ?_
  obtain ⟨hj54, hw⟩ := hw
  refine h.iald (pc := 54) (f := 19) (o := o0) (i := 0) (n := 30) (k_1 5 (by decide) ho0) (fun _ => rfl) hj54 dX0_putNextRow_54 ?_
  refine h.isub (pc := 55) dX0_putNextRow_55 ?_
  obtain ⟨hj56, hw⟩ := hw
  refine h.iast (pc := 56) (f := 25) (o := o0) (i := 0) (n := 60) (ix := v1) (x := ((M38 25 o0 0 v1.toNatClampNeg) - (M38 19 o0 0 (M38 3 o0 0 12).toNatClampNeg))) (k_1 5 (by decide) ho0) (fun _ => rfl) hj56 dX0_putNextRow_56 (fun M56 e56 => ?_)
  replace hw := hw M56 e56
  exact hr _ _ _ dX0_putNextRow_57 hw
def wp_X0_putNextRow (o0 : Nat) (v1 : Int32) (M : Mem) (Q : Mem → Prop) : Prop := (vp_in v1 60 ∧ (((M 23 o0 0 v1.toNatClampNeg) = 0 → (vp_in v1 60 ∧ (∀ M18 : Mem, M18 = sM M 22 o0 0 v1.toNatClampNeg (M 3 o0 0 12) → wp_X0_putNextRow_L19 o0 v1 Q M18))) ∧ (¬ ((M 23 o0 0 v1.toNatClampNeg) = 0) → wp_X0_putNextRow_L19 o0 v1 Q M)))
set_option maxHeartbeats 4000000 in
set_option maxRecDepth 100000 in
theorem m_X0_putNextRow {l : Launch} {G : GG} (hG : GoodG G) {o0 : Nat} {v1 : Int32}  {M : Mem} {Q : Mem → Prop} (ho0 : o0 < 5) (hw : wp_X0_putNextRow o0 v1 M Q) : CTv l G yX0_putNextRow wsX0_putNextRow F_X0_putNextRow L_X0_putNextRow [.ref (gA G (3, o0, 0)), .int v1] M Q := by
  refine CTv_mk hG (by decide +kernel) rfl (Nat.le_of_ble_eq_true rfl) (fun Z (h : AX l G cX0_putNextRow 2 RX0 wsX0_putNextRow F_X0_putNextRow L_X0_putNextRow Z) hr => ?_)
  show Z 0 [(0, .ref (gA G (3, o0, 0))), (1, .int v1)] [] M
  unfold wp_X0_putNextRow at hw
  refine h.aload_n (pc := 0) dX0_putNextRow_0 rfl 0 rfl ?_
  refine h.getf (pc := 1) (f := 3) (o := o0) (i := 0) (ci := 0) (C := RX0) (T := TX0) (N := 14) (j := 8) (v := .ref (gA G (23, o0, 0))) (k_1 5 (by decide) ho0) rfl rfl (by decide) inX0_putNextRow_RX0 kX0_putNextRow_27 rfl dX0_putNextRow_1 ?_
  refine h.iload_n (pc := 4) dX0_putNextRow_4 rfl 1 rfl ?_
  obtain ⟨hj5, hw⟩ := hw
  refine h.iald (pc := 5) (f := 23) (o := o0) (i := 0) (n := 60) (k_1 5 (by decide) ho0) (fun _ => rfl) hj5 dX0_putNextRow_5 ?_
  refine h.if_ne (pc := 6) 19 dX0_putNextRow_6 (by decide) (fun c6 => ?_) (fun c6 => ?_)
  · replace hw := hw.2 c6
    exact l_X0_putNextRow_L19 h hG hr o0 v1 ho0 M hw
  · replace hw := hw.1 c6
    refine h.aload_n (pc := 9) dX0_putNextRow_9 rfl 0 rfl ?_
    refine h.getf (pc := 10) (f := 3) (o := o0) (i := 0) (ci := 0) (C := RX0) (T := TX0) (N := 14) (j := 7) (v := .ref (gA G (22, o0, 0))) (k_1 5 (by decide) ho0) rfl rfl (by decide) inX0_putNextRow_RX0 kX0_putNextRow_24 rfl dX0_putNextRow_10 ?_
    refine h.iload_n (pc := 13) dX0_putNextRow_13 rfl 1 rfl ?_
    refine h.aload_n (pc := 14) dX0_putNextRow_14 rfl 0 rfl ?_
    refine h.getf (pc := 15) (f := 3) (o := o0) (i := 0) (ci := 0) (C := RX0) (T := TX0) (N := 14) (j := 12) (v := .int (M 3 o0 0 12)) (k_1 5 (by decide) ho0) rfl rfl (by decide) inX0_putNextRow_RX0 kX0_putNextRow_58 rfl dX0_putNextRow_15 ?_
    obtain ⟨hj18, hw⟩ := hw
    refine h.iast (pc := 18) (f := 22) (o := o0) (i := 0) (n := 60) (ix := v1) (x := (M 3 o0 0 12)) (k_1 5 (by decide) ho0) (fun _ => rfl) hj18 dX0_putNextRow_18 (fun M18 e18 => ?_)
    replace hw := hw M18 e18
    exact l_X0_putNextRow_L19 h hG hr o0 v1 ho0 M18 hw
-- X0_heightOfGroup
theorem inX0_heightOfGroup_RX0 : ∀ w ∈ u_ws RX0 TX0 14, w ∈ wsX0_heightOfGroup := by decide +kernel
theorem inX0_heightOfGroup_RX1 : ∀ w ∈ u_ws RX1 TX1 8, w ∈ wsX0_heightOfGroup := by decide +kernel
theorem inX0_heightOfGroup_RX3 : ∀ w ∈ u_ws RX3 TX3 9, w ∈ wsX0_heightOfGroup := by decide +kernel
theorem kX0_heightOfGroup_15 : Cond.fieldLink RX0 15 (TX0 3).1 (TX0 3).2.1 (TX0 3).2.2.1 ∈ wsX0_heightOfGroup := by decide +kernel
abbrev F_X0_heightOfGroup : Nat := 0
abbrev L_X0_heightOfGroup : Nat := 0
theorem hd_X0_heightOfGroup : yX0_heightOfGroup.cls = RX0 ∧ yX0_heightOfGroup.cls ≠ "java/lang/invoke/MethodHandle" ∧ yX0_heightOfGroup.cls ≠ "java/lang/invoke/VarHandle" ∧ (parseMethodDescriptor yX0_heightOfGroup.desc).map (fun d => d.parameters.length) = some 2 := by decide +kernel
def wp_X0_heightOfGroup_L12 (o0 : Nat) (o1 : Nat) (v2 : Int32)  (X : Int32 → Mem → Prop) (Q : Int32 → Mem → Prop) : Nat → Int32 → Int32 → Mem → Prop
  | 0, _, _, _ => False
  | n + 1, v3, v4, M => (((M 1 o1 0 5) ≤ v4 → X v3 M) ∧ (¬ ((M 1 o1 0 5) ≤ v4) → (vp_in (v4 - 1) 30 ∧ (((M 4 o1 ((v4 - 1).toNatClampNeg) 5) = 0 → X v3 M) ∧ (¬ ((M 4 o1 ((v4 - 1).toNatClampNeg) 5) = 0) → (vp_in v4 30 ∧ (wp_X0_heightOfGroup_L12 o0 o1 v2 X Q n) (v3 + (M 19 o0 0 v4.toNatClampNeg)) (v4 + 1) M))))))
set_option maxHeartbeats 4000000 in
set_option maxRecDepth 100000 in
theorem l_X0_heightOfGroup_L12 {l : Launch} {G : GG} {Z : ZT} (h : AX l G cX0_heightOfGroup 5 RX0 wsX0_heightOfGroup F_X0_heightOfGroup L_X0_heightOfGroup Z) (hG : GoodG G) {Q : Int32 → Mem → Prop} (hr : RETi cX0_heightOfGroup Q Z) (o0 : Nat) (o1 : Nat) (v2 : Int32) (ho0 : o0 < 5) (ho1 : o1 < 2)   (X : Int32 → Mem → Prop) (hX : ∀ (v3 : Int32) (M : Mem), X v3 M → Z 52 [(3, .int v3)] [] M) : ∀ (n : Nat) (v3 : Int32) (v4 : Int32) (M : Mem), wp_X0_heightOfGroup_L12 o0 o1 v2 X Q n v3 v4 M → Z 12 [(0, .ref (gA G (3, o0, 0))), (1, .ref (gA G (1, o1, 0))), (3, .int v3), (4, .int v4)] [] M := by
  intro n
  induction n with
  | zero => intro v3 v4 M hw; exact hw.elim
  | succ n ih =>
    intro v3 v4 M hw
    unfold wp_X0_heightOfGroup_L12 at hw
    refine h.iload (pc := 12) dX0_heightOfGroup_12 3 rfl ?_
    refine h.aload_n (pc := 14) dX0_heightOfGroup_14 rfl 1 rfl ?_
    refine h.getN (pc := 15) (f := 1) (o := o1) (i := 0) (ci := 3) (C := RX3) (T := TX3) (N := 9) (j := 5) (v := .int (M 1 o1 0 5)) (k_1 2 (by decide) ho1) rfl rfl (by decide) inX0_heightOfGroup_RX3 (own0 := RX0) (host := "TableWright") rfl nw_22 rfl dX0_heightOfGroup_15 ?_
    refine h.icmp_ge (pc := 18) 52 dX0_heightOfGroup_18 (by decide) (fun c18 => ?_) (fun c18 => ?_)
    · replace hw := hw.1 c18
      refine h.sub (pc := 52) [2] (lv' := [(3, .int v3)]) rfl ?_
      exact hX v3 M hw
    · replace hw := hw.2 c18
      refine h.aload_n (pc := 21) dX0_heightOfGroup_21 rfl 1 rfl ?_
      refine h.getN (pc := 22) (f := 1) (o := o1) (i := 0) (ci := 3) (C := RX3) (T := TX3) (N := 9) (j := 6) (v := .ref (gA G (11, o1, 0))) (k_1 2 (by decide) ho1) rfl rfl (by decide) inX0_heightOfGroup_RX3 (own0 := RX0) (host := "TableWright") rfl nw_25 rfl dX0_heightOfGroup_22 ?_
      refine h.iload (pc := 25) dX0_heightOfGroup_25 3 rfl ?_
      refine h.iconst (pc := 27) (v := 1) dX0_heightOfGroup_27 (by decide) ?_
      refine h.isub (pc := 28) dX0_heightOfGroup_28 ?_
      obtain ⟨hj29, hw⟩ := hw
      refine h.aald (pc := 29) (o := o1) (ix := (v4 - 1)) ho1 hj29 dX0_heightOfGroup_29 ?_
      refine h.getN (pc := 30) (f := 4) (o := o1) (i := (v4 - 1).toNatClampNeg) (ci := 1) (C := RX1) (T := TX1) (N := 8) (j := 5) (v := .int (M 4 o1 ((v4 - 1).toNatClampNeg) 5)) (k_2 (by decide) ho1 (vin_lt hj29)) rfl rfl (by decide) inX0_heightOfGroup_RX1 (own0 := RX0) (host := "TableWright") rfl nw_13 rfl dX0_heightOfGroup_30 ?_
      refine h.if_eq (pc := 33) 52 dX0_heightOfGroup_33 (by decide) (fun c33 => ?_) (fun c33 => ?_)
      · replace hw := hw.1 c33
        refine h.sub (pc := 52) [2] (lv' := [(3, .int v3)]) rfl ?_
        exact hX v3 M hw
      · replace hw := hw.2 c33
        refine h.iload_n (pc := 36) dX0_heightOfGroup_36 rfl 2 rfl ?_
        refine h.aload_n (pc := 37) dX0_heightOfGroup_37 rfl 0 rfl ?_
        refine h.getf (pc := 38) (f := 3) (o := o0) (i := 0) (ci := 0) (C := RX0) (T := TX0) (N := 14) (j := 3) (v := .ref (gA G (19, o0, 0))) (k_1 5 (by decide) ho0) rfl rfl (by decide) inX0_heightOfGroup_RX0 kX0_heightOfGroup_15 rfl dX0_heightOfGroup_38 ?_
        refine h.iload (pc := 41) dX0_heightOfGroup_41 3 rfl ?_
        obtain ⟨hj43, hw⟩ := hw
        refine h.iald (pc := 43) (f := 19) (o := o0) (i := 0) (n := 30) (k_1 5 (by decide) ho0) (fun _ => rfl) hj43 dX0_heightOfGroup_43 ?_
        refine h.iadd (pc := 44) dX0_heightOfGroup_44 ?_
        refine h.istore_n (pc := 45) [(3, .int (v3 + (M 19 o0 0 v4.toNatClampNeg))), (0, .ref (gA G (3, o0, 0))), (1, .ref (gA G (1, o1, 0))), (4, .int v4)] dX0_heightOfGroup_45 rfl (by decide) rfl ?_
        refine h.iinc (pc := 46) [(4, .int (v4 + 1)), (3, .int (v3 + (M 19 o0 0 v4.toNatClampNeg))), (0, .ref (gA G (3, o0, 0))), (1, .ref (gA G (1, o1, 0)))] dX0_heightOfGroup_46 3 rfl (inc_ (by decide)) (by decide) rfl ?_
        refine h.goto (pc := 49) 12 dX0_heightOfGroup_49 (by decide) ?_
        refine h.sub (pc := 12) [2, 3, 1, 0] (lv' := [(0, .ref (gA G (3, o0, 0))), (1, .ref (gA G (1, o1, 0))), (3, .int (v3 + (M 19 o0 0 v4.toNatClampNeg))), (4, .int (v4 + 1))]) rfl ?_
        exact ih (v3 + (M 19 o0 0 v4.toNatClampNeg)) (v4 + 1) M hw
def wp_X0_heightOfGroup (o0 : Nat) (o1 : Nat) (v2 : Int32) (M : Mem) (Q : Int32 → Mem → Prop) : Prop := (vp_in v2 30 ∧ ∃ n12, wp_X0_heightOfGroup_L12 o0 o1 v2 (fun v3 M => Q v3 M) Q n12 (M 19 o0 0 v2.toNatClampNeg) (v2 + 1) M)
set_option maxHeartbeats 4000000 in
set_option maxRecDepth 100000 in
theorem m_X0_heightOfGroup {l : Launch} {G : GG} (hG : GoodG G) {o0 : Nat} {o1 : Nat} {v2 : Int32}  {M : Mem} {Q : Int32 → Mem → Prop} (ho0 : o0 < 5) (ho1 : o1 < 2) (hw : wp_X0_heightOfGroup o0 o1 v2 M Q) : CTi l G yX0_heightOfGroup wsX0_heightOfGroup F_X0_heightOfGroup L_X0_heightOfGroup [.ref (gA G (3, o0, 0)), .ref (gA G (1, o1, 0)), .int v2] M Q := by
  refine CTi_mk hG (by decide +kernel) rfl (Nat.le_of_ble_eq_true rfl) (fun Z (h : AX l G cX0_heightOfGroup 5 RX0 wsX0_heightOfGroup F_X0_heightOfGroup L_X0_heightOfGroup Z) hr => ?_)
  show Z 0 [(0, .ref (gA G (3, o0, 0))), (1, .ref (gA G (1, o1, 0))), (2, .int v2)] [] M
  unfold wp_X0_heightOfGroup at hw
  refine h.aload_n (pc := 0) dX0_heightOfGroup_0 rfl 0 rfl ?_
  refine h.getf (pc := 1) (f := 3) (o := o0) (i := 0) (ci := 0) (C := RX0) (T := TX0) (N := 14) (j := 3) (v := .ref (gA G (19, o0, 0))) (k_1 5 (by decide) ho0) rfl rfl (by decide) inX0_heightOfGroup_RX0 kX0_heightOfGroup_15 rfl dX0_heightOfGroup_1 ?_
  refine h.iload_n (pc := 4) dX0_heightOfGroup_4 rfl 2 rfl ?_
  obtain ⟨hj5, hw⟩ := hw
  refine h.iald (pc := 5) (f := 19) (o := o0) (i := 0) (n := 30) (k_1 5 (by decide) ho0) (fun _ => rfl) hj5 dX0_heightOfGroup_5 ?_
  refine h.istore_n (pc := 6) [(3, .int (M 19 o0 0 v2.toNatClampNeg)), (0, .ref (gA G (3, o0, 0))), (1, .ref (gA G (1, o1, 0))), (2, .int v2)] dX0_heightOfGroup_6 rfl (by decide) rfl ?_
  refine h.iload_n (pc := 7) dX0_heightOfGroup_7 rfl 3 rfl ?_
  refine h.iconst (pc := 8) (v := 1) dX0_heightOfGroup_8 (by decide) ?_
  refine h.iadd (pc := 9) dX0_heightOfGroup_9 ?_
  refine h.istore (pc := 10) [(4, .int (v2 + 1)), (3, .int (M 19 o0 0 v2.toNatClampNeg)), (0, .ref (gA G (3, o0, 0))), (1, .ref (gA G (1, o1, 0))), (2, .int v2)] dX0_heightOfGroup_10 (by decide) rfl ?_
  refine h.sub (pc := 12) [2, 3, 1, 0] (lv' := [(0, .ref (gA G (3, o0, 0))), (1, .ref (gA G (1, o1, 0))), (3, .int (M 19 o0 0 v2.toNatClampNeg)), (4, .int (v2 + 1))]) rfl ?_
  obtain ⟨n12, hw⟩ := hw
  exact l_X0_heightOfGroup_L12 h hG hr o0 o1 v2 ho0 ho1 _ (fun v3 M hw => by
      refine h.iload_n (pc := 52) dX0_heightOfGroup_52 rfl 0 rfl ?_
      exact hr _ _ _ _ dX0_heightOfGroup_53 hw) n12 (M 19 o0 0 v2.toNatClampNeg) (v2 + 1) M hw
-- X0_hasRoomForNextRow
theorem inX0_hasRoomForNextRow_RX0 : ∀ w ∈ u_ws RX0 TX0 14, w ∈ wsX0_hasRoomForNextRow := by decide +kernel
theorem inX0_hasRoomForNextRow_RX1 : ∀ w ∈ u_ws RX1 TX1 8, w ∈ wsX0_hasRoomForNextRow := by decide +kernel
theorem inX0_hasRoomForNextRow_RX3 : ∀ w ∈ u_ws RX3 TX3 9, w ∈ wsX0_hasRoomForNextRow := by decide +kernel
theorem kX0_hasRoomForNextRow_15 : Cond.fieldLink RX0 15 (TX0 3).1 (TX0 3).2.1 (TX0 3).2.2.1 ∈ wsX0_hasRoomForNextRow := by decide +kernel
theorem kX0_hasRoomForNextRow_58 : Cond.fieldLink RX0 58 (TX0 12).1 (TX0 12).2.1 (TX0 12).2.2.1 ∈ wsX0_hasRoomForNextRow := by decide +kernel
theorem kX0_hasRoomForNextRow_33 : Cond.fieldLink RX0 33 (TX0 10).1 (TX0 10).2.1 (TX0 10).2.2.1 ∈ wsX0_hasRoomForNextRow := by decide +kernel
theorem kX0_hasRoomForNextRow_27 : Cond.fieldLink RX0 27 (TX0 8).1 (TX0 8).2.1 (TX0 8).2.2.1 ∈ wsX0_hasRoomForNextRow := by decide +kernel
theorem kX0_hasRoomForNextRow_39 : Cond.fieldLink RX0 39 (TX0 1).1 (TX0 1).2.1 (TX0 1).2.2.1 ∈ wsX0_hasRoomForNextRow := by decide +kernel
abbrev F_X0_hasRoomForNextRow : Nat := 1
abbrev L_X0_hasRoomForNextRow : Nat := 24
theorem hd_X0_hasRoomForNextRow : yX0_hasRoomForNextRow.cls = RX0 ∧ yX0_hasRoomForNextRow.cls ≠ "java/lang/invoke/MethodHandle" ∧ yX0_hasRoomForNextRow.cls ≠ "java/lang/invoke/VarHandle" ∧ (parseMethodDescriptor yX0_hasRoomForNextRow.desc).map (fun d => d.parameters.length) = some 2 := by decide +kernel
def wp_X0_hasRoomForNextRow_L49 (o0 : Nat) (o1 : Nat) (v2 : Int32)  (Q : Int32 → Mem → Prop) (t0 : Int32) (M : Mem) : Prop := (vp_in v2 60 ∧ (((M 23 o0 0 v2.toNatClampNeg) = 0 → Q 1 M) ∧ (¬ ((M 23 o0 0 v2.toNatClampNeg) = 0) → ((t0 = 0 → (wp_X0_heightOfGroup o0 o1 (M 3 o0 0 12) M (fun r71 M71 => (vp_in v2 60 ∧ ((r71 ≤ (M71 25 o0 0 v2.toNatClampNeg) → Q 1 M71) ∧ (¬ (r71 ≤ (M71 25 o0 0 v2.toNatClampNeg)) → ((r71 ≤ (M71 3 o0 0 1) → Q 0 M71) ∧ (¬ (r71 ≤ (M71 3 o0 0 1)) → Q 1 M71)))))))) ∧ (¬ (t0 = 0) → Q 1 M)))))
set_option maxHeartbeats 4000000 in
set_option maxRecDepth 100000 in
theorem l_X0_hasRoomForNextRow_L49 {l : Launch} {G : GG} {Z : ZT} (h : AX l G cX0_hasRoomForNextRow 5 RX0 wsX0_hasRoomForNextRow F_X0_hasRoomForNextRow L_X0_hasRoomForNextRow Z) (hG : GoodG G) {Q : Int32 → Mem → Prop} (hr : RETz cX0_hasRoomForNextRow Q Z) (o0 : Nat) (o1 : Nat) (v2 : Int32) (ho0 : o0 < 5) (ho1 : o1 < 2) (t0 : Int32)  (M : Mem) (hw : wp_X0_hasRoomForNextRow_L49 o0 o1 v2 Q t0 M) : Z 49 [(0, .ref (gA G (3, o0, 0))), (1, .ref (gA G (1, o1, 0))), (2, .int v2)] [.int t0] M := by
  unfold wp_X0_hasRoomForNextRow_L49 at hw
  refine h.istore_n (pc := 49) [(3, .int t0), (0, .ref (gA G (3, o0, 0))), (1, .ref (gA G (1, o1, 0))), (2, .int v2)] dX0_hasRoomForNextRow_49 rfl (by decide) rfl ?_
  refine h.aload_n (pc := 50) dX0_hasRoomForNextRow_50 rfl 1 rfl ?_
  refine h.getf (pc := 51) (f := 3) (o := o0) (i := 0) (ci := 0) (C := RX0) (T := TX0) (N := 14) (j := 8) (v := .ref (gA G (23, o0, 0))) (k_1 5 (by decide) ho0) rfl rfl (by decide) inX0_hasRoomForNextRow_RX0 kX0_hasRoomForNextRow_27 rfl dX0_hasRoomForNextRow_51 ?_
  refine h.iload_n (pc := 54) dX0_hasRoomForNextRow_54 rfl 3 rfl ?_
  obtain ⟨hj55, hw⟩ := hw
  refine h.iald (pc := 55) (f := 23) (o := o0) (i := 0) (n := 60) (k_1 5 (by decide) ho0) (fun _ => rfl) hj55 dX0_hasRoomForNextRow_55 ?_
  refine h.if_eq (pc := 56) 63 dX0_hasRoomForNextRow_56 (by decide) (fun c56 => ?_) (fun c56 => ?_)
  · replace hw := hw.1 c56
    refine h.iconst (pc := 63) (v := 1) dX0_hasRoomForNextRow_63 (by decide) ?_
    exact hr _ _ _ _ dX0_hasRoomForNextRow_64 zb_1 hw
  · replace hw := hw.2 c56
    refine h.iload_n (pc := 59) dX0_hasRoomForNextRow_59 rfl 0 rfl ?_
    refine h.if_eq (pc := 60) 65 dX0_hasRoomForNextRow_60 (by decide) (fun c60 => ?_) (fun c60 => ?_)
    · replace hw := hw.1 c60
      refine h.aload_n (pc := 65) dX0_hasRoomForNextRow_65 rfl 1 rfl ?_
      refine h.aload_n (pc := 66) dX0_hasRoomForNextRow_66 rfl 2 rfl ?_
      refine h.aload_n (pc := 67) dX0_hasRoomForNextRow_67 rfl 1 rfl ?_
      refine h.getf (pc := 68) (f := 3) (o := o0) (i := 0) (ci := 0) (C := RX0) (T := TX0) (N := 14) (j := 12) (v := .int (M 3 o0 0 12)) (k_1 5 (by decide) ho0) rfl rfl (by decide) inX0_hasRoomForNextRow_RX0 kX0_hasRoomForNextRow_58 rfl dX0_hasRoomForNextRow_68 ?_
      refine h.cVi (pc := 71) [.ref (gA G (1, o1, 0)), .int (M 3 o0 0 12)] (3, o0, 0) [] (m_X0_heightOfGroup hG ho0 ho1 hw) gX0_hasRoomForNextRow_X0_heightOfGroup rfl hd_X0_heightOfGroup (by decide) (k_1 5 (by decide) ho0) rfl rfl rfl rfl rfl (Nat.le_of_ble_eq_true rfl) dX0_hasRoomForNextRow_71 (fun r71 M71 hw => ?_)
      refine h.istore (pc := 74) [(4, .int r71), (3, .int t0), (0, .ref (gA G (3, o0, 0))), (1, .ref (gA G (1, o1, 0))), (2, .int v2)] dX0_hasRoomForNextRow_74 (by decide) rfl ?_
      refine h.iload (pc := 76) dX0_hasRoomForNextRow_76 0 rfl ?_
      refine h.aload_n (pc := 78) dX0_hasRoomForNextRow_78 rfl 2 rfl ?_
      refine h.getf (pc := 79) (f := 3) (o := o0) (i := 0) (ci := 0) (C := RX0) (T := TX0) (N := 14) (j := 10) (v := .ref (gA G (25, o0, 0))) (k_1 5 (by decide) ho0) rfl rfl (by decide) inX0_hasRoomForNextRow_RX0 kX0_hasRoomForNextRow_33 rfl dX0_hasRoomForNextRow_79 ?_
      refine h.iload_n (pc := 82) dX0_hasRoomForNextRow_82 rfl 4 rfl ?_
      obtain ⟨hj83, hw⟩ := hw
      refine h.iald (pc := 83) (f := 25) (o := o0) (i := 0) (n := 60) (k_1 5 (by decide) ho0) (fun _ => rfl) hj83 dX0_hasRoomForNextRow_83 ?_
      refine h.icmp_le (pc := 84) 96 dX0_hasRoomForNextRow_84 (by decide) (fun c84 => ?_) (fun c84 => ?_)
      · replace hw := hw.1 c84
        refine h.iconst (pc := 96) (v := 1) dX0_hasRoomForNextRow_96 (by decide) ?_
        refine h.goto (pc := 97) 101 dX0_hasRoomForNextRow_97 (by decide) ?_
        exact hr _ _ _ _ dX0_hasRoomForNextRow_101 zb_1 hw
      · replace hw := hw.2 c84
        refine h.iload (pc := 87) dX0_hasRoomForNextRow_87 0 rfl ?_
        refine h.aload_n (pc := 89) dX0_hasRoomForNextRow_89 rfl 2 rfl ?_
        refine h.getf (pc := 90) (f := 3) (o := o0) (i := 0) (ci := 0) (C := RX0) (T := TX0) (N := 14) (j := 1) (v := .int (M71 3 o0 0 1)) (k_1 5 (by decide) ho0) rfl rfl (by decide) inX0_hasRoomForNextRow_RX0 kX0_hasRoomForNextRow_39 rfl dX0_hasRoomForNextRow_90 ?_
        refine h.icmp_le (pc := 93) 100 dX0_hasRoomForNextRow_93 (by decide) (fun c93 => ?_) (fun c93 => ?_)
        · replace hw := hw.1 c93
          refine h.iconst (pc := 100) (v := 0) dX0_hasRoomForNextRow_100 (by decide) ?_
          exact hr _ _ _ _ dX0_hasRoomForNextRow_101 zb_0 hw
        · replace hw := hw.2 c93
          refine h.iconst (pc := 96) (v := 1) dX0_hasRoomForNextRow_96 (by decide) ?_
          refine h.goto (pc := 97) 101 dX0_hasRoomForNextRow_97 (by decide) ?_
          exact hr _ _ _ _ dX0_hasRoomForNextRow_101 zb_1 hw
    · replace hw := hw.2 c60
      refine h.iconst (pc := 63) (v := 1) dX0_hasRoomForNextRow_63 (by decide) ?_
      exact hr _ _ _ _ dX0_hasRoomForNextRow_64 zb_1 hw
def wp_X0_hasRoomForNextRow_L48 (o0 : Nat) (o1 : Nat) (v2 : Int32)  (Q : Int32 → Mem → Prop)  (M : Mem) : Prop := wp_X0_hasRoomForNextRow_L49 o0 o1 v2 Q 0 M
set_option maxHeartbeats 4000000 in
set_option maxRecDepth 100000 in
theorem l_X0_hasRoomForNextRow_L48 {l : Launch} {G : GG} {Z : ZT} (h : AX l G cX0_hasRoomForNextRow 5 RX0 wsX0_hasRoomForNextRow F_X0_hasRoomForNextRow L_X0_hasRoomForNextRow Z) (hG : GoodG G) {Q : Int32 → Mem → Prop} (hr : RETz cX0_hasRoomForNextRow Q Z) (o0 : Nat) (o1 : Nat) (v2 : Int32) (ho0 : o0 < 5) (ho1 : o1 < 2)   (M : Mem) (hw : wp_X0_hasRoomForNextRow_L48 o0 o1 v2 Q M) : Z 48 [(0, .ref (gA G (3, o0, 0))), (1, .ref (gA G (1, o1, 0))), (2, .int v2)] [] M := by
  unfold wp_X0_hasRoomForNextRow_L48 at hw
  refine h.iconst (pc := 48) (v := 0) dX0_hasRoomForNextRow_48 (by decide) ?_
  exact l_X0_hasRoomForNextRow_L49 h hG hr o0 o1 v2 ho0 ho1 0 M hw
def wp_X0_hasRoomForNextRow (o0 : Nat) (o1 : Nat) (v2 : Int32) (M : Mem) (Q : Int32 → Mem → Prop) : Prop := (vp_in (M 3 o0 0 12) 30 ∧ (vp_in v2 60 ∧ (((M 19 o0 0 (M 3 o0 0 12).toNatClampNeg) ≤ (M 25 o0 0 v2.toNatClampNeg) → (((M 3 o0 0 12) ≤ 0 → wp_X0_hasRoomForNextRow_L48 o0 o1 v2 Q M) ∧ (¬ ((M 3 o0 0 12) ≤ 0) → (vp_in ((M 3 o0 0 12) - 1) 30 ∧ (((M 4 o1 (((M 3 o0 0 12) - 1).toNatClampNeg) 5) = 0 → wp_X0_hasRoomForNextRow_L48 o0 o1 v2 Q M) ∧ (¬ ((M 4 o1 (((M 3 o0 0 12) - 1).toNatClampNeg) 5) = 0) → wp_X0_hasRoomForNextRow_L49 o0 o1 v2 Q 1 M)))))) ∧ (¬ ((M 19 o0 0 (M 3 o0 0 12).toNatClampNeg) ≤ (M 25 o0 0 v2.toNatClampNeg)) → Q 0 M))))
set_option maxHeartbeats 4000000 in
set_option maxRecDepth 100000 in
theorem m_X0_hasRoomForNextRow {l : Launch} {G : GG} (hG : GoodG G) {o0 : Nat} {o1 : Nat} {v2 : Int32}  {M : Mem} {Q : Int32 → Mem → Prop} (ho0 : o0 < 5) (ho1 : o1 < 2) (hw : wp_X0_hasRoomForNextRow o0 o1 v2 M Q) : CTi l G yX0_hasRoomForNextRow wsX0_hasRoomForNextRow F_X0_hasRoomForNextRow L_X0_hasRoomForNextRow [.ref (gA G (3, o0, 0)), .ref (gA G (1, o1, 0)), .int v2] M Q := by
  refine CTz_mk hG (by decide +kernel) rfl (Nat.le_of_ble_eq_true rfl) (fun Z (h : AX l G cX0_hasRoomForNextRow 5 RX0 wsX0_hasRoomForNextRow F_X0_hasRoomForNextRow L_X0_hasRoomForNextRow Z) hr => ?_)
  show Z 0 [(0, .ref (gA G (3, o0, 0))), (1, .ref (gA G (1, o1, 0))), (2, .int v2)] [] M
  unfold wp_X0_hasRoomForNextRow at hw
  refine h.aload_n (pc := 0) dX0_hasRoomForNextRow_0 rfl 0 rfl ?_
  refine h.getf (pc := 1) (f := 3) (o := o0) (i := 0) (ci := 0) (C := RX0) (T := TX0) (N := 14) (j := 3) (v := .ref (gA G (19, o0, 0))) (k_1 5 (by decide) ho0) rfl rfl (by decide) inX0_hasRoomForNextRow_RX0 kX0_hasRoomForNextRow_15 rfl dX0_hasRoomForNextRow_1 ?_
  refine h.aload_n (pc := 4) dX0_hasRoomForNextRow_4 rfl 0 rfl ?_
  refine h.getf (pc := 5) (f := 3) (o := o0) (i := 0) (ci := 0) (C := RX0) (T := TX0) (N := 14) (j := 12) (v := .int (M 3 o0 0 12)) (k_1 5 (by decide) ho0) rfl rfl (by decide) inX0_hasRoomForNextRow_RX0 kX0_hasRoomForNextRow_58 rfl dX0_hasRoomForNextRow_5 ?_
  obtain ⟨hj8, hw⟩ := hw
  refine h.iald (pc := 8) (f := 19) (o := o0) (i := 0) (n := 30) (k_1 5 (by decide) ho0) (fun _ => rfl) hj8 dX0_hasRoomForNextRow_8 ?_
  refine h.aload_n (pc := 9) dX0_hasRoomForNextRow_9 rfl 0 rfl ?_
  refine h.getf (pc := 10) (f := 3) (o := o0) (i := 0) (ci := 0) (C := RX0) (T := TX0) (N := 14) (j := 10) (v := .ref (gA G (25, o0, 0))) (k_1 5 (by decide) ho0) rfl rfl (by decide) inX0_hasRoomForNextRow_RX0 kX0_hasRoomForNextRow_33 rfl dX0_hasRoomForNextRow_10 ?_
  refine h.iload_n (pc := 13) dX0_hasRoomForNextRow_13 rfl 2 rfl ?_
  obtain ⟨hj14, hw⟩ := hw
  refine h.iald (pc := 14) (f := 25) (o := o0) (i := 0) (n := 60) (k_1 5 (by decide) ho0) (fun _ => rfl) hj14 dX0_hasRoomForNextRow_14 ?_
  refine h.icmp_le (pc := 15) 20 dX0_hasRoomForNextRow_15 (by decide) (fun c15 => ?_) (fun c15 => ?_)
  · replace hw := hw.1 c15
    refine h.aload_n (pc := 20) dX0_hasRoomForNextRow_20 rfl 0 rfl ?_
    refine h.getf (pc := 21) (f := 3) (o := o0) (i := 0) (ci := 0) (C := RX0) (T := TX0) (N := 14) (j := 12) (v := .int (M 3 o0 0 12)) (k_1 5 (by decide) ho0) rfl rfl (by decide) inX0_hasRoomForNextRow_RX0 kX0_hasRoomForNextRow_58 rfl dX0_hasRoomForNextRow_21 ?_
    refine h.if_le (pc := 24) 48 dX0_hasRoomForNextRow_24 (by decide) (fun c24 => ?_) (fun c24 => ?_)
    · replace hw := hw.1 c24
      exact l_X0_hasRoomForNextRow_L48 h hG hr o0 o1 v2 ho0 ho1 M hw
    · replace hw := hw.2 c24
      refine h.aload_n (pc := 27) dX0_hasRoomForNextRow_27 rfl 1 rfl ?_
      refine h.getN (pc := 28) (f := 1) (o := o1) (i := 0) (ci := 3) (C := RX3) (T := TX3) (N := 9) (j := 6) (v := .ref (gA G (11, o1, 0))) (k_1 2 (by decide) ho1) rfl rfl (by decide) inX0_hasRoomForNextRow_RX3 (own0 := RX0) (host := "TableWright") rfl nw_25 rfl dX0_hasRoomForNextRow_28 ?_
      refine h.aload_n (pc := 31) dX0_hasRoomForNextRow_31 rfl 0 rfl ?_
      refine h.getf (pc := 32) (f := 3) (o := o0) (i := 0) (ci := 0) (C := RX0) (T := TX0) (N := 14) (j := 12) (v := .int (M 3 o0 0 12)) (k_1 5 (by decide) ho0) rfl rfl (by decide) inX0_hasRoomForNextRow_RX0 kX0_hasRoomForNextRow_58 rfl dX0_hasRoomForNextRow_32 ?_
      refine h.iconst (pc := 35) (v := 1) dX0_hasRoomForNextRow_35 (by decide) ?_
      refine h.isub (pc := 36) dX0_hasRoomForNextRow_36 ?_
      obtain ⟨hj37, hw⟩ := hw
      refine h.aald (pc := 37) (o := o1) (ix := ((M 3 o0 0 12) - 1)) ho1 hj37 dX0_hasRoomForNextRow_37 ?_
      refine h.getN (pc := 38) (f := 4) (o := o1) (i := ((M 3 o0 0 12) - 1).toNatClampNeg) (ci := 1) (C := RX1) (T := TX1) (N := 8) (j := 5) (v := .int (M 4 o1 (((M 3 o0 0 12) - 1).toNatClampNeg) 5)) (k_2 (by decide) ho1 (vin_lt hj37)) rfl rfl (by decide) inX0_hasRoomForNextRow_RX1 (own0 := RX0) (host := "TableWright") rfl nw_13 rfl dX0_hasRoomForNextRow_38 ?_
      refine h.if_eq (pc := 41) 48 dX0_hasRoomForNextRow_41 (by decide) (fun c41 => ?_) (fun c41 => ?_)
      · replace hw := hw.1 c41
        exact l_X0_hasRoomForNextRow_L48 h hG hr o0 o1 v2 ho0 ho1 M hw
      · replace hw := hw.2 c41
        refine h.iconst (pc := 44) (v := 1) dX0_hasRoomForNextRow_44 (by decide) ?_
        refine h.goto (pc := 45) 49 dX0_hasRoomForNextRow_45 (by decide) ?_
        exact l_X0_hasRoomForNextRow_L49 h hG hr o0 o1 v2 ho0 ho1 1 M hw
  · replace hw := hw.2 c15
    refine h.iconst (pc := 18) (v := 0) dX0_hasRoomForNextRow_18 (by decide) ?_
    exact hr _ _ _ _ dX0_hasRoomForNextRow_19 zb_0 hw
-- X0_putWaitingNotes
theorem inX0_putWaitingNotes_RX0 : ∀ w ∈ u_ws RX0 TX0 14, w ∈ wsX0_putWaitingNotes := by decide +kernel
theorem inX0_putWaitingNotes_RX1 : ∀ w ∈ u_ws RX1 TX1 8, w ∈ wsX0_putWaitingNotes := by decide +kernel
theorem inX0_putWaitingNotes_RX3 : ∀ w ∈ u_ws RX3 TX3 9, w ∈ wsX0_putWaitingNotes := by decide +kernel
theorem kX0_putWaitingNotes_61 : Cond.fieldLink RX0 61 (TX0 13).1 (TX0 13).2.1 (TX0 13).2.2.1 ∈ wsX0_putWaitingNotes := by decide +kernel
theorem kX0_putWaitingNotes_58 : Cond.fieldLink RX0 58 (TX0 12).1 (TX0 12).2.1 (TX0 12).2.2.1 ∈ wsX0_putWaitingNotes := by decide +kernel
theorem kX0_putWaitingNotes_33 : Cond.fieldLink RX0 33 (TX0 10).1 (TX0 10).2.1 (TX0 10).2.2.1 ∈ wsX0_putWaitingNotes := by decide +kernel
theorem kX0_putWaitingNotes_21 : Cond.fieldLink RX0 21 (TX0 5).1 (TX0 5).2.1 (TX0 5).2.2.1 ∈ wsX0_putWaitingNotes := by decide +kernel
theorem kX0_putWaitingNotes_30 : Cond.fieldLink RX0 30 (TX0 9).1 (TX0 9).2.1 (TX0 9).2.2.1 ∈ wsX0_putWaitingNotes := by decide +kernel
abbrev F_X0_putWaitingNotes : Nat := 0
abbrev L_X0_putWaitingNotes : Nat := 0
theorem hd_X0_putWaitingNotes : yX0_putWaitingNotes.cls = RX0 ∧ yX0_putWaitingNotes.cls ≠ "java/lang/invoke/MethodHandle" ∧ yX0_putWaitingNotes.cls ≠ "java/lang/invoke/VarHandle" ∧ (parseMethodDescriptor yX0_putWaitingNotes.desc).map (fun d => d.parameters.length) = some 2 := by decide +kernel
def wp_X0_putWaitingNotes_L89 (o0 : Nat) (o1 : Nat) (v2 : Int32) (B : Mem → Prop) (X : Mem → Prop) (Q : Mem → Prop)  (M : Mem) : Prop := (∀ M96 : Mem, M96 = sM M 3 o0 0 13 ((M 3 o0 0 13) + 1) → B M96)
set_option maxHeartbeats 4000000 in
set_option maxRecDepth 100000 in
theorem l_X0_putWaitingNotes_L89 {l : Launch} {G : GG} {Z : ZT} (h : AX l G cX0_putWaitingNotes 4 RX0 wsX0_putWaitingNotes F_X0_putWaitingNotes L_X0_putWaitingNotes Z) (hG : GoodG G) {Q : Mem → Prop} (hr : RETv cX0_putWaitingNotes Q Z) (o0 : Nat) (o1 : Nat) (v2 : Int32) (ho0 : o0 < 5) (ho1 : o1 < 2)   {B : Mem → Prop} (hB : ∀  (M : Mem), B  M → Z 0 [(0, .ref (gA G (3, o0, 0))), (1, .ref (gA G (1, o1, 0))), (2, .int v2)] [] M) {X : Mem → Prop} (hX : ∀  (M : Mem), X  M → Z 102 [] [] M) (M : Mem) (hw : wp_X0_putWaitingNotes_L89 o0 o1 v2 B X Q M) : Z 89 [(0, .ref (gA G (3, o0, 0))), (1, .ref (gA G (1, o1, 0))), (2, .int v2)] [] M := by
  unfold wp_X0_putWaitingNotes_L89 at hw
  refine h.aload_n (pc := 89) dX0_putWaitingNotes_89 rfl 0 rfl ?_
  refine h.dup (pc := 90) dX0_putWaitingNotes_90 rfl ?_
  refine h.getf (pc := 91) (f := 3) (o := o0) (i := 0) (ci := 0) (C := RX0) (T := TX0) (N := 14) (j := 13) (v := .int (M 3 o0 0 13)) (k_1 5 (by decide) ho0) rfl rfl (by decide) inX0_putWaitingNotes_RX0 kX0_putWaitingNotes_61 rfl dX0_putWaitingNotes_91 ?_
  refine h.iconst (pc := 94) (v := 1) dX0_putWaitingNotes_94 (by decide) ?_
  refine h.iadd (pc := 95) dX0_putWaitingNotes_95 ?_
  refine h.putf (pc := 96) (f := 3) (o := o0) (i := 0) (ci := 0) (C := RX0) (T := TX0) (N := 14) (j := 13) (ty := .int) (ty0 := tyX0) (x := ((M 3 o0 0 13) + 1)) (k_1 5 (by decide) ho0) rfl rfl (by decide) inX0_putWaitingNotes_RX0 tyX0_ok nmX0 kX0_putWaitingNotes_61 rfl (tyX0_ok 13 (by decide)) rfl rfl (Nat.le_of_ble_eq_true rfl) rfl dX0_putWaitingNotes_96 (fun M96 e96 => ?_)
  replace hw := hw M96 e96
  refine h.goto (pc := 99) 0 dX0_putWaitingNotes_99 (by decide) ?_
  exact hB M96 hw
def wp_X0_putWaitingNotes_L0 (o0 : Nat) (o1 : Nat) (v2 : Int32)  (X : Mem → Prop) (Q : Mem → Prop) : Nat → Mem → Prop
  | 0, _ => False
  | n + 1, M => (((M 3 o0 0 12) ≤ (M 3 o0 0 13) → X M) ∧ (¬ ((M 3 o0 0 12) ≤ (M 3 o0 0 13)) → (vp_in (M 3 o0 0 13) 30 ∧ (vp_in v2 60 ∧ (((M 25 o0 0 v2.toNatClampNeg) < (M 4 o1 ((M 3 o0 0 13).toNatClampNeg) 4) → X M) ∧ (¬ ((M 25 o0 0 v2.toNatClampNeg) < (M 4 o1 ((M 3 o0 0 13).toNatClampNeg) 4)) → (vp_in (M 3 o0 0 13) 30 ∧ (vp_in (M 3 o0 0 13) 30 ∧ (∀ M54 : Mem, M54 = sM M 21 o0 0 (M 3 o0 0 13).toNatClampNeg (-1) → (((M 4 o1 ((M 3 o0 0 13).toNatClampNeg) 4) ≤ 0 → wp_X0_putWaitingNotes_L89 o0 o1 v2 (wp_X0_putWaitingNotes_L0 o0 o1 v2 X Q n) X Q M54) ∧ (¬ ((M 4 o1 ((M 3 o0 0 13).toNatClampNeg) 4) ≤ 0) → (vp_in (M54 3 o0 0 13) 30 ∧ (∀ M68 : Mem, M68 = sM M54 21 o0 0 (M54 3 o0 0 13).toNatClampNeg v2 → (vp_in v2 60 ∧ (vp_in v2 60 ∧ (∀ M78 : Mem, M78 = sM M68 24 o0 0 v2.toNatClampNeg ((M68 24 o0 0 v2.toNatClampNeg) + 1) → (vp_in v2 60 ∧ (vp_in v2 60 ∧ (∀ M88 : Mem, M88 = sM M78 25 o0 0 v2.toNatClampNeg ((M78 25 o0 0 v2.toNatClampNeg) - (M 4 o1 ((M 3 o0 0 13).toNatClampNeg) 4)) → wp_X0_putWaitingNotes_L89 o0 o1 v2 (wp_X0_putWaitingNotes_L0 o0 o1 v2 X Q n) X Q M88)))))))))))))))))))
set_option maxHeartbeats 4000000 in
set_option maxRecDepth 100000 in
theorem l_X0_putWaitingNotes_L0 {l : Launch} {G : GG} {Z : ZT} (h : AX l G cX0_putWaitingNotes 4 RX0 wsX0_putWaitingNotes F_X0_putWaitingNotes L_X0_putWaitingNotes Z) (hG : GoodG G) {Q : Mem → Prop} (hr : RETv cX0_putWaitingNotes Q Z) (o0 : Nat) (o1 : Nat) (v2 : Int32) (ho0 : o0 < 5) (ho1 : o1 < 2)   (X : Mem → Prop) (hX : ∀  (M : Mem), X  M → Z 102 [] [] M) : ∀ (n : Nat)  (M : Mem), wp_X0_putWaitingNotes_L0 o0 o1 v2 X Q n  M → Z 0 [(0, .ref (gA G (3, o0, 0))), (1, .ref (gA G (1, o1, 0))), (2, .int v2)] [] M := by
  intro n
  induction n with
  | zero => intro M hw; exact hw.elim
  | succ n ih =>
    intro M hw
    unfold wp_X0_putWaitingNotes_L0 at hw
    refine h.aload_n (pc := 0) dX0_putWaitingNotes_0 rfl 0 rfl ?_
    refine h.getf (pc := 1) (f := 3) (o := o0) (i := 0) (ci := 0) (C := RX0) (T := TX0) (N := 14) (j := 13) (v := .int (M 3 o0 0 13)) (k_1 5 (by decide) ho0) rfl rfl (by decide) inX0_putWaitingNotes_RX0 kX0_putWaitingNotes_61 rfl dX0_putWaitingNotes_1 ?_
    refine h.aload_n (pc := 4) dX0_putWaitingNotes_4 rfl 0 rfl ?_
    refine h.getf (pc := 5) (f := 3) (o := o0) (i := 0) (ci := 0) (C := RX0) (T := TX0) (N := 14) (j := 12) (v := .int (M 3 o0 0 12)) (k_1 5 (by decide) ho0) rfl rfl (by decide) inX0_putWaitingNotes_RX0 kX0_putWaitingNotes_58 rfl dX0_putWaitingNotes_5 ?_
    refine h.icmp_ge (pc := 8) 102 dX0_putWaitingNotes_8 (by decide) (fun c8 => ?_) (fun c8 => ?_)
    · replace hw := hw.1 c8
      refine h.sub (pc := 102) [] (lv' := []) rfl ?_
      exact hX M hw
    · replace hw := hw.2 c8
      refine h.aload_n (pc := 11) dX0_putWaitingNotes_11 rfl 1 rfl ?_
      refine h.getN (pc := 12) (f := 1) (o := o1) (i := 0) (ci := 3) (C := RX3) (T := TX3) (N := 9) (j := 6) (v := .ref (gA G (11, o1, 0))) (k_1 2 (by decide) ho1) rfl rfl (by decide) inX0_putWaitingNotes_RX3 (own0 := RX0) (host := "TableWright") rfl nw_25 rfl dX0_putWaitingNotes_12 ?_
      refine h.aload_n (pc := 15) dX0_putWaitingNotes_15 rfl 0 rfl ?_
      refine h.getf (pc := 16) (f := 3) (o := o0) (i := 0) (ci := 0) (C := RX0) (T := TX0) (N := 14) (j := 13) (v := .int (M 3 o0 0 13)) (k_1 5 (by decide) ho0) rfl rfl (by decide) inX0_putWaitingNotes_RX0 kX0_putWaitingNotes_61 rfl dX0_putWaitingNotes_16 ?_
      obtain ⟨hj19, hw⟩ := hw
      refine h.aald (pc := 19) (o := o1) (ix := (M 3 o0 0 13)) ho1 hj19 dX0_putWaitingNotes_19 ?_
      refine h.getN (pc := 20) (f := 4) (o := o1) (i := (M 3 o0 0 13).toNatClampNeg) (ci := 1) (C := RX1) (T := TX1) (N := 8) (j := 4) (v := .int (M 4 o1 ((M 3 o0 0 13).toNatClampNeg) 4)) (k_2 (by decide) ho1 (vin_lt hj19)) rfl rfl (by decide) inX0_putWaitingNotes_RX1 (own0 := RX0) (host := "TableWright") rfl nw_11 rfl dX0_putWaitingNotes_20 ?_
      refine h.aload_n (pc := 23) dX0_putWaitingNotes_23 rfl 0 rfl ?_
      refine h.getf (pc := 24) (f := 3) (o := o0) (i := 0) (ci := 0) (C := RX0) (T := TX0) (N := 14) (j := 10) (v := .ref (gA G (25, o0, 0))) (k_1 5 (by decide) ho0) rfl rfl (by decide) inX0_putWaitingNotes_RX0 kX0_putWaitingNotes_33 rfl dX0_putWaitingNotes_24 ?_
      refine h.iload_n (pc := 27) dX0_putWaitingNotes_27 rfl 2 rfl ?_
      obtain ⟨hj28, hw⟩ := hw
      refine h.iald (pc := 28) (f := 25) (o := o0) (i := 0) (n := 60) (k_1 5 (by decide) ho0) (fun _ => rfl) hj28 dX0_putWaitingNotes_28 ?_
      refine h.icmp_gt (pc := 29) 102 dX0_putWaitingNotes_29 (by decide) (fun c29 => ?_) (fun c29 => ?_)
      · replace hw := hw.1 c29
        refine h.sub (pc := 102) [] (lv' := []) rfl ?_
        exact hX M hw
      · replace hw := hw.2 c29
        refine h.aload_n (pc := 32) dX0_putWaitingNotes_32 rfl 1 rfl ?_
        refine h.getN (pc := 33) (f := 1) (o := o1) (i := 0) (ci := 3) (C := RX3) (T := TX3) (N := 9) (j := 6) (v := .ref (gA G (11, o1, 0))) (k_1 2 (by decide) ho1) rfl rfl (by decide) inX0_putWaitingNotes_RX3 (own0 := RX0) (host := "TableWright") rfl nw_25 rfl dX0_putWaitingNotes_33 ?_
        refine h.aload_n (pc := 36) dX0_putWaitingNotes_36 rfl 0 rfl ?_
        refine h.getf (pc := 37) (f := 3) (o := o0) (i := 0) (ci := 0) (C := RX0) (T := TX0) (N := 14) (j := 13) (v := .int (M 3 o0 0 13)) (k_1 5 (by decide) ho0) rfl rfl (by decide) inX0_putWaitingNotes_RX0 kX0_putWaitingNotes_61 rfl dX0_putWaitingNotes_37 ?_
        obtain ⟨hj40, hw⟩ := hw
        refine h.aald (pc := 40) (o := o1) (ix := (M 3 o0 0 13)) ho1 hj40 dX0_putWaitingNotes_40 ?_
        refine h.getN (pc := 41) (f := 4) (o := o1) (i := (M 3 o0 0 13).toNatClampNeg) (ci := 1) (C := RX1) (T := TX1) (N := 8) (j := 4) (v := .int (M 4 o1 ((M 3 o0 0 13).toNatClampNeg) 4)) (k_2 (by decide) ho1 (vin_lt hj40)) rfl rfl (by decide) inX0_putWaitingNotes_RX1 (own0 := RX0) (host := "TableWright") rfl nw_11 rfl dX0_putWaitingNotes_41 ?_
        refine h.istore_n (pc := 44) [(3, .int (M 4 o1 ((M 3 o0 0 13).toNatClampNeg) 4)), (0, .ref (gA G (3, o0, 0))), (1, .ref (gA G (1, o1, 0))), (2, .int v2)] dX0_putWaitingNotes_44 rfl (by decide) rfl ?_
        refine h.aload_n (pc := 45) dX0_putWaitingNotes_45 rfl 1 rfl ?_
        refine h.getf (pc := 46) (f := 3) (o := o0) (i := 0) (ci := 0) (C := RX0) (T := TX0) (N := 14) (j := 5) (v := .ref (gA G (21, o0, 0))) (k_1 5 (by decide) ho0) rfl rfl (by decide) inX0_putWaitingNotes_RX0 kX0_putWaitingNotes_21 rfl dX0_putWaitingNotes_46 ?_
        refine h.aload_n (pc := 49) dX0_putWaitingNotes_49 rfl 1 rfl ?_
        refine h.getf (pc := 50) (f := 3) (o := o0) (i := 0) (ci := 0) (C := RX0) (T := TX0) (N := 14) (j := 13) (v := .int (M 3 o0 0 13)) (k_1 5 (by decide) ho0) rfl rfl (by decide) inX0_putWaitingNotes_RX0 kX0_putWaitingNotes_61 rfl dX0_putWaitingNotes_50 ?_
        refine h.iconst (pc := 53) (v := (-1)) dX0_putWaitingNotes_53 (by decide) ?_
        obtain ⟨hj54, hw⟩ := hw
        refine h.iast (pc := 54) (f := 21) (o := o0) (i := 0) (n := 30) (ix := (M 3 o0 0 13)) (x := (-1)) (k_1 5 (by decide) ho0) (fun _ => rfl) hj54 dX0_putWaitingNotes_54 (fun M54 e54 => ?_)
        replace hw := hw M54 e54
        refine h.iload_n (pc := 55) dX0_putWaitingNotes_55 rfl 0 rfl ?_
        refine h.if_le (pc := 56) 89 dX0_putWaitingNotes_56 (by decide) (fun c56 => ?_) (fun c56 => ?_)
        · replace hw := hw.1 c56
          refine h.sub (pc := 89) [1, 2, 3] (lv' := [(0, .ref (gA G (3, o0, 0))), (1, .ref (gA G (1, o1, 0))), (2, .int v2)]) rfl ?_
          exact l_X0_putWaitingNotes_L89 h hG hr o0 o1 v2 ho0 ho1 ih hX M54 hw
        · replace hw := hw.2 c56
          refine h.aload_n (pc := 59) dX0_putWaitingNotes_59 rfl 1 rfl ?_
          refine h.getf (pc := 60) (f := 3) (o := o0) (i := 0) (ci := 0) (C := RX0) (T := TX0) (N := 14) (j := 5) (v := .ref (gA G (21, o0, 0))) (k_1 5 (by decide) ho0) rfl rfl (by decide) inX0_putWaitingNotes_RX0 kX0_putWaitingNotes_21 rfl dX0_putWaitingNotes_60 ?_
          refine h.aload_n (pc := 63) dX0_putWaitingNotes_63 rfl 1 rfl ?_
          refine h.getf (pc := 64) (f := 3) (o := o0) (i := 0) (ci := 0) (C := RX0) (T := TX0) (N := 14) (j := 13) (v := .int (M54 3 o0 0 13)) (k_1 5 (by decide) ho0) rfl rfl (by decide) inX0_putWaitingNotes_RX0 kX0_putWaitingNotes_61 rfl dX0_putWaitingNotes_64 ?_
          refine h.iload_n (pc := 67) dX0_putWaitingNotes_67 rfl 3 rfl ?_
          obtain ⟨hj68, hw⟩ := hw
          refine h.iast (pc := 68) (f := 21) (o := o0) (i := 0) (n := 30) (ix := (M54 3 o0 0 13)) (x := v2) (k_1 5 (by decide) ho0) (fun _ => rfl) hj68 dX0_putWaitingNotes_68 (fun M68 e68 => ?_)
          replace hw := hw M68 e68
          refine h.aload_n (pc := 69) dX0_putWaitingNotes_69 rfl 1 rfl ?_
          refine h.getf (pc := 70) (f := 3) (o := o0) (i := 0) (ci := 0) (C := RX0) (T := TX0) (N := 14) (j := 9) (v := .ref (gA G (24, o0, 0))) (k_1 5 (by decide) ho0) rfl rfl (by decide) inX0_putWaitingNotes_RX0 kX0_putWaitingNotes_30 rfl dX0_putWaitingNotes_70 ?_
          refine h.iload_n (pc := 73) dX0_putWaitingNotes_73 rfl 3 rfl ?_
          refine h.dup2 (pc := 74) dX0_putWaitingNotes_74 rfl rfl ?_
          obtain ⟨hj75, hw⟩ := hw
          refine h.iald (pc := 75) (f := 24) (o := o0) (i := 0) (n := 60) (k_1 5 (by decide) ho0) (fun _ => rfl) hj75 dX0_putWaitingNotes_75 ?_
          refine h.iconst (pc := 76) (v := 1) dX0_putWaitingNotes_76 (by decide) ?_
          refine h.iadd (pc := 77) dX0_putWaitingNotes_77 ?_
          obtain ⟨hj78, hw⟩ := hw
          refine h.iast (pc := 78) (f := 24) (o := o0) (i := 0) (n := 60) (ix := v2) (x := ((M68 24 o0 0 v2.toNatClampNeg) + 1)) (k_1 5 (by decide) ho0) (fun _ => rfl) hj78 dX0_putWaitingNotes_78 (fun M78 e78 => ?_)
          replace hw := hw M78 e78
          refine h.aload_n (pc := 79) dX0_putWaitingNotes_79 rfl 1 rfl ?_
          refine h.getf (pc := 80) (f := 3) (o := o0) (i := 0) (ci := 0) (C := RX0) (T := TX0) (N := 14) (j := 10) (v := .ref (gA G (25, o0, 0))) (k_1 5 (by decide) ho0) rfl rfl (by decide) inX0_putWaitingNotes_RX0 kX0_putWaitingNotes_33 rfl dX0_putWaitingNotes_80 ?_
          refine h.iload_n (pc := 83) dX0_putWaitingNotes_83 rfl 3 rfl ?_
          refine h.dup2 (pc := 84) dX0_putWaitingNotes_84 rfl rfl ?_
          obtain ⟨hj85, hw⟩ := hw
          refine h.iald (pc := 85) (f := 25) (o := o0) (i := 0) (n := 60) (k_1 5 (by decide) ho0) (fun _ => rfl) hj85 dX0_putWaitingNotes_85 ?_
          refine h.iload_n (pc := 86) dX0_putWaitingNotes_86 rfl 0 rfl ?_
          refine h.isub (pc := 87) dX0_putWaitingNotes_87 ?_
          obtain ⟨hj88, hw⟩ := hw
          refine h.iast (pc := 88) (f := 25) (o := o0) (i := 0) (n := 60) (ix := v2) (x := ((M78 25 o0 0 v2.toNatClampNeg) - (M 4 o1 ((M 3 o0 0 13).toNatClampNeg) 4))) (k_1 5 (by decide) ho0) (fun _ => rfl) hj88 dX0_putWaitingNotes_88 (fun M88 e88 => ?_)
          replace hw := hw M88 e88
          refine h.sub (pc := 89) [1, 2, 3] (lv' := [(0, .ref (gA G (3, o0, 0))), (1, .ref (gA G (1, o1, 0))), (2, .int v2)]) rfl ?_
          exact l_X0_putWaitingNotes_L89 h hG hr o0 o1 v2 ho0 ho1 ih hX M88 hw
def wp_X0_putWaitingNotes (o0 : Nat) (o1 : Nat) (v2 : Int32) (M : Mem) (Q : Mem → Prop) : Prop := ∃ n0, wp_X0_putWaitingNotes_L0 o0 o1 v2 (fun M => Q M) Q n0 M
set_option maxHeartbeats 4000000 in
set_option maxRecDepth 100000 in
theorem m_X0_putWaitingNotes {l : Launch} {G : GG} (hG : GoodG G) {o0 : Nat} {o1 : Nat} {v2 : Int32}  {M : Mem} {Q : Mem → Prop} (ho0 : o0 < 5) (ho1 : o1 < 2) (hw : wp_X0_putWaitingNotes o0 o1 v2 M Q) : CTv l G yX0_putWaitingNotes wsX0_putWaitingNotes F_X0_putWaitingNotes L_X0_putWaitingNotes [.ref (gA G (3, o0, 0)), .ref (gA G (1, o1, 0)), .int v2] M Q := by
  refine CTv_mk hG (by decide +kernel) rfl (Nat.le_of_ble_eq_true rfl) (fun Z (h : AX l G cX0_putWaitingNotes 4 RX0 wsX0_putWaitingNotes F_X0_putWaitingNotes L_X0_putWaitingNotes Z) hr => ?_)
  show Z 0 [(0, .ref (gA G (3, o0, 0))), (1, .ref (gA G (1, o1, 0))), (2, .int v2)] [] M
  unfold wp_X0_putWaitingNotes at hw
  obtain ⟨n0, hw⟩ := hw
  exact l_X0_putWaitingNotes_L0 h hG hr o0 o1 v2 ho0 ho1 _ (fun M hw => by
      exact hr _ _ _ dX0_putWaitingNotes_102 hw) n0 M hw
-- X0_fillPage
theorem inX0_fillPage_RX0 : ∀ w ∈ u_ws RX0 TX0 14, w ∈ wsX0_fillPage := by decide +kernel
theorem inX0_fillPage_RX3 : ∀ w ∈ u_ws RX3 TX3 9, w ∈ wsX0_fillPage := by decide +kernel
theorem kX0_fillPage_24 : Cond.fieldLink RX0 24 (TX0 7).1 (TX0 7).2.1 (TX0 7).2.2.1 ∈ wsX0_fillPage := by decide +kernel
theorem kX0_fillPage_27 : Cond.fieldLink RX0 27 (TX0 8).1 (TX0 8).2.1 (TX0 8).2.2.1 ∈ wsX0_fillPage := by decide +kernel
theorem kX0_fillPage_30 : Cond.fieldLink RX0 30 (TX0 9).1 (TX0 9).2.1 (TX0 9).2.2.1 ∈ wsX0_fillPage := by decide +kernel
theorem kX0_fillPage_33 : Cond.fieldLink RX0 33 (TX0 10).1 (TX0 10).2.1 (TX0 10).2.2.1 ∈ wsX0_fillPage := by decide +kernel
theorem kX0_fillPage_39 : Cond.fieldLink RX0 39 (TX0 1).1 (TX0 1).2.1 (TX0 1).2.2.1 ∈ wsX0_fillPage := by decide +kernel
theorem kX0_fillPage_58 : Cond.fieldLink RX0 58 (TX0 12).1 (TX0 12).2.1 (TX0 12).2.2.1 ∈ wsX0_fillPage := by decide +kernel
theorem kX0_fillPage_61 : Cond.fieldLink RX0 61 (TX0 13).1 (TX0 13).2.1 (TX0 13).2.2.1 ∈ wsX0_fillPage := by decide +kernel
theorem kX0_fillPage_36 : Cond.fieldLink RX0 36 (TX0 11).1 (TX0 11).2.1 (TX0 11).2.2.1 ∈ wsX0_fillPage := by decide +kernel
abbrev F_X0_fillPage : Nat := 2
abbrev L_X0_fillPage : Nat := 48
theorem hd_X0_fillPage : yX0_fillPage.cls = RX0 ∧ yX0_fillPage.cls ≠ "java/lang/invoke/MethodHandle" ∧ yX0_fillPage.cls ≠ "java/lang/invoke/VarHandle" ∧ (parseMethodDescriptor yX0_fillPage.desc).map (fun d => d.parameters.length) = some 2 := by decide +kernel
def wp_X0_fillPage_L99 (o0 : Nat) (o1 : Nat) (v2 : Int32) (B : Mem → Prop) (X : Mem → Prop) (Q : Mem → Prop)  (M : Mem) : Prop := B M
set_option maxHeartbeats 4000000 in
set_option maxRecDepth 100000 in
theorem l_X0_fillPage_L99 {l : Launch} {G : GG} {Z : ZT} (h : AX l G cX0_fillPage 4 RX0 wsX0_fillPage F_X0_fillPage L_X0_fillPage Z) (hG : GoodG G) {Q : Mem → Prop} (hr : RETv cX0_fillPage Q Z) (o0 : Nat) (o1 : Nat) (v2 : Int32) (ho0 : o0 < 5) (ho1 : o1 < 2)   {B : Mem → Prop} (hB : ∀  (M : Mem), B  M → Z 37 [(0, .ref (gA G (3, o0, 0))), (1, .ref (gA G (1, o1, 0))), (2, .int v2)] [] M) {X : Mem → Prop} (hX : ∀  (M : Mem), X  M → Z 102 [(0, .ref (gA G (3, o0, 0))), (2, .int v2)] [] M) (M : Mem) (hw : wp_X0_fillPage_L99 o0 o1 v2 B X Q M) : Z 99 [(0, .ref (gA G (3, o0, 0))), (1, .ref (gA G (1, o1, 0))), (2, .int v2)] [] M := by
  unfold wp_X0_fillPage_L99 at hw
  refine h.goto (pc := 99) 37 dX0_fillPage_99 (by decide) ?_
  exact hB M hw
def wp_X0_fillPage_L73 (o0 : Nat) (o1 : Nat) (v2 : Int32) (B : Mem → Prop) (X : Mem → Prop) (Q : Mem → Prop) (t0 : Int32) (M : Mem) : Prop := (wp_X0_putNextRow o0 v2 M (fun M76 => (∀ M86 : Mem, M86 = sM M76 3 o0 0 12 ((M76 3 o0 0 12) + 1) → ((t0 = 0 → (wp_X0_putWaitingNotes o0 o1 v2 M86 (fun M96 => wp_X0_fillPage_L99 o0 o1 v2 B X Q M96))) ∧ (¬ (t0 = 0) → wp_X0_fillPage_L99 o0 o1 v2 B X Q M86)))))
set_option maxHeartbeats 4000000 in
set_option maxRecDepth 100000 in
theorem l_X0_fillPage_L73 {l : Launch} {G : GG} {Z : ZT} (h : AX l G cX0_fillPage 4 RX0 wsX0_fillPage F_X0_fillPage L_X0_fillPage Z) (hG : GoodG G) {Q : Mem → Prop} (hr : RETv cX0_fillPage Q Z) (o0 : Nat) (o1 : Nat) (v2 : Int32) (ho0 : o0 < 5) (ho1 : o1 < 2) (t0 : Int32)  {B : Mem → Prop} (hB : ∀  (M : Mem), B  M → Z 37 [(0, .ref (gA G (3, o0, 0))), (1, .ref (gA G (1, o1, 0))), (2, .int v2)] [] M) {X : Mem → Prop} (hX : ∀  (M : Mem), X  M → Z 102 [(0, .ref (gA G (3, o0, 0))), (2, .int v2)] [] M) (M : Mem) (hw : wp_X0_fillPage_L73 o0 o1 v2 B X Q t0 M) : Z 73 [(0, .ref (gA G (3, o0, 0))), (1, .ref (gA G (1, o1, 0))), (2, .int v2)] [.int t0] M := by
  unfold wp_X0_fillPage_L73 at hw
  refine h.istore_n (pc := 73) [(3, .int t0), (0, .ref (gA G (3, o0, 0))), (1, .ref (gA G (1, o1, 0))), (2, .int v2)] dX0_fillPage_73 rfl (by decide) rfl ?_
  refine h.aload_n (pc := 74) dX0_fillPage_74 rfl 1 rfl ?_
  refine h.iload_n (pc := 75) dX0_fillPage_75 rfl 3 rfl ?_
  refine h.cVv (pc := 76) [.int v2] (3, o0, 0) [] (m_X0_putNextRow hG ho0 hw) gX0_fillPage_X0_putNextRow rfl hd_X0_putNextRow (by decide) (k_1 5 (by decide) ho0) rfl rfl rfl rfl rfl (Nat.le_of_ble_eq_true rfl) dX0_fillPage_76 (fun M76 hw => ?_)
  refine h.aload_n (pc := 79) dX0_fillPage_79 rfl 1 rfl ?_
  refine h.dup (pc := 80) dX0_fillPage_80 rfl ?_
  refine h.getf (pc := 81) (f := 3) (o := o0) (i := 0) (ci := 0) (C := RX0) (T := TX0) (N := 14) (j := 12) (v := .int (M76 3 o0 0 12)) (k_1 5 (by decide) ho0) rfl rfl (by decide) inX0_fillPage_RX0 kX0_fillPage_58 rfl dX0_fillPage_81 ?_
  refine h.iconst (pc := 84) (v := 1) dX0_fillPage_84 (by decide) ?_
  refine h.iadd (pc := 85) dX0_fillPage_85 ?_
  refine h.putf (pc := 86) (f := 3) (o := o0) (i := 0) (ci := 0) (C := RX0) (T := TX0) (N := 14) (j := 12) (ty := .int) (ty0 := tyX0) (x := ((M76 3 o0 0 12) + 1)) (k_1 5 (by decide) ho0) rfl rfl (by decide) inX0_fillPage_RX0 tyX0_ok nmX0 kX0_fillPage_58 rfl (tyX0_ok 12 (by decide)) rfl rfl (Nat.le_of_ble_eq_true rfl) rfl dX0_fillPage_86 (fun M86 e86 => ?_)
  replace hw := hw M86 e86
  refine h.iload_n (pc := 89) dX0_fillPage_89 rfl 0 rfl ?_
  refine h.if_ne (pc := 90) 99 dX0_fillPage_90 (by decide) (fun c90 => ?_) (fun c90 => ?_)
  · replace hw := hw.2 c90
    refine h.sub (pc := 99) [1, 2, 3] (lv' := [(0, .ref (gA G (3, o0, 0))), (1, .ref (gA G (1, o1, 0))), (2, .int v2)]) rfl ?_
    exact l_X0_fillPage_L99 h hG hr o0 o1 v2 ho0 ho1 hB hX M86 hw
  · replace hw := hw.1 c90
    refine h.aload_n (pc := 93) dX0_fillPage_93 rfl 1 rfl ?_
    refine h.aload_n (pc := 94) dX0_fillPage_94 rfl 2 rfl ?_
    refine h.iload_n (pc := 95) dX0_fillPage_95 rfl 3 rfl ?_
    refine h.cVv (pc := 96) [.ref (gA G (1, o1, 0)), .int v2] (3, o0, 0) [] (m_X0_putWaitingNotes hG ho0 ho1 hw) gX0_fillPage_X0_putWaitingNotes rfl hd_X0_putWaitingNotes (by decide) (k_1 5 (by decide) ho0) rfl rfl rfl rfl rfl (Nat.le_of_ble_eq_true rfl) dX0_fillPage_96 (fun M96 hw => ?_)
    refine h.sub (pc := 99) [1, 2, 3] (lv' := [(0, .ref (gA G (3, o0, 0))), (1, .ref (gA G (1, o1, 0))), (2, .int v2)]) rfl ?_
    exact l_X0_fillPage_L99 h hG hr o0 o1 v2 ho0 ho1 hB hX M96 hw
def wp_X0_fillPage_L37 (o0 : Nat) (o1 : Nat) (v2 : Int32)  (X : Mem → Prop) (Q : Mem → Prop) : Nat → Mem → Prop
  | 0, _ => False
  | n + 1, M => (((M 1 o1 0 5) ≤ (M 3 o0 0 12) → X M) ∧ (¬ ((M 1 o1 0 5) ≤ (M 3 o0 0 12)) → (wp_X0_hasRoomForNextRow o0 o1 v2 M (fun r51 M51 => ((r51 = 0 → X M51) ∧ (¬ (r51 = 0) → (((M51 3 o0 0 12) ≤ (M51 3 o0 0 13) → wp_X0_fillPage_L73 o0 o1 v2 (wp_X0_fillPage_L37 o0 o1 v2 X Q n) X Q 0 M51) ∧ (¬ ((M51 3 o0 0 12) ≤ (M51 3 o0 0 13)) → wp_X0_fillPage_L73 o0 o1 v2 (wp_X0_fillPage_L37 o0 o1 v2 X Q n) X Q 1 M51))))))))
set_option maxHeartbeats 4000000 in
set_option maxRecDepth 100000 in
theorem l_X0_fillPage_L37 {l : Launch} {G : GG} {Z : ZT} (h : AX l G cX0_fillPage 4 RX0 wsX0_fillPage F_X0_fillPage L_X0_fillPage Z) (hG : GoodG G) {Q : Mem → Prop} (hr : RETv cX0_fillPage Q Z) (o0 : Nat) (o1 : Nat) (v2 : Int32) (ho0 : o0 < 5) (ho1 : o1 < 2)   (X : Mem → Prop) (hX : ∀  (M : Mem), X  M → Z 102 [(0, .ref (gA G (3, o0, 0))), (2, .int v2)] [] M) : ∀ (n : Nat)  (M : Mem), wp_X0_fillPage_L37 o0 o1 v2 X Q n  M → Z 37 [(0, .ref (gA G (3, o0, 0))), (1, .ref (gA G (1, o1, 0))), (2, .int v2)] [] M := by
  intro n
  induction n with
  | zero => intro M hw; exact hw.elim
  | succ n ih =>
    intro M hw
    unfold wp_X0_fillPage_L37 at hw
    refine h.aload_n (pc := 37) dX0_fillPage_37 rfl 0 rfl ?_
    refine h.getf (pc := 38) (f := 3) (o := o0) (i := 0) (ci := 0) (C := RX0) (T := TX0) (N := 14) (j := 12) (v := .int (M 3 o0 0 12)) (k_1 5 (by decide) ho0) rfl rfl (by decide) inX0_fillPage_RX0 kX0_fillPage_58 rfl dX0_fillPage_38 ?_
    refine h.aload_n (pc := 41) dX0_fillPage_41 rfl 1 rfl ?_
    refine h.getN (pc := 42) (f := 1) (o := o1) (i := 0) (ci := 3) (C := RX3) (T := TX3) (N := 9) (j := 5) (v := .int (M 1 o1 0 5)) (k_1 2 (by decide) ho1) rfl rfl (by decide) inX0_fillPage_RX3 (own0 := RX0) (host := "TableWright") rfl nw_22 rfl dX0_fillPage_42 ?_
    refine h.icmp_ge (pc := 45) 102 dX0_fillPage_45 (by decide) (fun c45 => ?_) (fun c45 => ?_)
    · replace hw := hw.1 c45
      refine h.sub (pc := 102) [0, 2] (lv' := [(0, .ref (gA G (3, o0, 0))), (2, .int v2)]) rfl ?_
      exact hX M hw
    · replace hw := hw.2 c45
      refine h.aload_n (pc := 48) dX0_fillPage_48 rfl 0 rfl ?_
      refine h.aload_n (pc := 49) dX0_fillPage_49 rfl 1 rfl ?_
      refine h.iload_n (pc := 50) dX0_fillPage_50 rfl 2 rfl ?_
      refine h.cVi (pc := 51) [.ref (gA G (1, o1, 0)), .int v2] (3, o0, 0) [] (m_X0_hasRoomForNextRow hG ho0 ho1 hw) gX0_fillPage_X0_hasRoomForNextRow rfl hd_X0_hasRoomForNextRow (by decide) (k_1 5 (by decide) ho0) rfl rfl rfl rfl rfl (Nat.le_of_ble_eq_true rfl) dX0_fillPage_51 (fun r51 M51 hw => ?_)
      refine h.if_eq (pc := 54) 102 dX0_fillPage_54 (by decide) (fun c54 => ?_) (fun c54 => ?_)
      · replace hw := hw.1 c54
        refine h.sub (pc := 102) [0, 2] (lv' := [(0, .ref (gA G (3, o0, 0))), (2, .int v2)]) rfl ?_
        exact hX M51 hw
      · replace hw := hw.2 c54
        refine h.aload_n (pc := 57) dX0_fillPage_57 rfl 0 rfl ?_
        refine h.getf (pc := 58) (f := 3) (o := o0) (i := 0) (ci := 0) (C := RX0) (T := TX0) (N := 14) (j := 13) (v := .int (M51 3 o0 0 13)) (k_1 5 (by decide) ho0) rfl rfl (by decide) inX0_fillPage_RX0 kX0_fillPage_61 rfl dX0_fillPage_58 ?_
        refine h.aload_n (pc := 61) dX0_fillPage_61 rfl 0 rfl ?_
        refine h.getf (pc := 62) (f := 3) (o := o0) (i := 0) (ci := 0) (C := RX0) (T := TX0) (N := 14) (j := 12) (v := .int (M51 3 o0 0 12)) (k_1 5 (by decide) ho0) rfl rfl (by decide) inX0_fillPage_RX0 kX0_fillPage_58 rfl dX0_fillPage_62 ?_
        refine h.icmp_ge (pc := 65) 72 dX0_fillPage_65 (by decide) (fun c65 => ?_) (fun c65 => ?_)
        · replace hw := hw.1 c65
          refine h.iconst (pc := 72) (v := 0) dX0_fillPage_72 (by decide) ?_
          exact l_X0_fillPage_L73 h hG hr o0 o1 v2 ho0 ho1 0 ih hX M51 hw
        · replace hw := hw.2 c65
          refine h.iconst (pc := 68) (v := 1) dX0_fillPage_68 (by decide) ?_
          refine h.goto (pc := 69) 73 dX0_fillPage_69 (by decide) ?_
          exact l_X0_fillPage_L73 h hG hr o0 o1 v2 ho0 ho1 1 ih hX M51 hw
def wp_X0_fillPage_L102 (o0 : Nat) (o1 : Nat) (v2 : Int32)  (Q : Mem → Prop)  (M : Mem) : Prop := (vp_in v2 60 ∧ (∀ M113 : Mem, M113 = sM M 26 o0 0 v2.toNatClampNeg ((M 3 o0 0 12) - 1) → Q M113))
set_option maxHeartbeats 4000000 in
set_option maxRecDepth 100000 in
theorem l_X0_fillPage_L102 {l : Launch} {G : GG} {Z : ZT} (h : AX l G cX0_fillPage 4 RX0 wsX0_fillPage F_X0_fillPage L_X0_fillPage Z) (hG : GoodG G) {Q : Mem → Prop} (hr : RETv cX0_fillPage Q Z) (o0 : Nat) (o1 : Nat) (v2 : Int32) (ho0 : o0 < 5) (ho1 : o1 < 2)   (M : Mem) (hw : wp_X0_fillPage_L102 o0 o1 v2 Q M) : Z 102 [(0, .ref (gA G (3, o0, 0))), (2, .int v2)] [] M := by
  unfold wp_X0_fillPage_L102 at hw
  refine h.aload_n (pc := 102) dX0_fillPage_102 rfl 0 rfl ?_
  refine h.getf (pc := 103) (f := 3) (o := o0) (i := 0) (ci := 0) (C := RX0) (T := TX0) (N := 14) (j := 11) (v := .ref (gA G (26, o0, 0))) (k_1 5 (by decide) ho0) rfl rfl (by decide) inX0_fillPage_RX0 kX0_fillPage_36 rfl dX0_fillPage_103 ?_
  refine h.iload_n (pc := 106) dX0_fillPage_106 rfl 1 rfl ?_
  refine h.aload_n (pc := 107) dX0_fillPage_107 rfl 0 rfl ?_
  refine h.getf (pc := 108) (f := 3) (o := o0) (i := 0) (ci := 0) (C := RX0) (T := TX0) (N := 14) (j := 12) (v := .int (M 3 o0 0 12)) (k_1 5 (by decide) ho0) rfl rfl (by decide) inX0_fillPage_RX0 kX0_fillPage_58 rfl dX0_fillPage_108 ?_
  refine h.iconst (pc := 111) (v := 1) dX0_fillPage_111 (by decide) ?_
  refine h.isub (pc := 112) dX0_fillPage_112 ?_
  obtain ⟨hj113, hw⟩ := hw
  refine h.iast (pc := 113) (f := 26) (o := o0) (i := 0) (n := 60) (ix := v2) (x := ((M 3 o0 0 12) - 1)) (k_1 5 (by decide) ho0) (fun _ => rfl) hj113 dX0_fillPage_113 (fun M113 e113 => ?_)
  replace hw := hw M113 e113
  exact hr _ _ _ dX0_fillPage_114 hw
def wp_X0_fillPage (o0 : Nat) (o1 : Nat) (v2 : Int32) (M : Mem) (Q : Mem → Prop) : Prop := (vp_in v2 60 ∧ (∀ M6 : Mem, M6 = sM M 22 o0 0 v2.toNatClampNeg (-1) → (vp_in v2 60 ∧ (∀ M13 : Mem, M13 = sM M6 23 o0 0 v2.toNatClampNeg 0 → (vp_in v2 60 ∧ (∀ M20 : Mem, M20 = sM M13 24 o0 0 v2.toNatClampNeg 0 → (vp_in v2 60 ∧ (∀ M30 : Mem, M30 = sM M20 25 o0 0 v2.toNatClampNeg (M20 3 o0 0 1) → (wp_X0_putWaitingNotes o0 o1 v2 M30 (fun M34 => ∃ n37, wp_X0_fillPage_L37 o0 o1 v2 (fun M => wp_X0_fillPage_L102 o0 o1 v2 Q M) Q n37 M34))))))))))
set_option maxHeartbeats 4000000 in
set_option maxRecDepth 100000 in
theorem m_X0_fillPage {l : Launch} {G : GG} (hG : GoodG G) {o0 : Nat} {o1 : Nat} {v2 : Int32}  {M : Mem} {Q : Mem → Prop} (ho0 : o0 < 5) (ho1 : o1 < 2) (hw : wp_X0_fillPage o0 o1 v2 M Q) : CTv l G yX0_fillPage wsX0_fillPage F_X0_fillPage L_X0_fillPage [.ref (gA G (3, o0, 0)), .ref (gA G (1, o1, 0)), .int v2] M Q := by
  refine CTv_mk hG (by decide +kernel) rfl (Nat.le_of_ble_eq_true rfl) (fun Z (h : AX l G cX0_fillPage 4 RX0 wsX0_fillPage F_X0_fillPage L_X0_fillPage Z) hr => ?_)
  show Z 0 [(0, .ref (gA G (3, o0, 0))), (1, .ref (gA G (1, o1, 0))), (2, .int v2)] [] M
  unfold wp_X0_fillPage at hw
  refine h.aload_n (pc := 0) dX0_fillPage_0 rfl 0 rfl ?_
  refine h.getf (pc := 1) (f := 3) (o := o0) (i := 0) (ci := 0) (C := RX0) (T := TX0) (N := 14) (j := 7) (v := .ref (gA G (22, o0, 0))) (k_1 5 (by decide) ho0) rfl rfl (by decide) inX0_fillPage_RX0 kX0_fillPage_24 rfl dX0_fillPage_1 ?_
  refine h.iload_n (pc := 4) dX0_fillPage_4 rfl 2 rfl ?_
  refine h.iconst (pc := 5) (v := (-1)) dX0_fillPage_5 (by decide) ?_
  obtain ⟨hj6, hw⟩ := hw
  refine h.iast (pc := 6) (f := 22) (o := o0) (i := 0) (n := 60) (ix := v2) (x := (-1)) (k_1 5 (by decide) ho0) (fun _ => rfl) hj6 dX0_fillPage_6 (fun M6 e6 => ?_)
  replace hw := hw M6 e6
  refine h.aload_n (pc := 7) dX0_fillPage_7 rfl 0 rfl ?_
  refine h.getf (pc := 8) (f := 3) (o := o0) (i := 0) (ci := 0) (C := RX0) (T := TX0) (N := 14) (j := 8) (v := .ref (gA G (23, o0, 0))) (k_1 5 (by decide) ho0) rfl rfl (by decide) inX0_fillPage_RX0 kX0_fillPage_27 rfl dX0_fillPage_8 ?_
  refine h.iload_n (pc := 11) dX0_fillPage_11 rfl 2 rfl ?_
  refine h.iconst (pc := 12) (v := 0) dX0_fillPage_12 (by decide) ?_
  obtain ⟨hj13, hw⟩ := hw
  refine h.iast (pc := 13) (f := 23) (o := o0) (i := 0) (n := 60) (ix := v2) (x := 0) (k_1 5 (by decide) ho0) (fun _ => rfl) hj13 dX0_fillPage_13 (fun M13 e13 => ?_)
  replace hw := hw M13 e13
  refine h.aload_n (pc := 14) dX0_fillPage_14 rfl 0 rfl ?_
  refine h.getf (pc := 15) (f := 3) (o := o0) (i := 0) (ci := 0) (C := RX0) (T := TX0) (N := 14) (j := 9) (v := .ref (gA G (24, o0, 0))) (k_1 5 (by decide) ho0) rfl rfl (by decide) inX0_fillPage_RX0 kX0_fillPage_30 rfl dX0_fillPage_15 ?_
  refine h.iload_n (pc := 18) dX0_fillPage_18 rfl 2 rfl ?_
  refine h.iconst (pc := 19) (v := 0) dX0_fillPage_19 (by decide) ?_
  obtain ⟨hj20, hw⟩ := hw
  refine h.iast (pc := 20) (f := 24) (o := o0) (i := 0) (n := 60) (ix := v2) (x := 0) (k_1 5 (by decide) ho0) (fun _ => rfl) hj20 dX0_fillPage_20 (fun M20 e20 => ?_)
  replace hw := hw M20 e20
  refine h.aload_n (pc := 21) dX0_fillPage_21 rfl 0 rfl ?_
  refine h.getf (pc := 22) (f := 3) (o := o0) (i := 0) (ci := 0) (C := RX0) (T := TX0) (N := 14) (j := 10) (v := .ref (gA G (25, o0, 0))) (k_1 5 (by decide) ho0) rfl rfl (by decide) inX0_fillPage_RX0 kX0_fillPage_33 rfl dX0_fillPage_22 ?_
  refine h.iload_n (pc := 25) dX0_fillPage_25 rfl 2 rfl ?_
  refine h.aload_n (pc := 26) dX0_fillPage_26 rfl 0 rfl ?_
  refine h.getf (pc := 27) (f := 3) (o := o0) (i := 0) (ci := 0) (C := RX0) (T := TX0) (N := 14) (j := 1) (v := .int (M20 3 o0 0 1)) (k_1 5 (by decide) ho0) rfl rfl (by decide) inX0_fillPage_RX0 kX0_fillPage_39 rfl dX0_fillPage_27 ?_
  obtain ⟨hj30, hw⟩ := hw
  refine h.iast (pc := 30) (f := 25) (o := o0) (i := 0) (n := 60) (ix := v2) (x := (M20 3 o0 0 1)) (k_1 5 (by decide) ho0) (fun _ => rfl) hj30 dX0_fillPage_30 (fun M30 e30 => ?_)
  replace hw := hw M30 e30
  refine h.aload_n (pc := 31) dX0_fillPage_31 rfl 0 rfl ?_
  refine h.aload_n (pc := 32) dX0_fillPage_32 rfl 1 rfl ?_
  refine h.iload_n (pc := 33) dX0_fillPage_33 rfl 2 rfl ?_
  refine h.cVv (pc := 34) [.ref (gA G (1, o1, 0)), .int v2] (3, o0, 0) [] (m_X0_putWaitingNotes hG ho0 ho1 hw) gX0_fillPage_X0_putWaitingNotes rfl hd_X0_putWaitingNotes (by decide) (k_1 5 (by decide) ho0) rfl rfl rfl rfl rfl (Nat.le_of_ble_eq_true rfl) dX0_fillPage_34 (fun M34 hw => ?_)
  obtain ⟨n37, hw⟩ := hw
  exact l_X0_fillPage_L37 h hG hr o0 o1 v2 ho0 ho1 _ (fun M hw => by
      exact l_X0_fillPage_L102 h hG hr o0 o1 v2 ho0 ho1 M hw) n37 M34 hw
-- X0_arrange
theorem inX0_arrange_RX0 : ∀ w ∈ u_ws RX0 TX0 14, w ∈ wsX0_arrange := by decide +kernel
theorem inX0_arrange_RX3 : ∀ w ∈ u_ws RX3 TX3 9, w ∈ wsX0_arrange := by decide +kernel
theorem kX0_arrange_39 : Cond.fieldLink RX0 39 (TX0 1).1 (TX0 1).2.1 (TX0 1).2.2.1 ∈ wsX0_arrange := by decide +kernel
theorem kX0_arrange_51 : Cond.fieldLink RX0 51 (TX0 0).1 (TX0 0).2.1 (TX0 0).2.2.1 ∈ wsX0_arrange := by decide +kernel
theorem kX0_arrange_55 : Cond.fieldLink RX0 55 (TX0 6).1 (TX0 6).2.1 (TX0 6).2.2.1 ∈ wsX0_arrange := by decide +kernel
theorem kX0_arrange_58 : Cond.fieldLink RX0 58 (TX0 12).1 (TX0 12).2.1 (TX0 12).2.2.1 ∈ wsX0_arrange := by decide +kernel
theorem kX0_arrange_61 : Cond.fieldLink RX0 61 (TX0 13).1 (TX0 13).2.1 (TX0 13).2.2.1 ∈ wsX0_arrange := by decide +kernel
abbrev F_X0_arrange : Nat := 3
abbrev L_X0_arrange : Nat := 71
theorem hd_X0_arrange : yX0_arrange.cls = RX0 ∧ yX0_arrange.cls ≠ "java/lang/invoke/MethodHandle" ∧ yX0_arrange.cls ≠ "java/lang/invoke/VarHandle" ∧ (parseMethodDescriptor yX0_arrange.desc).map (fun d => d.parameters.length) = some 3 := by decide +kernel
def wp_X0_arrange_L86 (o0 : Nat) (o1 : Nat) (v2 : Int32) (v3 : Int32) (B : Mem → Prop) (X : Mem → Prop) (Q : Mem → Prop)  (M : Mem) : Prop := (wp_X0_fillPage o0 o1 (M 3 o0 0 6) M (fun M92 => (∀ M102 : Mem, M102 = sM M92 3 o0 0 6 ((M92 3 o0 0 6) + 1) → B M102)))
set_option maxHeartbeats 4000000 in
set_option maxRecDepth 100000 in
theorem l_X0_arrange_L86 {l : Launch} {G : GG} {Z : ZT} (h : AX l G cX0_arrange 4 RX0 wsX0_arrange F_X0_arrange L_X0_arrange Z) (hG : GoodG G) {Q : Mem → Prop} (hr : RETv cX0_arrange Q Z) (o0 : Nat) (o1 : Nat) (v2 : Int32) (v3 : Int32) (ho0 : o0 < 5) (ho1 : o1 < 2)   {B : Mem → Prop} (hB : ∀  (M : Mem), B  M → Z 48 [(0, .ref (gA G (3, o0, 0))), (1, .ref (gA G (1, o1, 0)))] [] M) {X : Mem → Prop} (hX : ∀  (M : Mem), X  M → Z 108 [] [] M) (M : Mem) (hw : wp_X0_arrange_L86 o0 o1 v2 v3 B X Q M) : Z 86 [(0, .ref (gA G (3, o0, 0))), (1, .ref (gA G (1, o1, 0)))] [] M := by
  unfold wp_X0_arrange_L86 at hw
  refine h.aload_n (pc := 86) dX0_arrange_86 rfl 0 rfl ?_
  refine h.aload_n (pc := 87) dX0_arrange_87 rfl 1 rfl ?_
  refine h.aload_n (pc := 88) dX0_arrange_88 rfl 0 rfl ?_
  refine h.getf (pc := 89) (f := 3) (o := o0) (i := 0) (ci := 0) (C := RX0) (T := TX0) (N := 14) (j := 6) (v := .int (M 3 o0 0 6)) (k_1 5 (by decide) ho0) rfl rfl (by decide) inX0_arrange_RX0 kX0_arrange_55 rfl dX0_arrange_89 ?_
  refine h.cVv (pc := 92) [.ref (gA G (1, o1, 0)), .int (M 3 o0 0 6)] (3, o0, 0) [] (m_X0_fillPage hG ho0 ho1 hw) gX0_arrange_X0_fillPage rfl hd_X0_fillPage (by decide) (k_1 5 (by decide) ho0) rfl rfl rfl rfl rfl (Nat.le_of_ble_eq_true rfl) dX0_arrange_92 (fun M92 hw => ?_)
  refine h.aload_n (pc := 95) dX0_arrange_95 rfl 0 rfl ?_
  refine h.dup (pc := 96) dX0_arrange_96 rfl ?_
  refine h.getf (pc := 97) (f := 3) (o := o0) (i := 0) (ci := 0) (C := RX0) (T := TX0) (N := 14) (j := 6) (v := .int (M92 3 o0 0 6)) (k_1 5 (by decide) ho0) rfl rfl (by decide) inX0_arrange_RX0 kX0_arrange_55 rfl dX0_arrange_97 ?_
  refine h.iconst (pc := 100) (v := 1) dX0_arrange_100 (by decide) ?_
  refine h.iadd (pc := 101) dX0_arrange_101 ?_
  refine h.putf (pc := 102) (f := 3) (o := o0) (i := 0) (ci := 0) (C := RX0) (T := TX0) (N := 14) (j := 6) (ty := .int) (ty0 := tyX0) (x := ((M92 3 o0 0 6) + 1)) (k_1 5 (by decide) ho0) rfl rfl (by decide) inX0_arrange_RX0 tyX0_ok nmX0 kX0_arrange_55 rfl (tyX0_ok 6 (by decide)) rfl rfl (Nat.le_of_ble_eq_true rfl) rfl dX0_arrange_102 (fun M102 e102 => ?_)
  replace hw := hw M102 e102
  refine h.goto (pc := 105) 48 dX0_arrange_105 (by decide) ?_
  exact hB M102 hw
def wp_X0_arrange_L48 (o0 : Nat) (o1 : Nat) (v2 : Int32) (v3 : Int32)  (X : Mem → Prop) (Q : Mem → Prop) : Nat → Mem → Prop
  | 0, _ => False
  | n + 1, M => (((M 3 o0 0 0) = 0 → X M) ∧ (¬ ((M 3 o0 0 0) = 0) → ((60 ≤ (M 3 o0 0 6) → X M) ∧ (¬ (60 ≤ (M 3 o0 0 6)) → (((M 3 o0 0 12) < (M 1 o1 0 5) → wp_X0_arrange_L86 o0 o1 v2 v3 (wp_X0_arrange_L48 o0 o1 v2 v3 X Q n) X Q M) ∧ (¬ ((M 3 o0 0 12) < (M 1 o1 0 5)) → (((M 3 o0 0 12) ≤ (M 3 o0 0 13) → X M) ∧ (¬ ((M 3 o0 0 12) ≤ (M 3 o0 0 13)) → wp_X0_arrange_L86 o0 o1 v2 v3 (wp_X0_arrange_L48 o0 o1 v2 v3 X Q n) X Q M))))))))
set_option maxHeartbeats 4000000 in
set_option maxRecDepth 100000 in
theorem l_X0_arrange_L48 {l : Launch} {G : GG} {Z : ZT} (h : AX l G cX0_arrange 4 RX0 wsX0_arrange F_X0_arrange L_X0_arrange Z) (hG : GoodG G) {Q : Mem → Prop} (hr : RETv cX0_arrange Q Z) (o0 : Nat) (o1 : Nat) (v2 : Int32) (v3 : Int32) (ho0 : o0 < 5) (ho1 : o1 < 2)   (X : Mem → Prop) (hX : ∀  (M : Mem), X  M → Z 108 [] [] M) : ∀ (n : Nat)  (M : Mem), wp_X0_arrange_L48 o0 o1 v2 v3 X Q n  M → Z 48 [(0, .ref (gA G (3, o0, 0))), (1, .ref (gA G (1, o1, 0)))] [] M := by
  intro n
  induction n with
  | zero => intro M hw; exact hw.elim
  | succ n ih =>
    intro M hw
    unfold wp_X0_arrange_L48 at hw
    refine h.aload_n (pc := 48) dX0_arrange_48 rfl 0 rfl ?_
    refine h.getf (pc := 49) (f := 3) (o := o0) (i := 0) (ci := 0) (C := RX0) (T := TX0) (N := 14) (j := 0) (v := .int (M 3 o0 0 0)) (k_1 5 (by decide) ho0) rfl rfl (by decide) inX0_arrange_RX0 kX0_arrange_51 rfl dX0_arrange_49 ?_
    refine h.if_eq (pc := 52) 108 dX0_arrange_52 (by decide) (fun c52 => ?_) (fun c52 => ?_)
    · replace hw := hw.1 c52
      refine h.sub (pc := 108) [] (lv' := []) rfl ?_
      exact hX M hw
    · replace hw := hw.2 c52
      refine h.aload_n (pc := 55) dX0_arrange_55 rfl 0 rfl ?_
      refine h.getf (pc := 56) (f := 3) (o := o0) (i := 0) (ci := 0) (C := RX0) (T := TX0) (N := 14) (j := 6) (v := .int (M 3 o0 0 6)) (k_1 5 (by decide) ho0) rfl rfl (by decide) inX0_arrange_RX0 kX0_arrange_55 rfl dX0_arrange_56 ?_
      refine h.bipush (pc := 59) (v := 60) dX0_arrange_59 (by decide) ?_
      refine h.icmp_ge (pc := 61) 108 dX0_arrange_61 (by decide) (fun c61 => ?_) (fun c61 => ?_)
      · replace hw := hw.1 c61
        refine h.sub (pc := 108) [] (lv' := []) rfl ?_
        exact hX M hw
      · replace hw := hw.2 c61
        refine h.aload_n (pc := 64) dX0_arrange_64 rfl 0 rfl ?_
        refine h.getf (pc := 65) (f := 3) (o := o0) (i := 0) (ci := 0) (C := RX0) (T := TX0) (N := 14) (j := 12) (v := .int (M 3 o0 0 12)) (k_1 5 (by decide) ho0) rfl rfl (by decide) inX0_arrange_RX0 kX0_arrange_58 rfl dX0_arrange_65 ?_
        refine h.aload_n (pc := 68) dX0_arrange_68 rfl 1 rfl ?_
        refine h.getN (pc := 69) (f := 1) (o := o1) (i := 0) (ci := 3) (C := RX3) (T := TX3) (N := 9) (j := 5) (v := .int (M 1 o1 0 5)) (k_1 2 (by decide) ho1) rfl rfl (by decide) inX0_arrange_RX3 (own0 := RX0) (host := "TableWright") rfl nw_22 rfl dX0_arrange_69 ?_
        refine h.icmp_lt (pc := 72) 86 dX0_arrange_72 (by decide) (fun c72 => ?_) (fun c72 => ?_)
        · replace hw := hw.1 c72
          exact l_X0_arrange_L86 h hG hr o0 o1 v2 v3 ho0 ho1 ih hX M hw
        · replace hw := hw.2 c72
          refine h.aload_n (pc := 75) dX0_arrange_75 rfl 0 rfl ?_
          refine h.getf (pc := 76) (f := 3) (o := o0) (i := 0) (ci := 0) (C := RX0) (T := TX0) (N := 14) (j := 13) (v := .int (M 3 o0 0 13)) (k_1 5 (by decide) ho0) rfl rfl (by decide) inX0_arrange_RX0 kX0_arrange_61 rfl dX0_arrange_76 ?_
          refine h.aload_n (pc := 79) dX0_arrange_79 rfl 0 rfl ?_
          refine h.getf (pc := 80) (f := 3) (o := o0) (i := 0) (ci := 0) (C := RX0) (T := TX0) (N := 14) (j := 12) (v := .int (M 3 o0 0 12)) (k_1 5 (by decide) ho0) rfl rfl (by decide) inX0_arrange_RX0 kX0_arrange_58 rfl dX0_arrange_80 ?_
          refine h.icmp_ge (pc := 83) 108 dX0_arrange_83 (by decide) (fun c83 => ?_) (fun c83 => ?_)
          · replace hw := hw.1 c83
            refine h.sub (pc := 108) [] (lv' := []) rfl ?_
            exact hX M hw
          · replace hw := hw.2 c83
            exact l_X0_arrange_L86 h hG hr o0 o1 v2 v3 ho0 ho1 ih hX M hw
def wp_X0_arrange_L30 (o0 : Nat) (o1 : Nat) (v2 : Int32) (v3 : Int32)  (Q : Mem → Prop) (t0 : Int32) (p1 : Nat) (M : Mem) : Prop := (zb t0 ∧ (∀ M30 : Mem, M30 = sM M 3 p1 0 0 t0 → (∀ M35 : Mem, M35 = sM M30 3 o0 0 6 0 → (∀ M40 : Mem, M40 = sM M35 3 o0 0 12 0 → (∀ M45 : Mem, M45 = sM M40 3 o0 0 13 0 → ∃ n48, wp_X0_arrange_L48 o0 o1 v2 v3 (fun M => Q M) Q n48 M45)))))
set_option maxHeartbeats 4000000 in
set_option maxRecDepth 100000 in
theorem l_X0_arrange_L30 {l : Launch} {G : GG} {Z : ZT} (h : AX l G cX0_arrange 4 RX0 wsX0_arrange F_X0_arrange L_X0_arrange Z) (hG : GoodG G) {Q : Mem → Prop} (hr : RETv cX0_arrange Q Z) (o0 : Nat) (o1 : Nat) (v2 : Int32) (v3 : Int32) (ho0 : o0 < 5) (ho1 : o1 < 2) (t0 : Int32) (p1 : Nat) (hp1 : p1 < 5) (M : Mem) (hw : wp_X0_arrange_L30 o0 o1 v2 v3 Q t0 p1 M) : Z 30 [(0, .ref (gA G (3, o0, 0))), (1, .ref (gA G (1, o1, 0)))] [.int t0, .ref (gA G (3, p1, 0))] M := by
  unfold wp_X0_arrange_L30 at hw
  obtain ⟨hb30, hw⟩ := hw
  refine h.putf (pc := 30) (f := 3) (o := p1) (i := 0) (ci := 0) (C := RX0) (T := TX0) (N := 14) (j := 0) (ty := .boolean) (ty0 := tyX0) (x := t0) (k_1 5 (by decide) hp1) rfl rfl (by decide) inX0_arrange_RX0 tyX0_ok nmX0 kX0_arrange_51 rfl (tyX0_ok 0 (by decide)) (zb_narrow hb30) (zb_fits hb30) (Nat.le_of_ble_eq_true rfl) rfl dX0_arrange_30 (fun M30 e30 => ?_)
  replace hw := hw M30 e30
  refine h.aload_n (pc := 33) dX0_arrange_33 rfl 0 rfl ?_
  refine h.iconst (pc := 34) (v := 0) dX0_arrange_34 (by decide) ?_
  refine h.putf (pc := 35) (f := 3) (o := o0) (i := 0) (ci := 0) (C := RX0) (T := TX0) (N := 14) (j := 6) (ty := .int) (ty0 := tyX0) (x := 0) (k_1 5 (by decide) ho0) rfl rfl (by decide) inX0_arrange_RX0 tyX0_ok nmX0 kX0_arrange_55 rfl (tyX0_ok 6 (by decide)) rfl rfl (Nat.le_of_ble_eq_true rfl) rfl dX0_arrange_35 (fun M35 e35 => ?_)
  replace hw := hw M35 e35
  refine h.aload_n (pc := 38) dX0_arrange_38 rfl 0 rfl ?_
  refine h.iconst (pc := 39) (v := 0) dX0_arrange_39 (by decide) ?_
  refine h.putf (pc := 40) (f := 3) (o := o0) (i := 0) (ci := 0) (C := RX0) (T := TX0) (N := 14) (j := 12) (ty := .int) (ty0 := tyX0) (x := 0) (k_1 5 (by decide) ho0) rfl rfl (by decide) inX0_arrange_RX0 tyX0_ok nmX0 kX0_arrange_58 rfl (tyX0_ok 12 (by decide)) rfl rfl (Nat.le_of_ble_eq_true rfl) rfl dX0_arrange_40 (fun M40 e40 => ?_)
  replace hw := hw M40 e40
  refine h.aload_n (pc := 43) dX0_arrange_43 rfl 0 rfl ?_
  refine h.iconst (pc := 44) (v := 0) dX0_arrange_44 (by decide) ?_
  refine h.putf (pc := 45) (f := 3) (o := o0) (i := 0) (ci := 0) (C := RX0) (T := TX0) (N := 14) (j := 13) (ty := .int) (ty0 := tyX0) (x := 0) (k_1 5 (by decide) ho0) rfl rfl (by decide) inX0_arrange_RX0 tyX0_ok nmX0 kX0_arrange_61 rfl (tyX0_ok 13 (by decide)) rfl rfl (Nat.le_of_ble_eq_true rfl) rfl dX0_arrange_45 (fun M45 e45 => ?_)
  replace hw := hw M45 e45
  obtain ⟨n48, hw⟩ := hw
  exact l_X0_arrange_L48 h hG hr o0 o1 v2 v3 ho0 ho1 _ (fun M hw => by
      exact hr _ _ _ dX0_arrange_108 hw) n48 M45 hw
def wp_X0_arrange_L29 (o0 : Nat) (o1 : Nat) (v2 : Int32) (v3 : Int32)  (Q : Mem → Prop) (p0 : Nat) (M : Mem) : Prop := wp_X0_arrange_L30 o0 o1 v2 v3 Q 0 p0 M
set_option maxHeartbeats 4000000 in
set_option maxRecDepth 100000 in
theorem l_X0_arrange_L29 {l : Launch} {G : GG} {Z : ZT} (h : AX l G cX0_arrange 4 RX0 wsX0_arrange F_X0_arrange L_X0_arrange Z) (hG : GoodG G) {Q : Mem → Prop} (hr : RETv cX0_arrange Q Z) (o0 : Nat) (o1 : Nat) (v2 : Int32) (v3 : Int32) (ho0 : o0 < 5) (ho1 : o1 < 2) (p0 : Nat) (hp0 : p0 < 5) (M : Mem) (hw : wp_X0_arrange_L29 o0 o1 v2 v3 Q p0 M) : Z 29 [(0, .ref (gA G (3, o0, 0))), (1, .ref (gA G (1, o1, 0)))] [.ref (gA G (3, p0, 0))] M := by
  unfold wp_X0_arrange_L29 at hw
  refine h.iconst (pc := 29) (v := 0) dX0_arrange_29 (by decide) ?_
  exact l_X0_arrange_L30 h hG hr o0 o1 v2 v3 ho0 ho1 0 p0 hp0 M hw
def wp_X0_arrange (o0 : Nat) (o1 : Nat) (v2 : Int32) (v3 : Int32) (M : Mem) (Q : Mem → Prop) : Prop := (∀ M4 : Mem, M4 = sM M 3 o0 0 1 (v3 - 3) → (wp_X0_isWidthFit o0 o1 v2 M4 (fun r11 M11 => ((r11 = 0 → wp_X0_arrange_L29 o0 o1 v2 v3 Q o0 M11) ∧ (¬ (r11 = 0) → (wp_X0_areHeightsFit o0 o1 M11 (fun r19 M19 => ((r19 = 0 → wp_X0_arrange_L29 o0 o1 v2 v3 Q o0 M19) ∧ (¬ (r19 = 0) → wp_X0_arrange_L30 o0 o1 v2 v3 Q 1 o0 M19)))))))))
set_option maxHeartbeats 4000000 in
set_option maxRecDepth 100000 in
theorem m_X0_arrange {l : Launch} {G : GG} (hG : GoodG G) {o0 : Nat} {o1 : Nat} {v2 : Int32} {v3 : Int32}  {M : Mem} {Q : Mem → Prop} (ho0 : o0 < 5) (ho1 : o1 < 2) (hw : wp_X0_arrange o0 o1 v2 v3 M Q) : CTv l G yX0_arrange wsX0_arrange F_X0_arrange L_X0_arrange [.ref (gA G (3, o0, 0)), .ref (gA G (1, o1, 0)), .int v2, .int v3] M Q := by
  refine CTv_mk hG (by decide +kernel) rfl (Nat.le_of_ble_eq_true rfl) (fun Z (h : AX l G cX0_arrange 4 RX0 wsX0_arrange F_X0_arrange L_X0_arrange Z) hr => ?_)
  show Z 0 [(0, .ref (gA G (3, o0, 0))), (1, .ref (gA G (1, o1, 0))), (2, .int v2), (3, .int v3)] [] M
  unfold wp_X0_arrange at hw
  refine h.aload_n (pc := 0) dX0_arrange_0 rfl 0 rfl ?_
  refine h.iload_n (pc := 1) dX0_arrange_1 rfl 3 rfl ?_
  refine h.iconst (pc := 2) (v := 3) dX0_arrange_2 (by decide) ?_
  refine h.isub (pc := 3) dX0_arrange_3 ?_
  refine h.putf (pc := 4) (f := 3) (o := o0) (i := 0) (ci := 0) (C := RX0) (T := TX0) (N := 14) (j := 1) (ty := .int) (ty0 := tyX0) (x := (v3 - 3)) (k_1 5 (by decide) ho0) rfl rfl (by decide) inX0_arrange_RX0 tyX0_ok nmX0 kX0_arrange_39 rfl (tyX0_ok 1 (by decide)) rfl rfl (Nat.le_of_ble_eq_true rfl) rfl dX0_arrange_4 (fun M4 e4 => ?_)
  replace hw := hw M4 e4
  refine h.aload_n (pc := 7) dX0_arrange_7 rfl 0 rfl ?_
  refine h.aload_n (pc := 8) dX0_arrange_8 rfl 0 rfl ?_
  refine h.aload_n (pc := 9) dX0_arrange_9 rfl 1 rfl ?_
  refine h.iload_n (pc := 10) dX0_arrange_10 rfl 2 rfl ?_
  refine h.cVi (pc := 11) [.ref (gA G (1, o1, 0)), .int v2] (3, o0, 0) [.ref (gA G (3, o0, 0))] (m_X0_isWidthFit hG ho0 ho1 hw) gX0_arrange_X0_isWidthFit rfl hd_X0_isWidthFit (by decide) (k_1 5 (by decide) ho0) rfl rfl rfl rfl rfl (Nat.le_of_ble_eq_true rfl) dX0_arrange_11 (fun r11 M11 hw => ?_)
  refine h.if_eq (pc := 14) 29 dX0_arrange_14 (by decide) (fun c14 => ?_) (fun c14 => ?_)
  · replace hw := hw.1 c14
    refine h.sub (pc := 29) [0, 1] (lv' := [(0, .ref (gA G (3, o0, 0))), (1, .ref (gA G (1, o1, 0)))]) rfl ?_
    exact l_X0_arrange_L29 h hG hr o0 o1 v2 v3 ho0 ho1 o0 ho0 M11 hw
  · replace hw := hw.2 c14
    refine h.aload_n (pc := 17) dX0_arrange_17 rfl 0 rfl ?_
    refine h.aload_n (pc := 18) dX0_arrange_18 rfl 1 rfl ?_
    refine h.cVi (pc := 19) [.ref (gA G (1, o1, 0))] (3, o0, 0) [.ref (gA G (3, o0, 0))] (m_X0_areHeightsFit hG ho0 ho1 hw) gX0_arrange_X0_areHeightsFit rfl hd_X0_areHeightsFit (by decide) (k_1 5 (by decide) ho0) rfl rfl rfl rfl rfl (Nat.le_of_ble_eq_true rfl) dX0_arrange_19 (fun r19 M19 hw => ?_)
    refine h.if_eq (pc := 22) 29 dX0_arrange_22 (by decide) (fun c22 => ?_) (fun c22 => ?_)
    · replace hw := hw.1 c22
      refine h.sub (pc := 29) [0, 1] (lv' := [(0, .ref (gA G (3, o0, 0))), (1, .ref (gA G (1, o1, 0)))]) rfl ?_
      exact l_X0_arrange_L29 h hG hr o0 o1 v2 v3 ho0 ho1 o0 ho0 M19 hw
    · replace hw := hw.2 c22
      refine h.iconst (pc := 25) (v := 1) dX0_arrange_25 (by decide) ?_
      refine h.goto (pc := 26) 30 dX0_arrange_26 (by decide) ?_
      refine h.sub (pc := 30) [0, 1] (lv' := [(0, .ref (gA G (3, o0, 0))), (1, .ref (gA G (1, o1, 0)))]) rfl ?_
      exact l_X0_arrange_L30 h hG hr o0 o1 v2 v3 ho0 ho1 1 o0 ho0 M19 hw
-- X2_arrange
theorem inX2_arrange_RX0 : ∀ w ∈ u_ws RX0 TX0 14, w ∈ wsX2_arrange := by decide +kernel
theorem inX2_arrange_RX2 : ∀ w ∈ u_ws RX2 TX2 3, w ∈ wsX2_arrange := by decide +kernel
theorem kX2_arrange_10 : Cond.fieldLink RX2 10 (TX2 0).1 (TX2 0).2.1 (TX2 0).2.2.1 ∈ wsX2_arrange := by decide +kernel
theorem kX2_arrange_16 : Cond.fieldLink RX2 16 (TX2 1).1 (TX2 1).2.1 (TX2 1).2.2.1 ∈ wsX2_arrange := by decide +kernel
theorem kX2_arrange_31 : Cond.fieldLink RX2 31 (TX2 2).1 (TX2 2).2.1 (TX2 2).2.2.1 ∈ wsX2_arrange := by decide +kernel
abbrev F_X2_arrange : Nat := 4
abbrev L_X2_arrange : Nat := 94
theorem hd_X2_arrange : yX2_arrange.cls = RX2 ∧ yX2_arrange.cls ≠ "java/lang/invoke/MethodHandle" ∧ yX2_arrange.cls ≠ "java/lang/invoke/VarHandle" ∧ (parseMethodDescriptor yX2_arrange.desc).map (fun d => d.parameters.length) = some 3 := by decide +kernel
def wp_X2_arrange_L62 (o0 : Nat) (o1 : Nat) (v2 : Int32) (v3 : Int32)  (Q : Mem → Prop) (t0 : Int32) (M : Mem) : Prop := (((M 3 (2 * o0 + 1) 0 0) = 0 → (∀ M85 : Mem, M85 = sM M 2 o0 0 2 0 → Q M85)) ∧ (¬ ((M 3 (2 * o0 + 1) 0 0) = 0) → ((t0 = 0 → (∀ M85 : Mem, M85 = sM M 2 o0 0 2 1 → Q M85)) ∧ (¬ (t0 = 0) → (∀ M85 : Mem, M85 = sM M 2 o0 0 2 0 → Q M85)))))
set_option maxHeartbeats 4000000 in
set_option maxRecDepth 100000 in
theorem l_X2_arrange_L62 {l : Launch} {G : GG} {Z : ZT} (h : AX l G cX2_arrange 5 RX2 wsX2_arrange F_X2_arrange L_X2_arrange Z) (hG : GoodG G) {Q : Mem → Prop} (hr : RETv cX2_arrange Q Z) (o0 : Nat) (o1 : Nat) (v2 : Int32) (v3 : Int32) (ho0 : o0 < 2) (ho1 : o1 < 2) (t0 : Int32)  (M : Mem) (hw : wp_X2_arrange_L62 o0 o1 v2 v3 Q t0 M) : Z 62 [(0, .ref (gA G (2, o0, 0)))] [.int t0] M := by
  unfold wp_X2_arrange_L62 at hw
  refine h.istore (pc := 62) [(4, .int t0), (0, .ref (gA G (2, o0, 0)))] dX2_arrange_62 (by decide) rfl ?_
  refine h.aload_n (pc := 64) dX2_arrange_64 rfl 1 rfl ?_
  refine h.aload_n (pc := 65) dX2_arrange_65 rfl 1 rfl ?_
  refine h.getf (pc := 66) (f := 2) (o := o0) (i := 0) (ci := 2) (C := RX2) (T := TX2) (N := 3) (j := 1) (v := .ref (gA G (3, (2 * o0 + 1), 0))) (k_1 2 (by decide) ho0) rfl rfl (by decide) inX2_arrange_RX2 kX2_arrange_16 rfl dX2_arrange_66 ?_
  refine h.getN (pc := 69) (f := 3) (o := (2 * o0 + 1)) (i := 0) (ci := 0) (C := RX0) (T := TX0) (N := 14) (j := 0) (v := .int (M 3 (2 * o0 + 1) 0 0)) (k_1 5 (by decide) (by omega)) rfl rfl (by decide) inX2_arrange_RX0 (own0 := RX2) (host := "TableWright") rfl nw_30 rfl dX2_arrange_69 ?_
  refine h.if_eq (pc := 72) 84 dX2_arrange_72 (by decide) (fun c72 => ?_) (fun c72 => ?_)
  · replace hw := hw.1 c72
    refine h.iconst (pc := 84) (v := 0) dX2_arrange_84 (by decide) ?_
    refine h.putf (pc := 85) (f := 2) (o := o0) (i := 0) (ci := 2) (C := RX2) (T := TX2) (N := 3) (j := 2) (ty := .boolean) (ty0 := tyX2) (x := 0) (k_1 2 (by decide) ho0) rfl rfl (by decide) inX2_arrange_RX2 tyX2_ok nmX2 kX2_arrange_31 rfl (tyX2_ok 2 (by decide)) (zb_narrow zb_0) (zb_fits zb_0) (Nat.le_of_ble_eq_true rfl) rfl dX2_arrange_85 (fun M85 e85 => ?_)
    replace hw := hw M85 e85
    exact hr _ _ _ dX2_arrange_88 hw
  · replace hw := hw.2 c72
    refine h.iload (pc := 75) dX2_arrange_75 0 rfl ?_
    refine h.if_ne (pc := 77) 84 dX2_arrange_77 (by decide) (fun c77 => ?_) (fun c77 => ?_)
    · replace hw := hw.2 c77
      refine h.iconst (pc := 84) (v := 0) dX2_arrange_84 (by decide) ?_
      refine h.putf (pc := 85) (f := 2) (o := o0) (i := 0) (ci := 2) (C := RX2) (T := TX2) (N := 3) (j := 2) (ty := .boolean) (ty0 := tyX2) (x := 0) (k_1 2 (by decide) ho0) rfl rfl (by decide) inX2_arrange_RX2 tyX2_ok nmX2 kX2_arrange_31 rfl (tyX2_ok 2 (by decide)) (zb_narrow zb_0) (zb_fits zb_0) (Nat.le_of_ble_eq_true rfl) rfl dX2_arrange_85 (fun M85 e85 => ?_)
      replace hw := hw M85 e85
      exact hr _ _ _ dX2_arrange_88 hw
    · replace hw := hw.1 c77
      refine h.iconst (pc := 80) (v := 1) dX2_arrange_80 (by decide) ?_
      refine h.goto (pc := 81) 85 dX2_arrange_81 (by decide) ?_
      refine h.putf (pc := 85) (f := 2) (o := o0) (i := 0) (ci := 2) (C := RX2) (T := TX2) (N := 3) (j := 2) (ty := .boolean) (ty0 := tyX2) (x := 1) (k_1 2 (by decide) ho0) rfl rfl (by decide) inX2_arrange_RX2 tyX2_ok nmX2 kX2_arrange_31 rfl (tyX2_ok 2 (by decide)) (zb_narrow zb_1) (zb_fits zb_1) (Nat.le_of_ble_eq_true rfl) rfl dX2_arrange_85 (fun M85 e85 => ?_)
      replace hw := hw M85 e85
      exact hr _ _ _ dX2_arrange_88 hw
def wp_X2_arrange_L61 (o0 : Nat) (o1 : Nat) (v2 : Int32) (v3 : Int32)  (Q : Mem → Prop)  (M : Mem) : Prop := wp_X2_arrange_L62 o0 o1 v2 v3 Q 0 M
set_option maxHeartbeats 4000000 in
set_option maxRecDepth 100000 in
theorem l_X2_arrange_L61 {l : Launch} {G : GG} {Z : ZT} (h : AX l G cX2_arrange 5 RX2 wsX2_arrange F_X2_arrange L_X2_arrange Z) (hG : GoodG G) {Q : Mem → Prop} (hr : RETv cX2_arrange Q Z) (o0 : Nat) (o1 : Nat) (v2 : Int32) (v3 : Int32) (ho0 : o0 < 2) (ho1 : o1 < 2)   (M : Mem) (hw : wp_X2_arrange_L61 o0 o1 v2 v3 Q M) : Z 61 [(0, .ref (gA G (2, o0, 0)))] [] M := by
  unfold wp_X2_arrange_L61 at hw
  refine h.iconst (pc := 61) (v := 0) dX2_arrange_61 (by decide) ?_
  exact l_X2_arrange_L62 h hG hr o0 o1 v2 v3 ho0 ho1 0 M hw
def wp_X2_arrange_L57 (o0 : Nat) (o1 : Nat) (v2 : Int32) (v3 : Int32)  (Q : Mem → Prop)  (M : Mem) : Prop := wp_X2_arrange_L62 o0 o1 v2 v3 Q 1 M
set_option maxHeartbeats 4000000 in
set_option maxRecDepth 100000 in
theorem l_X2_arrange_L57 {l : Launch} {G : GG} {Z : ZT} (h : AX l G cX2_arrange 5 RX2 wsX2_arrange F_X2_arrange L_X2_arrange Z) (hG : GoodG G) {Q : Mem → Prop} (hr : RETv cX2_arrange Q Z) (o0 : Nat) (o1 : Nat) (v2 : Int32) (v3 : Int32) (ho0 : o0 < 2) (ho1 : o1 < 2)   (M : Mem) (hw : wp_X2_arrange_L57 o0 o1 v2 v3 Q M) : Z 57 [(0, .ref (gA G (2, o0, 0)))] [] M := by
  unfold wp_X2_arrange_L57 at hw
  refine h.iconst (pc := 57) (v := 1) dX2_arrange_57 (by decide) ?_
  refine h.goto (pc := 58) 62 dX2_arrange_58 (by decide) ?_
  exact l_X2_arrange_L62 h hG hr o0 o1 v2 v3 ho0 ho1 1 M hw
def wp_X2_arrange (o0 : Nat) (o1 : Nat) (v2 : Int32) (v3 : Int32) (M : Mem) (Q : Mem → Prop) : Prop := (wp_X0_arrange (2 * o0) o1 v2 v3 M (fun M7 => (wp_X0_arrange (2 * o0 + 1) o1 v3 v2 M7 (fun M17 => (((M17 3 (2 * o0) 0 0) = 0 → wp_X2_arrange_L61 o0 o1 v2 v3 Q M17) ∧ (¬ ((M17 3 (2 * o0) 0 0) = 0) → (((M17 3 (2 * o0 + 1) 0 0) = 0 → wp_X2_arrange_L57 o0 o1 v2 v3 Q M17) ∧ (¬ ((M17 3 (2 * o0 + 1) 0 0) = 0) → (((M17 3 (2 * o0 + 1) 0 6) < (M17 3 (2 * o0) 0 6) → wp_X2_arrange_L61 o0 o1 v2 v3 Q M17) ∧ (¬ ((M17 3 (2 * o0 + 1) 0 6) < (M17 3 (2 * o0) 0 6)) → wp_X2_arrange_L57 o0 o1 v2 v3 Q M17))))))))))
set_option maxHeartbeats 4000000 in
set_option maxRecDepth 100000 in
theorem m_X2_arrange {l : Launch} {G : GG} (hG : GoodG G) {o0 : Nat} {o1 : Nat} {v2 : Int32} {v3 : Int32}  {M : Mem} {Q : Mem → Prop} (ho0 : o0 < 2) (ho1 : o1 < 2) (hw : wp_X2_arrange o0 o1 v2 v3 M Q) : CTv l G yX2_arrange wsX2_arrange F_X2_arrange L_X2_arrange [.ref (gA G (2, o0, 0)), .ref (gA G (1, o1, 0)), .int v2, .int v3] M Q := by
  refine CTv_mk hG (by decide +kernel) rfl (Nat.le_of_ble_eq_true rfl) (fun Z (h : AX l G cX2_arrange 5 RX2 wsX2_arrange F_X2_arrange L_X2_arrange Z) hr => ?_)
  show Z 0 [(0, .ref (gA G (2, o0, 0))), (1, .ref (gA G (1, o1, 0))), (2, .int v2), (3, .int v3)] [] M
  unfold wp_X2_arrange at hw
  refine h.aload_n (pc := 0) dX2_arrange_0 rfl 0 rfl ?_
  refine h.getf (pc := 1) (f := 2) (o := o0) (i := 0) (ci := 2) (C := RX2) (T := TX2) (N := 3) (j := 0) (v := .ref (gA G (3, (2 * o0), 0))) (k_1 2 (by decide) ho0) rfl rfl (by decide) inX2_arrange_RX2 kX2_arrange_10 rfl dX2_arrange_1 ?_
  refine h.aload_n (pc := 4) dX2_arrange_4 rfl 1 rfl ?_
  refine h.iload_n (pc := 5) dX2_arrange_5 rfl 2 rfl ?_
  refine h.iload_n (pc := 6) dX2_arrange_6 rfl 3 rfl ?_
  refine h.cVv (pc := 7) [.ref (gA G (1, o1, 0)), .int v2, .int v3] (3, (2 * o0), 0) [] (m_X0_arrange hG (by omega) ho1 hw) gX2_arrange_X0_arrange rfl hd_X0_arrange (by decide) (k_1 5 (by decide) (by omega)) rfl rfl rfl rfl rfl (Nat.le_of_ble_eq_true rfl) dX2_arrange_7 (fun M7 hw => ?_)
  refine h.aload_n (pc := 10) dX2_arrange_10 rfl 0 rfl ?_
  refine h.getf (pc := 11) (f := 2) (o := o0) (i := 0) (ci := 2) (C := RX2) (T := TX2) (N := 3) (j := 1) (v := .ref (gA G (3, (2 * o0 + 1), 0))) (k_1 2 (by decide) ho0) rfl rfl (by decide) inX2_arrange_RX2 kX2_arrange_16 rfl dX2_arrange_11 ?_
  refine h.aload_n (pc := 14) dX2_arrange_14 rfl 1 rfl ?_
  refine h.iload_n (pc := 15) dX2_arrange_15 rfl 3 rfl ?_
  refine h.iload_n (pc := 16) dX2_arrange_16 rfl 2 rfl ?_
  refine h.cVv (pc := 17) [.ref (gA G (1, o1, 0)), .int v3, .int v2] (3, (2 * o0 + 1), 0) [] (m_X0_arrange hG (by omega) ho1 hw) gX2_arrange_X0_arrange rfl hd_X0_arrange (by decide) (k_1 5 (by decide) (by omega)) rfl rfl rfl rfl rfl (Nat.le_of_ble_eq_true rfl) dX2_arrange_17 (fun M17 hw => ?_)
  refine h.aload_n (pc := 20) dX2_arrange_20 rfl 0 rfl ?_
  refine h.getf (pc := 21) (f := 2) (o := o0) (i := 0) (ci := 2) (C := RX2) (T := TX2) (N := 3) (j := 0) (v := .ref (gA G (3, (2 * o0), 0))) (k_1 2 (by decide) ho0) rfl rfl (by decide) inX2_arrange_RX2 kX2_arrange_10 rfl dX2_arrange_21 ?_
  refine h.getN (pc := 24) (f := 3) (o := (2 * o0)) (i := 0) (ci := 0) (C := RX0) (T := TX0) (N := 14) (j := 0) (v := .int (M17 3 (2 * o0) 0 0)) (k_1 5 (by decide) (by omega)) rfl rfl (by decide) inX2_arrange_RX0 (own0 := RX2) (host := "TableWright") rfl nw_30 rfl dX2_arrange_24 ?_
  refine h.if_eq (pc := 27) 61 dX2_arrange_27 (by decide) (fun c27 => ?_) (fun c27 => ?_)
  · replace hw := hw.1 c27
    refine h.sub (pc := 61) [0] (lv' := [(0, .ref (gA G (2, o0, 0)))]) rfl ?_
    exact l_X2_arrange_L61 h hG hr o0 o1 v2 v3 ho0 ho1 M17 hw
  · replace hw := hw.2 c27
    refine h.aload_n (pc := 30) dX2_arrange_30 rfl 0 rfl ?_
    refine h.getf (pc := 31) (f := 2) (o := o0) (i := 0) (ci := 2) (C := RX2) (T := TX2) (N := 3) (j := 1) (v := .ref (gA G (3, (2 * o0 + 1), 0))) (k_1 2 (by decide) ho0) rfl rfl (by decide) inX2_arrange_RX2 kX2_arrange_16 rfl dX2_arrange_31 ?_
    refine h.getN (pc := 34) (f := 3) (o := (2 * o0 + 1)) (i := 0) (ci := 0) (C := RX0) (T := TX0) (N := 14) (j := 0) (v := .int (M17 3 (2 * o0 + 1) 0 0)) (k_1 5 (by decide) (by omega)) rfl rfl (by decide) inX2_arrange_RX0 (own0 := RX2) (host := "TableWright") rfl nw_30 rfl dX2_arrange_34 ?_
    refine h.if_eq (pc := 37) 57 dX2_arrange_37 (by decide) (fun c37 => ?_) (fun c37 => ?_)
    · replace hw := hw.1 c37
      refine h.sub (pc := 57) [0] (lv' := [(0, .ref (gA G (2, o0, 0)))]) rfl ?_
      exact l_X2_arrange_L57 h hG hr o0 o1 v2 v3 ho0 ho1 M17 hw
    · replace hw := hw.2 c37
      refine h.aload_n (pc := 40) dX2_arrange_40 rfl 0 rfl ?_
      refine h.getf (pc := 41) (f := 2) (o := o0) (i := 0) (ci := 2) (C := RX2) (T := TX2) (N := 3) (j := 0) (v := .ref (gA G (3, (2 * o0), 0))) (k_1 2 (by decide) ho0) rfl rfl (by decide) inX2_arrange_RX2 kX2_arrange_10 rfl dX2_arrange_41 ?_
      refine h.getN (pc := 44) (f := 3) (o := (2 * o0)) (i := 0) (ci := 0) (C := RX0) (T := TX0) (N := 14) (j := 6) (v := .int (M17 3 (2 * o0) 0 6)) (k_1 5 (by decide) (by omega)) rfl rfl (by decide) inX2_arrange_RX0 (own0 := RX2) (host := "TableWright") rfl nw_36 rfl dX2_arrange_44 ?_
      refine h.aload_n (pc := 47) dX2_arrange_47 rfl 0 rfl ?_
      refine h.getf (pc := 48) (f := 2) (o := o0) (i := 0) (ci := 2) (C := RX2) (T := TX2) (N := 3) (j := 1) (v := .ref (gA G (3, (2 * o0 + 1), 0))) (k_1 2 (by decide) ho0) rfl rfl (by decide) inX2_arrange_RX2 kX2_arrange_16 rfl dX2_arrange_48 ?_
      refine h.getN (pc := 51) (f := 3) (o := (2 * o0 + 1)) (i := 0) (ci := 0) (C := RX0) (T := TX0) (N := 14) (j := 6) (v := .int (M17 3 (2 * o0 + 1) 0 6)) (k_1 5 (by decide) (by omega)) rfl rfl (by decide) inX2_arrange_RX0 (own0 := RX2) (host := "TableWright") rfl nw_36 rfl dX2_arrange_51 ?_
      refine h.icmp_gt (pc := 54) 61 dX2_arrange_54 (by decide) (fun c54 => ?_) (fun c54 => ?_)
      · replace hw := hw.1 c54
        refine h.sub (pc := 61) [0] (lv' := [(0, .ref (gA G (2, o0, 0)))]) rfl ?_
        exact l_X2_arrange_L61 h hG hr o0 o1 v2 v3 ho0 ho1 M17 hw
      · replace hw := hw.2 c54
        refine h.sub (pc := 57) [0] (lv' := [(0, .ref (gA G (2, o0, 0)))]) rfl ?_
        exact l_X2_arrange_L57 h hG hr o0 o1 v2 v3 ho0 ho1 M17 hw
-- X2_chosen
theorem inX2_chosen_RX2 : ∀ w ∈ u_ws RX2 TX2 3, w ∈ wsX2_chosen := by decide +kernel
theorem kX2_chosen_31 : Cond.fieldLink RX2 31 (TX2 2).1 (TX2 2).2.1 (TX2 2).2.2.1 ∈ wsX2_chosen := by decide +kernel
theorem kX2_chosen_10 : Cond.fieldLink RX2 10 (TX2 0).1 (TX2 0).2.1 (TX2 0).2.2.1 ∈ wsX2_chosen := by decide +kernel
theorem kX2_chosen_16 : Cond.fieldLink RX2 16 (TX2 1).1 (TX2 1).2.1 (TX2 1).2.2.1 ∈ wsX2_chosen := by decide +kernel
abbrev F_X2_chosen : Nat := 0
abbrev L_X2_chosen : Nat := 0
theorem hd_X2_chosen : yX2_chosen.cls = RX2 ∧ yX2_chosen.cls ≠ "java/lang/invoke/MethodHandle" ∧ yX2_chosen.cls ≠ "java/lang/invoke/VarHandle" ∧ (parseMethodDescriptor yX2_chosen.desc).map (fun d => d.parameters.length) = some 0 := by decide +kernel
def wp_X2_chosen (o0 : Nat) (M : Mem) (Q : Nat → Mem → Prop) : Prop := (((M 2 o0 0 2) = 0 → Q (2 * o0) M) ∧ (¬ ((M 2 o0 0 2) = 0) → Q (2 * o0 + 1) M))
set_option maxHeartbeats 4000000 in
set_option maxRecDepth 100000 in
theorem m_X2_chosen {l : Launch} {G : GG} (hG : GoodG G) {o0 : Nat}  {M : Mem} {Q : Nat → Mem → Prop} (ho0 : o0 < 2) (hw : wp_X2_chosen o0 M Q) : CTr l G yX2_chosen wsX2_chosen F_X2_chosen L_X2_chosen [.ref (gA G (2, o0, 0))] M Q := by
  refine CTr_mk hG (by decide +kernel) rfl (Nat.le_of_ble_eq_true rfl) (fun Z (h : AX l G cX2_chosen 1 RX2 wsX2_chosen F_X2_chosen L_X2_chosen Z) hr => ?_)
  show Z 0 [(0, .ref (gA G (2, o0, 0)))] [] M
  unfold wp_X2_chosen at hw
  refine h.aload_n (pc := 0) dX2_chosen_0 rfl 0 rfl ?_
  refine h.getf (pc := 1) (f := 2) (o := o0) (i := 0) (ci := 2) (C := RX2) (T := TX2) (N := 3) (j := 2) (v := .int (M 2 o0 0 2)) (k_1 2 (by decide) ho0) rfl rfl (by decide) inX2_chosen_RX2 kX2_chosen_31 rfl dX2_chosen_1 ?_
  refine h.if_eq (pc := 4) 14 dX2_chosen_4 (by decide) (fun c4 => ?_) (fun c4 => ?_)
  · replace hw := hw.1 c4
    refine h.aload_n (pc := 14) dX2_chosen_14 rfl 0 rfl ?_
    refine h.getf (pc := 15) (f := 2) (o := o0) (i := 0) (ci := 2) (C := RX2) (T := TX2) (N := 3) (j := 0) (v := .ref (gA G (3, (2 * o0), 0))) (k_1 2 (by decide) ho0) rfl rfl (by decide) inX2_chosen_RX2 kX2_chosen_10 rfl dX2_chosen_15 ?_
    exact hr _ _ _ _ dX2_chosen_18 (by omega) hw
  · replace hw := hw.2 c4
    refine h.aload_n (pc := 7) dX2_chosen_7 rfl 0 rfl ?_
    refine h.getf (pc := 8) (f := 2) (o := o0) (i := 0) (ci := 2) (C := RX2) (T := TX2) (N := 3) (j := 1) (v := .ref (gA G (3, (2 * o0 + 1), 0))) (k_1 2 (by decide) ho0) rfl rfl (by decide) inX2_chosen_RX2 kX2_chosen_16 rfl dX2_chosen_8 ?_
    refine h.goto (pc := 11) 18 dX2_chosen_11 (by decide) ?_
    exact hr _ _ _ _ dX2_chosen_18 (by omega) hw
