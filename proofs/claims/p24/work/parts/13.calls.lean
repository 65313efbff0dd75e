-- X4_column
theorem inX4_column_RX4 : ∀ w ∈ u_ws RX4 TX4 8, w ∈ wsX4_column := by decide +kernel
theorem kX4_column_30 : Cond.fieldLink RX4 30 (TX4 4).1 (TX4 4).2.1 (TX4 4).2.2.1 ∈ wsX4_column := by decide +kernel
theorem kX4_column_12 : Cond.fieldLink RX4 12 (TX4 0).1 (TX4 0).2.1 (TX4 0).2.2.1 ∈ wsX4_column := by decide +kernel
abbrev F_X4_column : Nat := 1
abbrev L_X4_column : Nat := 23
theorem hd_X4_column : yX4_column.cls = RX4 ∧ yX4_column.cls ≠ "java/lang/invoke/MethodHandle" ∧ yX4_column.cls ≠ "java/lang/invoke/VarHandle" ∧ (parseMethodDescriptor yX4_column.desc).map (fun d => d.parameters.length) = some 2 := by decide +kernel
def wp_X4_column_L29 (v1 : Int32) (v2 : Int32)  (Q : Int32 → Mem → Prop) (t0 : Int32) (p1 : Nat) (M : Mem) : Prop := (wp_X3_addColumn p1 t0 v2 M (fun r30 M30 => Q r30 M30))
set_option maxHeartbeats 4000000 in
set_option maxRecDepth 100000 in
theorem l_X4_column_L29 {l : Launch} {G : GG} {Z : ZT} (h : AX l G cX4_column 3 RX4 wsX4_column F_X4_column L_X4_column Z) (hG : GoodG G) {Q : Int32 → Mem → Prop} (hr : RETi cX4_column Q Z) (v1 : Int32) (v2 : Int32)  (t0 : Int32) (p1 : Nat) (hp1 : p1 < 2) (M : Mem) (hw : wp_X4_column_L29 v1 v2 Q t0 p1 M) : Z 29 [(2, .int v2)] [.int t0, .ref (gA G (1, p1, 0))] M := by
  unfold wp_X4_column_L29 at hw
  refine h.iload_n (pc := 29) dX4_column_29 rfl 0 rfl ?_
  refine h.cVi (pc := 30) [.int t0, .int v2] (1, p1, 0) [] (m_X3_addColumn hG hp1 hw) gX4_column_X3_addColumn rfl hd_X3_addColumn (by decide) (k_1 2 (by decide) hp1) rfl rfl rfl rfl rfl (Nat.le_of_ble_eq_true rfl) dX4_column_30 (fun r30 M30 hw => ?_)
  exact hr _ _ _ _ dX4_column_33 hw
def wp_X4_column (v1 : Int32) (v2 : Int32) (M : Mem) (Q : Int32 → Mem → Prop) : Prop := (wp_X4_requireRange v2 1 12 M (fun M4 => (wp_X4_requireSpareColumn M4 (fun M8 => (∀ M13 : Mem, M13 = sM M8 0 0 0 4 1 → ((v1 = 0 → wp_X4_column_L29 v1 v2 Q 0 0 M13) ∧ (¬ (v1 = 0) → wp_X4_column_L29 v1 v2 Q 1 0 M13)))))))
set_option maxHeartbeats 4000000 in
set_option maxRecDepth 100000 in
theorem m_X4_column {l : Launch} {G : GG} (hG : GoodG G) {v1 : Int32} {v2 : Int32}  {M : Mem} {Q : Int32 → Mem → Prop}  (hw : wp_X4_column v1 v2 M Q) : CTi l G yX4_column wsX4_column F_X4_column L_X4_column [.ref (gA G (0, 0, 0)), .int v1, .int v2] M Q := by
  refine CTi_mk hG (by decide +kernel) rfl (Nat.le_of_ble_eq_true rfl) (fun Z (h : AX l G cX4_column 3 RX4 wsX4_column F_X4_column L_X4_column Z) hr => ?_)
  show Z 0 [(0, .ref (gA G (0, 0, 0))), (1, .int v1), (2, .int v2)] [] M
  unfold wp_X4_column at hw
  refine h.iload_n (pc := 0) dX4_column_0 rfl 2 rfl ?_
  refine h.iconst (pc := 1) (v := 1) dX4_column_1 (by decide) ?_
  refine h.bipush (pc := 2) (v := 12) dX4_column_2 (by decide) ?_
  refine h.cSv (pc := 4) [.int v2, .int 1, .int 12] [] (m_X4_requireRange hG  hw) gX4_column_X4_requireRange rfl hd_X4_requireRange (by decide) rfl rfl (Nat.le_of_ble_eq_true rfl) dX4_column_4 (fun M4 hw => ?_)
  refine h.aload_n (pc := 7) dX4_column_7 rfl 0 rfl ?_
  refine h.cVv (pc := 8) [] (0, 0, 0) [] (m_X4_requireSpareColumn hG  hw) gX4_column_X4_requireSpareColumn rfl hd_X4_requireSpareColumn (by decide) (k_1 1 (by decide) (by decide)) rfl rfl rfl rfl rfl (Nat.le_of_ble_eq_true rfl) dX4_column_8 (fun M8 hw => ?_)
  refine h.aload_n (pc := 11) dX4_column_11 rfl 0 rfl ?_
  refine h.iconst (pc := 12) (v := 1) dX4_column_12 (by decide) ?_
  refine h.putf (pc := 13) (f := 0) (o := 0) (i := 0) (ci := 4) (C := RX4) (T := TX4) (N := 8) (j := 4) (ty := .boolean) (ty0 := tyX4) (x := 1) (k_1 1 (by decide) (by decide)) rfl rfl (by decide) inX4_column_RX4 tyX4_ok nmX4 kX4_column_30 rfl (tyX4_ok 4 (by decide)) (zb_narrow zb_1) (zb_fits zb_1) (Nat.le_of_ble_eq_true rfl) rfl dX4_column_13 (fun M13 e13 => ?_)
  replace hw := hw M13 e13
  refine h.aload_n (pc := 16) dX4_column_16 rfl 0 rfl ?_
  refine h.getf (pc := 17) (f := 0) (o := 0) (i := 0) (ci := 4) (C := RX4) (T := TX4) (N := 8) (j := 0) (v := .ref (gA G (1, 0, 0))) (k_1 1 (by decide) (by decide)) rfl rfl (by decide) inX4_column_RX4 kX4_column_12 rfl dX4_column_17 ?_
  refine h.iload_n (pc := 20) dX4_column_20 rfl 1 rfl ?_
  refine h.if_eq (pc := 21) 28 dX4_column_21 (by decide) (fun c21 => ?_) (fun c21 => ?_)
  · replace hw := hw.1 c21
    refine h.iconst (pc := 28) (v := 0) dX4_column_28 (by decide) ?_
    refine h.sub (pc := 29) [2] (lv' := [(2, .int v2)]) rfl ?_
    exact l_X4_column_L29 h hG hr v1 v2 0 0 (by decide) M13 hw
  · replace hw := hw.2 c21
    refine h.iconst (pc := 24) (v := 1) dX4_column_24 (by decide) ?_
    refine h.goto (pc := 25) 29 dX4_column_25 (by decide) ?_
    refine h.sub (pc := 29) [2] (lv' := [(2, .int v2)]) rfl ?_
    exact l_X4_column_L29 h hG hr v1 v2 1 0 (by decide) M13 hw
-- X4_row
theorem inX4_row_RX3 : ∀ w ∈ u_ws RX3 TX3 9, w ∈ wsX4_row := by decide +kernel
theorem inX4_row_RX4 : ∀ w ∈ u_ws RX4 TX4 8, w ∈ wsX4_row := by decide +kernel
theorem kX4_row_12 : Cond.fieldLink RX4 12 (TX4 0).1 (TX4 0).2.1 (TX4 0).2.2.1 ∈ wsX4_row := by decide +kernel
theorem kX4_row_30 : Cond.fieldLink RX4 30 (TX4 4).1 (TX4 4).2.1 (TX4 4).2.2.1 ∈ wsX4_row := by decide +kernel
abbrev F_X4_row : Nat := 2
abbrev L_X4_row : Nat := 41
theorem hd_X4_row : yX4_row.cls = RX4 ∧ yX4_row.cls ≠ "java/lang/invoke/MethodHandle" ∧ yX4_row.cls ≠ "java/lang/invoke/VarHandle" ∧ (parseMethodDescriptor yX4_row.desc).map (fun d => d.parameters.length) = some 0 := by decide +kernel
def wp_X4_row  (M : Mem) (Q : Int32 → Mem → Prop) : Prop := (((M 1 0 0 5) < 30 → (∀ M24 : Mem, M24 = sM M 0 0 0 4 1 → (wp_X3_addRow 0 M24 (fun r31 M31 => Q r31 M31)))) ∧ (¬ ((M 1 0 0 5) < 30) → False))
set_option maxHeartbeats 4000000 in
set_option maxRecDepth 100000 in
theorem m_X4_row {l : Launch} {G : GG} (hG : GoodG G)  {M : Mem} {Q : Int32 → Mem → Prop}  (hw : wp_X4_row  M Q) : CTi l G yX4_row wsX4_row F_X4_row L_X4_row [.ref (gA G (0, 0, 0))] M Q := by
  refine CTi_mk hG (by decide +kernel) rfl (Nat.le_of_ble_eq_true rfl) (fun Z (h : AX l G cX4_row 1 RX4 wsX4_row F_X4_row L_X4_row Z) hr => ?_)
  show Z 0 [(0, .ref (gA G (0, 0, 0)))] [] M
  unfold wp_X4_row at hw
  refine h.aload_n (pc := 0) dX4_row_0 rfl 0 rfl ?_
  refine h.getf (pc := 1) (f := 0) (o := 0) (i := 0) (ci := 4) (C := RX4) (T := TX4) (N := 8) (j := 0) (v := .ref (gA G (1, 0, 0))) (k_1 1 (by decide) (by decide)) rfl rfl (by decide) inX4_row_RX4 kX4_row_12 rfl dX4_row_1 ?_
  refine h.getN (pc := 4) (f := 1) (o := 0) (i := 0) (ci := 3) (C := RX3) (T := TX3) (N := 9) (j := 5) (v := .int (M 1 0 0 5)) (k_1 2 (by decide) (by decide)) rfl rfl (by decide) inX4_row_RX3 (own0 := RX4) (host := "TableWright") rfl nw_23 rfl dX4_row_4 ?_
  refine h.bipush (pc := 7) (v := 30) dX4_row_7 (by decide) ?_
  refine h.icmp_lt (pc := 9) 22 dX4_row_9 (by decide) (fun c9 => ?_) (fun c9 => ?_)
  · replace hw := hw.1 c9
    refine h.aload_n (pc := 22) dX4_row_22 rfl 0 rfl ?_
    refine h.iconst (pc := 23) (v := 1) dX4_row_23 (by decide) ?_
    refine h.putf (pc := 24) (f := 0) (o := 0) (i := 0) (ci := 4) (C := RX4) (T := TX4) (N := 8) (j := 4) (ty := .boolean) (ty0 := tyX4) (x := 1) (k_1 1 (by decide) (by decide)) rfl rfl (by decide) inX4_row_RX4 tyX4_ok nmX4 kX4_row_30 rfl (tyX4_ok 4 (by decide)) (zb_narrow zb_1) (zb_fits zb_1) (Nat.le_of_ble_eq_true rfl) rfl dX4_row_24 (fun M24 e24 => ?_)
    replace hw := hw M24 e24
    refine h.aload_n (pc := 27) dX4_row_27 rfl 0 rfl ?_
    refine h.getf (pc := 28) (f := 0) (o := 0) (i := 0) (ci := 4) (C := RX4) (T := TX4) (N := 8) (j := 0) (v := .ref (gA G (1, 0, 0))) (k_1 1 (by decide) (by decide)) rfl rfl (by decide) inX4_row_RX4 kX4_row_12 rfl dX4_row_28 ?_
    refine h.cVi (pc := 31) [] (1, 0, 0) [] (m_X3_addRow hG (by decide) hw) gX4_row_X3_addRow rfl hd_X3_addRow (by decide) (k_1 2 (by decide) (by decide)) rfl rfl rfl rfl rfl (Nat.le_of_ble_eq_true rfl) dX4_row_31 (fun r31 M31 hw => ?_)
    exact hr _ _ _ _ dX4_row_34 hw
  · replace hw := hw.2 c9
    exact hw.elim
-- X4_number
theorem inX4_number_RX1 : ∀ w ∈ u_ws RX1 TX1 8, w ∈ wsX4_number := by decide +kernel
theorem inX4_number_RX3 : ∀ w ∈ u_ws RX3 TX3 9, w ∈ wsX4_number := by decide +kernel
theorem inX4_number_RX4 : ∀ w ∈ u_ws RX4 TX4 8, w ∈ wsX4_number := by decide +kernel
theorem kX4_number_30 : Cond.fieldLink RX4 30 (TX4 4).1 (TX4 4).2.1 (TX4 4).2.2.1 ∈ wsX4_number := by decide +kernel
theorem kX4_number_12 : Cond.fieldLink RX4 12 (TX4 0).1 (TX4 0).2.1 (TX4 0).2.2.1 ∈ wsX4_number := by decide +kernel
abbrev F_X4_number : Nat := 2
abbrev L_X4_number : Nat := 45
theorem hd_X4_number : yX4_number.cls = RX4 ∧ yX4_number.cls ≠ "java/lang/invoke/MethodHandle" ∧ yX4_number.cls ≠ "java/lang/invoke/VarHandle" ∧ (parseMethodDescriptor yX4_number.desc).map (fun d => d.parameters.length) = some 3 := by decide +kernel
def wp_X4_number (v1 : Int32) (v2 : Int32) (v3 : Int32) (M : Mem) (Q : Int32 → Mem → Prop) : Prop := (wp_X4_requireNumberCell v1 v2 v3 M (fun M4 => (∀ M9 : Mem, M9 = sM M4 0 0 0 4 1 → (vp_in v1 30 ∧ (vp_in v2 6 ∧ (vp_in v1 30 ∧ (vp_in v2 6 ∧ (∀ M42 : Mem, M42 = sM M9 12 0 (v1.toNatClampNeg) v2.toNatClampNeg v3 → Q (M9 12 0 (v1.toNatClampNeg) v2.toNatClampNeg) M42))))))))
set_option maxHeartbeats 4000000 in
set_option maxRecDepth 100000 in
theorem m_X4_number {l : Launch} {G : GG} (hG : GoodG G) {v1 : Int32} {v2 : Int32} {v3 : Int32}  {M : Mem} {Q : Int32 → Mem → Prop}  (hw : wp_X4_number v1 v2 v3 M Q) : CTi l G yX4_number wsX4_number F_X4_number L_X4_number [.ref (gA G (0, 0, 0)), .int v1, .int v2, .int v3] M Q := by
  refine CTi_mk hG (by decide +kernel) rfl (Nat.le_of_ble_eq_true rfl) (fun Z (h : AX l G cX4_number 5 RX4 wsX4_number F_X4_number L_X4_number Z) hr => ?_)
  show Z 0 [(0, .ref (gA G (0, 0, 0))), (1, .int v1), (2, .int v2), (3, .int v3)] [] M
  unfold wp_X4_number at hw
  refine h.aload_n (pc := 0) dX4_number_0 rfl 0 rfl ?_
  refine h.iload_n (pc := 1) dX4_number_1 rfl 1 rfl ?_
  refine h.iload_n (pc := 2) dX4_number_2 rfl 2 rfl ?_
  refine h.iload_n (pc := 3) dX4_number_3 rfl 3 rfl ?_
  refine h.cVv (pc := 4) [.int v1, .int v2, .int v3] (0, 0, 0) [] (m_X4_requireNumberCell hG  hw) gX4_number_X4_requireNumberCell rfl hd_X4_requireNumberCell (by decide) (k_1 1 (by decide) (by decide)) rfl rfl rfl rfl rfl (Nat.le_of_ble_eq_true rfl) dX4_number_4 (fun M4 hw => ?_)
  refine h.aload_n (pc := 7) dX4_number_7 rfl 0 rfl ?_
  refine h.iconst (pc := 8) (v := 1) dX4_number_8 (by decide) ?_
  refine h.putf (pc := 9) (f := 0) (o := 0) (i := 0) (ci := 4) (C := RX4) (T := TX4) (N := 8) (j := 4) (ty := .boolean) (ty0 := tyX4) (x := 1) (k_1 1 (by decide) (by decide)) rfl rfl (by decide) inX4_number_RX4 tyX4_ok nmX4 kX4_number_30 rfl (tyX4_ok 4 (by decide)) (zb_narrow zb_1) (zb_fits zb_1) (Nat.le_of_ble_eq_true rfl) rfl dX4_number_9 (fun M9 e9 => ?_)
  replace hw := hw M9 e9
  refine h.aload_n (pc := 12) dX4_number_12 rfl 0 rfl ?_
  refine h.getf (pc := 13) (f := 0) (o := 0) (i := 0) (ci := 4) (C := RX4) (T := TX4) (N := 8) (j := 0) (v := .ref (gA G (1, 0, 0))) (k_1 1 (by decide) (by decide)) rfl rfl (by decide) inX4_number_RX4 kX4_number_12 rfl dX4_number_13 ?_
  refine h.getN (pc := 16) (f := 1) (o := 0) (i := 0) (ci := 3) (C := RX3) (T := TX3) (N := 9) (j := 6) (v := .ref (gA G (11, 0, 0))) (k_1 2 (by decide) (by decide)) rfl rfl (by decide) inX4_number_RX3 (own0 := RX4) (host := "TableWright") rfl nw_24 rfl dX4_number_16 ?_
  refine h.iload_n (pc := 19) dX4_number_19 rfl 1 rfl ?_
  obtain ⟨hj20, hw⟩ := hw
  refine h.aald (pc := 20) (o := 0) (ix := v1) (by decide) hj20 dX4_number_20 ?_
  refine h.getN (pc := 21) (f := 4) (o := 0) (i := v1.toNatClampNeg) (ci := 1) (C := RX1) (T := TX1) (N := 8) (j := 0) (v := .ref (gA G (12, 0, v1.toNatClampNeg))) (k_2 (by decide) (by decide) (vin_lt hj20)) rfl rfl (by decide) inX4_number_RX1 (own0 := RX4) (host := "TableWright") rfl nw_0 rfl dX4_number_21 ?_
  refine h.iload_n (pc := 24) dX4_number_24 rfl 2 rfl ?_
  obtain ⟨hj25, hw⟩ := hw
  refine h.iald (pc := 25) (f := 12) (o := 0) (i := v1.toNatClampNeg) (n := 6) (k_2 (by decide) (by decide) (vin_lt hj20)) (fun _ => rfl) hj25 dX4_number_25 ?_
  refine h.istore (pc := 26) [(4, .int (M9 12 0 (v1.toNatClampNeg) v2.toNatClampNeg)), (0, .ref (gA G (0, 0, 0))), (1, .int v1), (2, .int v2), (3, .int v3)] dX4_number_26 (by decide) rfl ?_
  refine h.aload_n (pc := 28) dX4_number_28 rfl 1 rfl ?_
  refine h.getf (pc := 29) (f := 0) (o := 0) (i := 0) (ci := 4) (C := RX4) (T := TX4) (N := 8) (j := 0) (v := .ref (gA G (1, 0, 0))) (k_1 1 (by decide) (by decide)) rfl rfl (by decide) inX4_number_RX4 kX4_number_12 rfl dX4_number_29 ?_
  refine h.getN (pc := 32) (f := 1) (o := 0) (i := 0) (ci := 3) (C := RX3) (T := TX3) (N := 9) (j := 6) (v := .ref (gA G (11, 0, 0))) (k_1 2 (by decide) (by decide)) rfl rfl (by decide) inX4_number_RX3 (own0 := RX4) (host := "TableWright") rfl nw_24 rfl dX4_number_32 ?_
  refine h.iload_n (pc := 35) dX4_number_35 rfl 2 rfl ?_
  obtain ⟨hj36, hw⟩ := hw
  refine h.aald (pc := 36) (o := 0) (ix := v1) (by decide) hj36 dX4_number_36 ?_
  refine h.getN (pc := 37) (f := 4) (o := 0) (i := v1.toNatClampNeg) (ci := 1) (C := RX1) (T := TX1) (N := 8) (j := 0) (v := .ref (gA G (12, 0, v1.toNatClampNeg))) (k_2 (by decide) (by decide) (vin_lt hj36)) rfl rfl (by decide) inX4_number_RX1 (own0 := RX4) (host := "TableWright") rfl nw_0 rfl dX4_number_37 ?_
  refine h.iload_n (pc := 40) dX4_number_40 rfl 3 rfl ?_
  refine h.iload_n (pc := 41) dX4_number_41 rfl 4 rfl ?_
  obtain ⟨hj42, hw⟩ := hw
  refine h.iast (pc := 42) (f := 12) (o := 0) (i := v1.toNatClampNeg) (n := 6) (ix := v2) (x := v3) (k_2 (by decide) (by decide) (vin_lt hj36)) (fun _ => rfl) hj42 dX4_number_42 (fun M42 e42 => ?_)
  replace hw := hw M42 e42
  refine h.iload (pc := 43) dX4_number_43 0 rfl ?_
  exact hr _ _ _ _ dX4_number_45 hw
-- X4_text
theorem inX4_text_RX1 : ∀ w ∈ u_ws RX1 TX1 8, w ∈ wsX4_text := by decide +kernel
theorem inX4_text_RX3 : ∀ w ∈ u_ws RX3 TX3 9, w ∈ wsX4_text := by decide +kernel
theorem inX4_text_RX4 : ∀ w ∈ u_ws RX4 TX4 8, w ∈ wsX4_text := by decide +kernel
theorem kMX4_text_1_min_108 : Cond.methodLink RX4 108 Lib.Math.min.name ∈ wsX4_text := by decide +kernel
theorem kMX4_text_2_min : Cond.static Lib.Math.min.name ∈ wsX4_text := by decide +kernel
theorem kMX4_text_3 : Cond.initialized "java/lang/Math" ∈ wsX4_text := by decide +kernel
theorem kMX4_text_4_min : Cond.code Lib.Math.min.name Lib.Math.min.code 2 (some .int) ∈ wsX4_text := by decide +kernel
theorem kX4_text_30 : Cond.fieldLink RX4 30 (TX4 4).1 (TX4 4).2.1 (TX4 4).2.2.1 ∈ wsX4_text := by decide +kernel
theorem kX4_text_12 : Cond.fieldLink RX4 12 (TX4 0).1 (TX4 0).2.1 (TX4 0).2.2.1 ∈ wsX4_text := by decide +kernel
abbrev F_X4_text : Nat := 1
abbrev L_X4_text : Nat := 22
theorem hd_X4_text : yX4_text.cls = RX4 ∧ yX4_text.cls ≠ "java/lang/invoke/MethodHandle" ∧ yX4_text.cls ≠ "java/lang/invoke/VarHandle" ∧ (parseMethodDescriptor yX4_text.desc).map (fun d => d.parameters.length) = some 4 := by decide +kernel
def wp_X4_text (v1 : Int32) (v2 : Int32) (v3 : Int32) (v4 : Int32) (M : Mem) (Q : Int32 → Mem → Prop) : Prop := (wp_X4_requireRow v1 M (fun M2 => (wp_X4_requireColumn v2 M2 (fun M7 => (wp_X4_requireKind v2 1 M7 (fun M13 => (wp_X4_requireRange v3 0 200 M13 (fun M21 => (wp_X4_requireRange v4 0 (if v3 < 12 then v3 else 12) M21 (fun M33 => (∀ M38 : Mem, M38 = sM M33 0 0 0 4 1 → (vp_in v1 30 ∧ (vp_in v2 6 ∧ (vp_in v1 30 ∧ (vp_in v2 6 ∧ (∀ M71 : Mem, M71 = sM M38 13 0 (v1.toNatClampNeg) v2.toNatClampNeg v3 → (vp_in v1 30 ∧ (vp_in v2 6 ∧ (∀ M87 : Mem, M87 = sM M71 14 0 (v1.toNatClampNeg) v2.toNatClampNeg v4 → Q (M38 13 0 (v1.toNatClampNeg) v2.toNatClampNeg) M87)))))))))))))))))))
set_option maxHeartbeats 4000000 in
set_option maxRecDepth 100000 in
theorem m_X4_text {l : Launch} {G : GG} (hG : GoodG G) {v1 : Int32} {v2 : Int32} {v3 : Int32} {v4 : Int32}  {M : Mem} {Q : Int32 → Mem → Prop}  (hw : wp_X4_text v1 v2 v3 v4 M Q) : CTi l G yX4_text wsX4_text F_X4_text L_X4_text [.ref (gA G (0, 0, 0)), .int v1, .int v2, .int v3, .int v4] M Q := by
  refine CTi_mk hG (by decide +kernel) rfl (Nat.le_of_ble_eq_true rfl) (fun Z (h : AX l G cX4_text 6 RX4 wsX4_text F_X4_text L_X4_text Z) hr => ?_)
  show Z 0 [(0, .ref (gA G (0, 0, 0))), (1, .int v1), (2, .int v2), (3, .int v3), (4, .int v4)] [] M
  unfold wp_X4_text at hw
  refine h.aload_n (pc := 0) dX4_text_0 rfl 0 rfl ?_
  refine h.iload_n (pc := 1) dX4_text_1 rfl 1 rfl ?_
  refine h.cVv (pc := 2) [.int v1] (0, 0, 0) [] (m_X4_requireRow hG  hw) gX4_text_X4_requireRow rfl hd_X4_requireRow (by decide) (k_1 1 (by decide) (by decide)) rfl rfl rfl rfl rfl (Nat.le_of_ble_eq_true rfl) dX4_text_2 (fun M2 hw => ?_)
  refine h.aload_n (pc := 5) dX4_text_5 rfl 0 rfl ?_
  refine h.iload_n (pc := 6) dX4_text_6 rfl 2 rfl ?_
  refine h.cVv (pc := 7) [.int v2] (0, 0, 0) [] (m_X4_requireColumn hG  hw) gX4_text_X4_requireColumn rfl hd_X4_requireColumn (by decide) (k_1 1 (by decide) (by decide)) rfl rfl rfl rfl rfl (Nat.le_of_ble_eq_true rfl) dX4_text_7 (fun M7 hw => ?_)
  refine h.aload_n (pc := 10) dX4_text_10 rfl 0 rfl ?_
  refine h.iload_n (pc := 11) dX4_text_11 rfl 2 rfl ?_
  refine h.iconst (pc := 12) (v := 1) dX4_text_12 (by decide) ?_
  refine h.cVv (pc := 13) [.int v2, .int 1] (0, 0, 0) [] (m_X4_requireKind hG  hw) gX4_text_X4_requireKind rfl hd_X4_requireKind (by decide) (k_1 1 (by decide) (by decide)) rfl rfl rfl rfl rfl (Nat.le_of_ble_eq_true rfl) dX4_text_13 (fun M13 hw => ?_)
  refine h.iload_n (pc := 16) dX4_text_16 rfl 3 rfl ?_
  refine h.iconst (pc := 17) (v := 0) dX4_text_17 (by decide) ?_
  refine h.sipush (pc := 18) (v := 200) dX4_text_18 (by decide) ?_
  refine h.cSv (pc := 21) [.int v3, .int 0, .int 200] [] (m_X4_requireRange hG  hw) gX4_text_X4_requireRange rfl hd_X4_requireRange (by decide) rfl rfl (Nat.le_of_ble_eq_true rfl) dX4_text_21 (fun M21 hw => ?_)
  refine h.iload (pc := 24) dX4_text_24 4 rfl ?_
  refine h.iconst (pc := 26) (v := 0) dX4_text_26 (by decide) ?_
  refine h.bipush (pc := 27) (v := 12) dX4_text_27 (by decide) ?_
  refine h.iload_n (pc := 29) dX4_text_29 rfl 3 rfl ?_
  refine h.mmin (pc := 30) (st := [.int 0, .int v4]) kMX4_text_1_min_108 kMX4_text_2_min kMX4_text_3 kMX4_text_4_min (by decide) (Nat.le_of_ble_eq_true rfl) dX4_text_30 ?_
  refine h.cSv (pc := 33) [.int v4, .int 0, .int (if v3 < 12 then v3 else 12)] [] (m_X4_requireRange hG  hw) gX4_text_X4_requireRange rfl hd_X4_requireRange (by decide) rfl rfl (Nat.le_of_ble_eq_true rfl) dX4_text_33 (fun M33 hw => ?_)
  refine h.aload_n (pc := 36) dX4_text_36 rfl 0 rfl ?_
  refine h.iconst (pc := 37) (v := 1) dX4_text_37 (by decide) ?_
  refine h.putf (pc := 38) (f := 0) (o := 0) (i := 0) (ci := 4) (C := RX4) (T := TX4) (N := 8) (j := 4) (ty := .boolean) (ty0 := tyX4) (x := 1) (k_1 1 (by decide) (by decide)) rfl rfl (by decide) inX4_text_RX4 tyX4_ok nmX4 kX4_text_30 rfl (tyX4_ok 4 (by decide)) (zb_narrow zb_1) (zb_fits zb_1) (Nat.le_of_ble_eq_true rfl) rfl dX4_text_38 (fun M38 e38 => ?_)
  replace hw := hw M38 e38
  refine h.aload_n (pc := 41) dX4_text_41 rfl 0 rfl ?_
  refine h.getf (pc := 42) (f := 0) (o := 0) (i := 0) (ci := 4) (C := RX4) (T := TX4) (N := 8) (j := 0) (v := .ref (gA G (1, 0, 0))) (k_1 1 (by decide) (by decide)) rfl rfl (by decide) inX4_text_RX4 kX4_text_12 rfl dX4_text_42 ?_
  refine h.getN (pc := 45) (f := 1) (o := 0) (i := 0) (ci := 3) (C := RX3) (T := TX3) (N := 9) (j := 6) (v := .ref (gA G (11, 0, 0))) (k_1 2 (by decide) (by decide)) rfl rfl (by decide) inX4_text_RX3 (own0 := RX4) (host := "TableWright") rfl nw_24 rfl dX4_text_45 ?_
  refine h.iload_n (pc := 48) dX4_text_48 rfl 1 rfl ?_
  obtain ⟨hj49, hw⟩ := hw
  refine h.aald (pc := 49) (o := 0) (ix := v1) (by decide) hj49 dX4_text_49 ?_
  refine h.getN (pc := 50) (f := 4) (o := 0) (i := v1.toNatClampNeg) (ci := 1) (C := RX1) (T := TX1) (N := 8) (j := 1) (v := .ref (gA G (13, 0, v1.toNatClampNeg))) (k_2 (by decide) (by decide) (vin_lt hj49)) rfl rfl (by decide) inX4_text_RX1 (own0 := RX4) (host := "TableWright") rfl nw_2 rfl dX4_text_50 ?_
  refine h.iload_n (pc := 53) dX4_text_53 rfl 2 rfl ?_
  obtain ⟨hj54, hw⟩ := hw
  refine h.iald (pc := 54) (f := 13) (o := 0) (i := v1.toNatClampNeg) (n := 6) (k_2 (by decide) (by decide) (vin_lt hj49)) (fun _ => rfl) hj54 dX4_text_54 ?_
  refine h.istore (pc := 55) [(5, .int (M38 13 0 (v1.toNatClampNeg) v2.toNatClampNeg)), (0, .ref (gA G (0, 0, 0))), (1, .int v1), (2, .int v2), (3, .int v3), (4, .int v4)] dX4_text_55 (by decide) rfl ?_
  refine h.aload_n (pc := 57) dX4_text_57 rfl 1 rfl ?_
  refine h.getf (pc := 58) (f := 0) (o := 0) (i := 0) (ci := 4) (C := RX4) (T := TX4) (N := 8) (j := 0) (v := .ref (gA G (1, 0, 0))) (k_1 1 (by decide) (by decide)) rfl rfl (by decide) inX4_text_RX4 kX4_text_12 rfl dX4_text_58 ?_
  refine h.getN (pc := 61) (f := 1) (o := 0) (i := 0) (ci := 3) (C := RX3) (T := TX3) (N := 9) (j := 6) (v := .ref (gA G (11, 0, 0))) (k_1 2 (by decide) (by decide)) rfl rfl (by decide) inX4_text_RX3 (own0 := RX4) (host := "TableWright") rfl nw_24 rfl dX4_text_61 ?_
  refine h.iload_n (pc := 64) dX4_text_64 rfl 2 rfl ?_
  obtain ⟨hj65, hw⟩ := hw
  refine h.aald (pc := 65) (o := 0) (ix := v1) (by decide) hj65 dX4_text_65 ?_
  refine h.getN (pc := 66) (f := 4) (o := 0) (i := v1.toNatClampNeg) (ci := 1) (C := RX1) (T := TX1) (N := 8) (j := 1) (v := .ref (gA G (13, 0, v1.toNatClampNeg))) (k_2 (by decide) (by decide) (vin_lt hj65)) rfl rfl (by decide) inX4_text_RX1 (own0 := RX4) (host := "TableWright") rfl nw_2 rfl dX4_text_66 ?_
  refine h.iload_n (pc := 69) dX4_text_69 rfl 3 rfl ?_
  refine h.iload_n (pc := 70) dX4_text_70 rfl 4 rfl ?_
  obtain ⟨hj71, hw⟩ := hw
  refine h.iast (pc := 71) (f := 13) (o := 0) (i := v1.toNatClampNeg) (n := 6) (ix := v2) (x := v3) (k_2 (by decide) (by decide) (vin_lt hj65)) (fun _ => rfl) hj71 dX4_text_71 (fun M71 e71 => ?_)
  replace hw := hw M71 e71
  refine h.aload_n (pc := 72) dX4_text_72 rfl 1 rfl ?_
  refine h.getf (pc := 73) (f := 0) (o := 0) (i := 0) (ci := 4) (C := RX4) (T := TX4) (N := 8) (j := 0) (v := .ref (gA G (1, 0, 0))) (k_1 1 (by decide) (by decide)) rfl rfl (by decide) inX4_text_RX4 kX4_text_12 rfl dX4_text_73 ?_
  refine h.getN (pc := 76) (f := 1) (o := 0) (i := 0) (ci := 3) (C := RX3) (T := TX3) (N := 9) (j := 6) (v := .ref (gA G (11, 0, 0))) (k_1 2 (by decide) (by decide)) rfl rfl (by decide) inX4_text_RX3 (own0 := RX4) (host := "TableWright") rfl nw_24 rfl dX4_text_76 ?_
  refine h.iload_n (pc := 79) dX4_text_79 rfl 2 rfl ?_
  obtain ⟨hj80, hw⟩ := hw
  refine h.aald (pc := 80) (o := 0) (ix := v1) (by decide) hj80 dX4_text_80 ?_
  refine h.getN (pc := 81) (f := 4) (o := 0) (i := v1.toNatClampNeg) (ci := 1) (C := RX1) (T := TX1) (N := 8) (j := 2) (v := .ref (gA G (14, 0, v1.toNatClampNeg))) (k_2 (by decide) (by decide) (vin_lt hj80)) rfl rfl (by decide) inX4_text_RX1 (own0 := RX4) (host := "TableWright") rfl nw_5 rfl dX4_text_81 ?_
  refine h.iload_n (pc := 84) dX4_text_84 rfl 3 rfl ?_
  refine h.iload (pc := 85) dX4_text_85 5 rfl ?_
  obtain ⟨hj87, hw⟩ := hw
  refine h.iast (pc := 87) (f := 14) (o := 0) (i := v1.toNatClampNeg) (n := 6) (ix := v2) (x := v4) (k_2 (by decide) (by decide) (vin_lt hj80)) (fun _ => rfl) hj87 dX4_text_87 (fun M87 e87 => ?_)
  replace hw := hw M87 e87
  refine h.iload (pc := 88) dX4_text_88 0 rfl ?_
  exact hr _ _ _ _ dX4_text_90 hw
-- X4_span
theorem inX4_span_RX1 : ∀ w ∈ u_ws RX1 TX1 8, w ∈ wsX4_span := by decide +kernel
theorem inX4_span_RX3 : ∀ w ∈ u_ws RX3 TX3 9, w ∈ wsX4_span := by decide +kernel
theorem inX4_span_RX4 : ∀ w ∈ u_ws RX4 TX4 8, w ∈ wsX4_span := by decide +kernel
theorem kX4_span_12 : Cond.fieldLink RX4 12 (TX4 0).1 (TX4 0).2.1 (TX4 0).2.2.1 ∈ wsX4_span := by decide +kernel
theorem kX4_span_30 : Cond.fieldLink RX4 30 (TX4 4).1 (TX4 4).2.1 (TX4 4).2.2.1 ∈ wsX4_span := by decide +kernel
abbrev F_X4_span : Nat := 6
abbrev L_X4_span : Nat := 138
theorem hd_X4_span : yX4_span.cls = RX4 ∧ yX4_span.cls ≠ "java/lang/invoke/MethodHandle" ∧ yX4_span.cls ≠ "java/lang/invoke/VarHandle" ∧ (parseMethodDescriptor yX4_span.desc).map (fun d => d.parameters.length) = some 3 := by decide +kernel
def wp_X4_span (v1 : Int32) (v2 : Int32) (v3 : Int32) (M : Mem) (Q : Int32 → Mem → Prop) : Prop := (wp_X4_requireRow v1 M (fun M2 => (wp_X4_requireColumn v2 M2 (fun M7 => (wp_X4_requireKind v2 1 M7 (fun M13 => (((v2 + 1) < (M13 1 0 0 0) → (∀ M41 : Mem, M41 = sM M13 0 0 0 4 1 → (vp_in v1 30 ∧ (vp_in v2 6 ∧ (zb v3 ∧ (∀ M58 : Mem, M58 = sM M41 15 0 (v1.toNatClampNeg) v2.toNatClampNeg v3 → (wp_X4_refresh M58 (fun M60 => (vp_in v1 30 ∧ (vp_in (v2 + 1) 6 ∧ (zb (M60 17 0 (v1.toNatClampNeg) (v2 + 1).toNatClampNeg) ∧ Q (M60 17 0 (v1.toNatClampNeg) (v2 + 1).toNatClampNeg) M60))))))))))) ∧ (¬ ((v2 + 1) < (M13 1 0 0 0)) → False))))))))
set_option maxHeartbeats 4000000 in
set_option maxRecDepth 100000 in
theorem m_X4_span {l : Launch} {G : GG} (hG : GoodG G) {v1 : Int32} {v2 : Int32} {v3 : Int32}  {M : Mem} {Q : Int32 → Mem → Prop}  (hw : wp_X4_span v1 v2 v3 M Q) : CTi l G yX4_span wsX4_span F_X4_span L_X4_span [.ref (gA G (0, 0, 0)), .int v1, .int v2, .int v3] M Q := by
  refine CTz_mk hG (by decide +kernel) rfl (Nat.le_of_ble_eq_true rfl) (fun Z (h : AX l G cX4_span 4 RX4 wsX4_span F_X4_span L_X4_span Z) hr => ?_)
  show Z 0 [(0, .ref (gA G (0, 0, 0))), (1, .int v1), (2, .int v2), (3, .int v3)] [] M
  unfold wp_X4_span at hw
  refine h.aload_n (pc := 0) dX4_span_0 rfl 0 rfl ?_
  refine h.iload_n (pc := 1) dX4_span_1 rfl 1 rfl ?_
  refine h.cVv (pc := 2) [.int v1] (0, 0, 0) [] (m_X4_requireRow hG  hw) gX4_span_X4_requireRow rfl hd_X4_requireRow (by decide) (k_1 1 (by decide) (by decide)) rfl rfl rfl rfl rfl (Nat.le_of_ble_eq_true rfl) dX4_span_2 (fun M2 hw => ?_)
  refine h.aload_n (pc := 5) dX4_span_5 rfl 0 rfl ?_
  refine h.iload_n (pc := 6) dX4_span_6 rfl 2 rfl ?_
  refine h.cVv (pc := 7) [.int v2] (0, 0, 0) [] (m_X4_requireColumn hG  hw) gX4_span_X4_requireColumn rfl hd_X4_requireColumn (by decide) (k_1 1 (by decide) (by decide)) rfl rfl rfl rfl rfl (Nat.le_of_ble_eq_true rfl) dX4_span_7 (fun M7 hw => ?_)
  refine h.aload_n (pc := 10) dX4_span_10 rfl 0 rfl ?_
  refine h.iload_n (pc := 11) dX4_span_11 rfl 2 rfl ?_
  refine h.iconst (pc := 12) (v := 1) dX4_span_12 (by decide) ?_
  refine h.cVv (pc := 13) [.int v2, .int 1] (0, 0, 0) [] (m_X4_requireKind hG  hw) gX4_span_X4_requireKind rfl hd_X4_requireKind (by decide) (k_1 1 (by decide) (by decide)) rfl rfl rfl rfl rfl (Nat.le_of_ble_eq_true rfl) dX4_span_13 (fun M13 hw => ?_)
  refine h.iload_n (pc := 16) dX4_span_16 rfl 2 rfl ?_
  refine h.iconst (pc := 17) (v := 1) dX4_span_17 (by decide) ?_
  refine h.iadd (pc := 18) dX4_span_18 ?_
  refine h.aload_n (pc := 19) dX4_span_19 rfl 0 rfl ?_
  refine h.getf (pc := 20) (f := 0) (o := 0) (i := 0) (ci := 4) (C := RX4) (T := TX4) (N := 8) (j := 0) (v := .ref (gA G (1, 0, 0))) (k_1 1 (by decide) (by decide)) rfl rfl (by decide) inX4_span_RX4 kX4_span_12 rfl dX4_span_20 ?_
  refine h.getN (pc := 23) (f := 1) (o := 0) (i := 0) (ci := 3) (C := RX3) (T := TX3) (N := 9) (j := 0) (v := .int (M13 1 0 0 0)) (k_1 2 (by decide) (by decide)) rfl rfl (by decide) inX4_span_RX3 (own0 := RX4) (host := "TableWright") rfl nw_19 rfl dX4_span_23 ?_
  refine h.icmp_lt (pc := 26) 39 dX4_span_26 (by decide) (fun c26 => ?_) (fun c26 => ?_)
  · replace hw := hw.1 c26
    refine h.aload_n (pc := 39) dX4_span_39 rfl 0 rfl ?_
    refine h.iconst (pc := 40) (v := 1) dX4_span_40 (by decide) ?_
    refine h.putf (pc := 41) (f := 0) (o := 0) (i := 0) (ci := 4) (C := RX4) (T := TX4) (N := 8) (j := 4) (ty := .boolean) (ty0 := tyX4) (x := 1) (k_1 1 (by decide) (by decide)) rfl rfl (by decide) inX4_span_RX4 tyX4_ok nmX4 kX4_span_30 rfl (tyX4_ok 4 (by decide)) (zb_narrow zb_1) (zb_fits zb_1) (Nat.le_of_ble_eq_true rfl) rfl dX4_span_41 (fun M41 e41 => ?_)
    replace hw := hw M41 e41
    refine h.aload_n (pc := 44) dX4_span_44 rfl 0 rfl ?_
    refine h.getf (pc := 45) (f := 0) (o := 0) (i := 0) (ci := 4) (C := RX4) (T := TX4) (N := 8) (j := 0) (v := .ref (gA G (1, 0, 0))) (k_1 1 (by decide) (by decide)) rfl rfl (by decide) inX4_span_RX4 kX4_span_12 rfl dX4_span_45 ?_
    refine h.getN (pc := 48) (f := 1) (o := 0) (i := 0) (ci := 3) (C := RX3) (T := TX3) (N := 9) (j := 6) (v := .ref (gA G (11, 0, 0))) (k_1 2 (by decide) (by decide)) rfl rfl (by decide) inX4_span_RX3 (own0 := RX4) (host := "TableWright") rfl nw_24 rfl dX4_span_48 ?_
    refine h.iload_n (pc := 51) dX4_span_51 rfl 1 rfl ?_
    obtain ⟨hj52, hw⟩ := hw
    refine h.aald (pc := 52) (o := 0) (ix := v1) (by decide) hj52 dX4_span_52 ?_
    refine h.getN (pc := 53) (f := 4) (o := 0) (i := v1.toNatClampNeg) (ci := 1) (C := RX1) (T := TX1) (N := 8) (j := 3) (v := .ref (gA G (15, 0, v1.toNatClampNeg))) (k_2 (by decide) (by decide) (vin_lt hj52)) rfl rfl (by decide) inX4_span_RX1 (own0 := RX4) (host := "TableWright") rfl nw_7 rfl dX4_span_53 ?_
    refine h.iload_n (pc := 56) dX4_span_56 rfl 2 rfl ?_
    refine h.iload_n (pc := 57) dX4_span_57 rfl 3 rfl ?_
    obtain ⟨hj58, hw⟩ := hw
    obtain ⟨hb58, hw⟩ := hw
    refine h.zast (pc := 58) (f := 15) (o := 0) (i := v1.toNatClampNeg) (n := 6) (ix := v2) (x := v3) (k_2 (by decide) (by decide) (vin_lt hj52)) (fun _ => rfl) hj58 hb58 dX4_span_58 (fun M58 e58 => ?_)
    replace hw := hw M58 e58
    refine h.aload_n (pc := 59) dX4_span_59 rfl 0 rfl ?_
    refine h.cVv (pc := 60) [] (0, 0, 0) [] (m_X4_refresh hG  hw) gX4_span_X4_refresh rfl hd_X4_refresh (by decide) (k_1 1 (by decide) (by decide)) rfl rfl rfl rfl rfl (Nat.le_of_ble_eq_true rfl) dX4_span_60 (fun M60 hw => ?_)
    refine h.aload_n (pc := 63) dX4_span_63 rfl 0 rfl ?_
    refine h.getf (pc := 64) (f := 0) (o := 0) (i := 0) (ci := 4) (C := RX4) (T := TX4) (N := 8) (j := 0) (v := .ref (gA G (1, 0, 0))) (k_1 1 (by decide) (by decide)) rfl rfl (by decide) inX4_span_RX4 kX4_span_12 rfl dX4_span_64 ?_
    refine h.getN (pc := 67) (f := 1) (o := 0) (i := 0) (ci := 3) (C := RX3) (T := TX3) (N := 9) (j := 6) (v := .ref (gA G (11, 0, 0))) (k_1 2 (by decide) (by decide)) rfl rfl (by decide) inX4_span_RX3 (own0 := RX4) (host := "TableWright") rfl nw_24 rfl dX4_span_67 ?_
    refine h.iload_n (pc := 70) dX4_span_70 rfl 1 rfl ?_
    obtain ⟨hj71, hw⟩ := hw
    refine h.aald (pc := 71) (o := 0) (ix := v1) (by decide) hj71 dX4_span_71 ?_
    refine h.getN (pc := 72) (f := 4) (o := 0) (i := v1.toNatClampNeg) (ci := 1) (C := RX1) (T := TX1) (N := 8) (j := 7) (v := .ref (gA G (17, 0, v1.toNatClampNeg))) (k_2 (by decide) (by decide) (vin_lt hj71)) rfl rfl (by decide) inX4_span_RX1 (own0 := RX4) (host := "TableWright") rfl nw_16 rfl dX4_span_72 ?_
    refine h.iload_n (pc := 75) dX4_span_75 rfl 2 rfl ?_
    refine h.iconst (pc := 76) (v := 1) dX4_span_76 (by decide) ?_
    refine h.iadd (pc := 77) dX4_span_77 ?_
    obtain ⟨hj78, hw⟩ := hw
    refine h.zald (pc := 78) (f := 17) (o := 0) (i := v1.toNatClampNeg) (n := 6) (k_2 (by decide) (by decide) (vin_lt hj71)) (fun _ => rfl) hj78 dX4_span_78 ?_
    exact hr _ _ _ _ dX4_span_79 hw.1 hw.2
  · replace hw := hw.2 c26
    exact hw.elim
-- X4_note
theorem inX4_note_RX1 : ∀ w ∈ u_ws RX1 TX1 8, w ∈ wsX4_note := by decide +kernel
theorem inX4_note_RX3 : ∀ w ∈ u_ws RX3 TX3 9, w ∈ wsX4_note := by decide +kernel
theorem inX4_note_RX4 : ∀ w ∈ u_ws RX4 TX4 8, w ∈ wsX4_note := by decide +kernel
theorem kX4_note_30 : Cond.fieldLink RX4 30 (TX4 4).1 (TX4 4).2.1 (TX4 4).2.2.1 ∈ wsX4_note := by decide +kernel
theorem kX4_note_12 : Cond.fieldLink RX4 12 (TX4 0).1 (TX4 0).2.1 (TX4 0).2.2.1 ∈ wsX4_note := by decide +kernel
abbrev F_X4_note : Nat := 1
abbrev L_X4_note : Nat := 22
theorem hd_X4_note : yX4_note.cls = RX4 ∧ yX4_note.cls ≠ "java/lang/invoke/MethodHandle" ∧ yX4_note.cls ≠ "java/lang/invoke/VarHandle" ∧ (parseMethodDescriptor yX4_note.desc).map (fun d => d.parameters.length) = some 2 := by decide +kernel
def wp_X4_note (v1 : Int32) (v2 : Int32) (M : Mem) (Q : Int32 → Mem → Prop) : Prop := (wp_X4_requireRow v1 M (fun M2 => (wp_X4_requireRange v2 0 5 M2 (fun M8 => (∀ M13 : Mem, M13 = sM M8 0 0 0 4 1 → (vp_in v1 30 ∧ (vp_in v1 30 ∧ (∀ M39 : Mem, M39 = sM M13 4 0 (v1.toNatClampNeg) 4 v2 → Q (M13 4 0 (v1.toNatClampNeg) 4) M39))))))))
set_option maxHeartbeats 4000000 in
set_option maxRecDepth 100000 in
theorem m_X4_note {l : Launch} {G : GG} (hG : GoodG G) {v1 : Int32} {v2 : Int32}  {M : Mem} {Q : Int32 → Mem → Prop}  (hw : wp_X4_note v1 v2 M Q) : CTi l G yX4_note wsX4_note F_X4_note L_X4_note [.ref (gA G (0, 0, 0)), .int v1, .int v2] M Q := by
  refine CTi_mk hG (by decide +kernel) rfl (Nat.le_of_ble_eq_true rfl) (fun Z (h : AX l G cX4_note 4 RX4 wsX4_note F_X4_note L_X4_note Z) hr => ?_)
  show Z 0 [(0, .ref (gA G (0, 0, 0))), (1, .int v1), (2, .int v2)] [] M
  unfold wp_X4_note at hw
  refine h.aload_n (pc := 0) dX4_note_0 rfl 0 rfl ?_
  refine h.iload_n (pc := 1) dX4_note_1 rfl 1 rfl ?_
  refine h.cVv (pc := 2) [.int v1] (0, 0, 0) [] (m_X4_requireRow hG  hw) gX4_note_X4_requireRow rfl hd_X4_requireRow (by decide) (k_1 1 (by decide) (by decide)) rfl rfl rfl rfl rfl (Nat.le_of_ble_eq_true rfl) dX4_note_2 (fun M2 hw => ?_)
  refine h.iload_n (pc := 5) dX4_note_5 rfl 2 rfl ?_
  refine h.iconst (pc := 6) (v := 0) dX4_note_6 (by decide) ?_
  refine h.iconst (pc := 7) (v := 5) dX4_note_7 (by decide) ?_
  refine h.cSv (pc := 8) [.int v2, .int 0, .int 5] [] (m_X4_requireRange hG  hw) gX4_note_X4_requireRange rfl hd_X4_requireRange (by decide) rfl rfl (Nat.le_of_ble_eq_true rfl) dX4_note_8 (fun M8 hw => ?_)
  refine h.aload_n (pc := 11) dX4_note_11 rfl 0 rfl ?_
  refine h.iconst (pc := 12) (v := 1) dX4_note_12 (by decide) ?_
  refine h.putf (pc := 13) (f := 0) (o := 0) (i := 0) (ci := 4) (C := RX4) (T := TX4) (N := 8) (j := 4) (ty := .boolean) (ty0 := tyX4) (x := 1) (k_1 1 (by decide) (by decide)) rfl rfl (by decide) inX4_note_RX4 tyX4_ok nmX4 kX4_note_30 rfl (tyX4_ok 4 (by decide)) (zb_narrow zb_1) (zb_fits zb_1) (Nat.le_of_ble_eq_true rfl) rfl dX4_note_13 (fun M13 e13 => ?_)
  replace hw := hw M13 e13
  refine h.aload_n (pc := 16) dX4_note_16 rfl 0 rfl ?_
  refine h.getf (pc := 17) (f := 0) (o := 0) (i := 0) (ci := 4) (C := RX4) (T := TX4) (N := 8) (j := 0) (v := .ref (gA G (1, 0, 0))) (k_1 1 (by decide) (by decide)) rfl rfl (by decide) inX4_note_RX4 kX4_note_12 rfl dX4_note_17 ?_
  refine h.getN (pc := 20) (f := 1) (o := 0) (i := 0) (ci := 3) (C := RX3) (T := TX3) (N := 9) (j := 6) (v := .ref (gA G (11, 0, 0))) (k_1 2 (by decide) (by decide)) rfl rfl (by decide) inX4_note_RX3 (own0 := RX4) (host := "TableWright") rfl nw_24 rfl dX4_note_20 ?_
  refine h.iload_n (pc := 23) dX4_note_23 rfl 1 rfl ?_
  obtain ⟨hj24, hw⟩ := hw
  refine h.aald (pc := 24) (o := 0) (ix := v1) (by decide) hj24 dX4_note_24 ?_
  refine h.getN (pc := 25) (f := 4) (o := 0) (i := v1.toNatClampNeg) (ci := 1) (C := RX1) (T := TX1) (N := 8) (j := 4) (v := .int (M13 4 0 (v1.toNatClampNeg) 4)) (k_2 (by decide) (by decide) (vin_lt hj24)) rfl rfl (by decide) inX4_note_RX1 (own0 := RX4) (host := "TableWright") rfl nw_10 rfl dX4_note_25 ?_
  refine h.istore_n (pc := 28) [(3, .int (M13 4 0 (v1.toNatClampNeg) 4)), (0, .ref (gA G (0, 0, 0))), (1, .int v1), (2, .int v2)] dX4_note_28 rfl (by decide) rfl ?_
  refine h.aload_n (pc := 29) dX4_note_29 rfl 1 rfl ?_
  refine h.getf (pc := 30) (f := 0) (o := 0) (i := 0) (ci := 4) (C := RX4) (T := TX4) (N := 8) (j := 0) (v := .ref (gA G (1, 0, 0))) (k_1 1 (by decide) (by decide)) rfl rfl (by decide) inX4_note_RX4 kX4_note_12 rfl dX4_note_30 ?_
  refine h.getN (pc := 33) (f := 1) (o := 0) (i := 0) (ci := 3) (C := RX3) (T := TX3) (N := 9) (j := 6) (v := .ref (gA G (11, 0, 0))) (k_1 2 (by decide) (by decide)) rfl rfl (by decide) inX4_note_RX3 (own0 := RX4) (host := "TableWright") rfl nw_24 rfl dX4_note_33 ?_
  refine h.iload_n (pc := 36) dX4_note_36 rfl 2 rfl ?_
  obtain ⟨hj37, hw⟩ := hw
  refine h.aald (pc := 37) (o := 0) (ix := v1) (by decide) hj37 dX4_note_37 ?_
  refine h.iload_n (pc := 38) dX4_note_38 rfl 3 rfl ?_
  refine h.putN (pc := 39) (f := 4) (o := 0) (i := v1.toNatClampNeg) (ci := 1) (C := RX1) (T := TX1) (N := 8) (j := 4) (ty := .int) (ty0 := tyX1) (x := v2) (k_2 (by decide) (by decide) (vin_lt hj37)) rfl rfl (by decide) inX4_note_RX1 tyX1_ok nmX1 (own0 := RX4) (host := "TableWright") rfl nw_10 rfl (tyX1_ok 4 (by decide)) rfl rfl (Nat.le_of_ble_eq_true rfl) rfl dX4_note_39 (fun M39 e39 => ?_)
  replace hw := hw M39 e39
  refine h.iload_n (pc := 42) dX4_note_42 rfl 0 rfl ?_
  exact hr _ _ _ _ dX4_note_43 hw
-- X4_keep
theorem inX4_keep_RX1 : ∀ w ∈ u_ws RX1 TX1 8, w ∈ wsX4_keep := by decide +kernel
theorem inX4_keep_RX3 : ∀ w ∈ u_ws RX3 TX3 9, w ∈ wsX4_keep := by decide +kernel
theorem inX4_keep_RX4 : ∀ w ∈ u_ws RX4 TX4 8, w ∈ wsX4_keep := by decide +kernel
theorem kX4_keep_30 : Cond.fieldLink RX4 30 (TX4 4).1 (TX4 4).2.1 (TX4 4).2.2.1 ∈ wsX4_keep := by decide +kernel
theorem kX4_keep_12 : Cond.fieldLink RX4 12 (TX4 0).1 (TX4 0).2.1 (TX4 0).2.2.1 ∈ wsX4_keep := by decide +kernel
abbrev F_X4_keep : Nat := 1
abbrev L_X4_keep : Nat := 21
theorem hd_X4_keep : yX4_keep.cls = RX4 ∧ yX4_keep.cls ≠ "java/lang/invoke/MethodHandle" ∧ yX4_keep.cls ≠ "java/lang/invoke/VarHandle" ∧ (parseMethodDescriptor yX4_keep.desc).map (fun d => d.parameters.length) = some 2 := by decide +kernel
def wp_X4_keep (v1 : Int32) (v2 : Int32) (M : Mem) (Q : Int32 → Mem → Prop) : Prop := (wp_X4_requireRow v1 M (fun M2 => (∀ M7 : Mem, M7 = sM M2 0 0 0 4 1 → (vp_in v1 30 ∧ (vp_in v1 30 ∧ (zb v2 ∧ (∀ M33 : Mem, M33 = sM M7 4 0 (v1.toNatClampNeg) 5 v2 → (zb (M7 4 0 (v1.toNatClampNeg) 5) ∧ Q (M7 4 0 (v1.toNatClampNeg) 5) M33))))))))
set_option maxHeartbeats 4000000 in
set_option maxRecDepth 100000 in
theorem m_X4_keep {l : Launch} {G : GG} (hG : GoodG G) {v1 : Int32} {v2 : Int32}  {M : Mem} {Q : Int32 → Mem → Prop}  (hw : wp_X4_keep v1 v2 M Q) : CTi l G yX4_keep wsX4_keep F_X4_keep L_X4_keep [.ref (gA G (0, 0, 0)), .int v1, .int v2] M Q := by
  refine CTz_mk hG (by decide +kernel) rfl (Nat.le_of_ble_eq_true rfl) (fun Z (h : AX l G cX4_keep 4 RX4 wsX4_keep F_X4_keep L_X4_keep Z) hr => ?_)
  show Z 0 [(0, .ref (gA G (0, 0, 0))), (1, .int v1), (2, .int v2)] [] M
  unfold wp_X4_keep at hw
  refine h.aload_n (pc := 0) dX4_keep_0 rfl 0 rfl ?_
  refine h.iload_n (pc := 1) dX4_keep_1 rfl 1 rfl ?_
  refine h.cVv (pc := 2) [.int v1] (0, 0, 0) [] (m_X4_requireRow hG  hw) gX4_keep_X4_requireRow rfl hd_X4_requireRow (by decide) (k_1 1 (by decide) (by decide)) rfl rfl rfl rfl rfl (Nat.le_of_ble_eq_true rfl) dX4_keep_2 (fun M2 hw => ?_)
  refine h.aload_n (pc := 5) dX4_keep_5 rfl 0 rfl ?_
  refine h.iconst (pc := 6) (v := 1) dX4_keep_6 (by decide) ?_
  refine h.putf (pc := 7) (f := 0) (o := 0) (i := 0) (ci := 4) (C := RX4) (T := TX4) (N := 8) (j := 4) (ty := .boolean) (ty0 := tyX4) (x := 1) (k_1 1 (by decide) (by decide)) rfl rfl (by decide) inX4_keep_RX4 tyX4_ok nmX4 kX4_keep_30 rfl (tyX4_ok 4 (by decide)) (zb_narrow zb_1) (zb_fits zb_1) (Nat.le_of_ble_eq_true rfl) rfl dX4_keep_7 (fun M7 e7 => ?_)
  replace hw := hw M7 e7
  refine h.aload_n (pc := 10) dX4_keep_10 rfl 0 rfl ?_
  refine h.getf (pc := 11) (f := 0) (o := 0) (i := 0) (ci := 4) (C := RX4) (T := TX4) (N := 8) (j := 0) (v := .ref (gA G (1, 0, 0))) (k_1 1 (by decide) (by decide)) rfl rfl (by decide) inX4_keep_RX4 kX4_keep_12 rfl dX4_keep_11 ?_
  refine h.getN (pc := 14) (f := 1) (o := 0) (i := 0) (ci := 3) (C := RX3) (T := TX3) (N := 9) (j := 6) (v := .ref (gA G (11, 0, 0))) (k_1 2 (by decide) (by decide)) rfl rfl (by decide) inX4_keep_RX3 (own0 := RX4) (host := "TableWright") rfl nw_24 rfl dX4_keep_14 ?_
  refine h.iload_n (pc := 17) dX4_keep_17 rfl 1 rfl ?_
  obtain ⟨hj18, hw⟩ := hw
  refine h.aald (pc := 18) (o := 0) (ix := v1) (by decide) hj18 dX4_keep_18 ?_
  refine h.getN (pc := 19) (f := 4) (o := 0) (i := v1.toNatClampNeg) (ci := 1) (C := RX1) (T := TX1) (N := 8) (j := 5) (v := .int (M7 4 0 (v1.toNatClampNeg) 5)) (k_2 (by decide) (by decide) (vin_lt hj18)) rfl rfl (by decide) inX4_keep_RX1 (own0 := RX4) (host := "TableWright") rfl nw_12 rfl dX4_keep_19 ?_
  refine h.istore_n (pc := 22) [(3, .int (M7 4 0 (v1.toNatClampNeg) 5)), (0, .ref (gA G (0, 0, 0))), (1, .int v1), (2, .int v2)] dX4_keep_22 rfl (by decide) rfl ?_
  refine h.aload_n (pc := 23) dX4_keep_23 rfl 1 rfl ?_
  refine h.getf (pc := 24) (f := 0) (o := 0) (i := 0) (ci := 4) (C := RX4) (T := TX4) (N := 8) (j := 0) (v := .ref (gA G (1, 0, 0))) (k_1 1 (by decide) (by decide)) rfl rfl (by decide) inX4_keep_RX4 kX4_keep_12 rfl dX4_keep_24 ?_
  refine h.getN (pc := 27) (f := 1) (o := 0) (i := 0) (ci := 3) (C := RX3) (T := TX3) (N := 9) (j := 6) (v := .ref (gA G (11, 0, 0))) (k_1 2 (by decide) (by decide)) rfl rfl (by decide) inX4_keep_RX3 (own0 := RX4) (host := "TableWright") rfl nw_24 rfl dX4_keep_27 ?_
  refine h.iload_n (pc := 30) dX4_keep_30 rfl 2 rfl ?_
  obtain ⟨hj31, hw⟩ := hw
  refine h.aald (pc := 31) (o := 0) (ix := v1) (by decide) hj31 dX4_keep_31 ?_
  refine h.iload_n (pc := 32) dX4_keep_32 rfl 3 rfl ?_
  obtain ⟨hb33, hw⟩ := hw
  refine h.putN (pc := 33) (f := 4) (o := 0) (i := v1.toNatClampNeg) (ci := 1) (C := RX1) (T := TX1) (N := 8) (j := 5) (ty := .boolean) (ty0 := tyX1) (x := v2) (k_2 (by decide) (by decide) (vin_lt hj31)) rfl rfl (by decide) inX4_keep_RX1 tyX1_ok nmX1 (own0 := RX4) (host := "TableWright") rfl nw_12 rfl (tyX1_ok 5 (by decide)) (zb_narrow hb33) (zb_fits hb33) (Nat.le_of_ble_eq_true rfl) rfl dX4_keep_33 (fun M33 e33 => ?_)
  replace hw := hw M33 e33
  refine h.iload_n (pc := 36) dX4_keep_36 rfl 0 rfl ?_
  exact hr _ _ _ _ dX4_keep_37 hw.1 hw.2
-- X4_paper
theorem inX4_paper_RX4 : ∀ w ∈ u_ws RX4 TX4 8, w ∈ wsX4_paper := by decide +kernel
theorem kX4_paper_30 : Cond.fieldLink RX4 30 (TX4 4).1 (TX4 4).2.1 (TX4 4).2.2.1 ∈ wsX4_paper := by decide +kernel
theorem kX4_paper_23 : Cond.fieldLink RX4 23 (TX4 2).1 (TX4 2).2.1 (TX4 2).2.2.1 ∈ wsX4_paper := by decide +kernel
theorem kX4_paper_27 : Cond.fieldLink RX4 27 (TX4 3).1 (TX4 3).2.1 (TX4 3).2.2.1 ∈ wsX4_paper := by decide +kernel
theorem kX4_paper_19 : Cond.fieldLink RX4 19 (TX4 1).1 (TX4 1).2.1 (TX4 1).2.2.1 ∈ wsX4_paper := by decide +kernel
abbrev F_X4_paper : Nat := 6
abbrev L_X4_paper : Nat := 138
theorem hd_X4_paper : yX4_paper.cls = RX4 ∧ yX4_paper.cls ≠ "java/lang/invoke/MethodHandle" ∧ yX4_paper.cls ≠ "java/lang/invoke/VarHandle" ∧ (parseMethodDescriptor yX4_paper.desc).map (fun d => d.parameters.length) = some 2 := by decide +kernel
def wp_X4_paper (v1 : Int32) (v2 : Int32) (M : Mem) (Q : Int32 → Mem → Prop) : Prop := (wp_X4_requireRange v1 10 60 M (fun M5 => (wp_X4_requireRange v2 10 60 M5 (fun M13 => (∀ M18 : Mem, M18 = sM M13 0 0 0 4 1 → (∀ M23 : Mem, M23 = sM M18 0 0 0 2 v1 → (∀ M28 : Mem, M28 = sM M23 0 0 0 3 v2 → (wp_X4_refresh M28 (fun M32 => (wp_X2_chosen 0 M32 (fun r39 M39 => (wp_X0_pagesOrNone r39 M39 (fun r42 M42 => Q r42 M42)))))))))))))
set_option maxHeartbeats 4000000 in
set_option maxRecDepth 100000 in
theorem m_X4_paper {l : Launch} {G : GG} (hG : GoodG G) {v1 : Int32} {v2 : Int32}  {M : Mem} {Q : Int32 → Mem → Prop}  (hw : wp_X4_paper v1 v2 M Q) : CTi l G yX4_paper wsX4_paper F_X4_paper L_X4_paper [.ref (gA G (0, 0, 0)), .int v1, .int v2] M Q := by
  refine CTi_mk hG (by decide +kernel) rfl (Nat.le_of_ble_eq_true rfl) (fun Z (h : AX l G cX4_paper 3 RX4 wsX4_paper F_X4_paper L_X4_paper Z) hr => ?_)
  show Z 0 [(0, .ref (gA G (0, 0, 0))), (1, .int v1), (2, .int v2)] [] M
  unfold wp_X4_paper at hw
  refine h.iload_n (pc := 0) dX4_paper_0 rfl 1 rfl ?_
  refine h.bipush (pc := 1) (v := 10) dX4_paper_1 (by decide) ?_
  refine h.bipush (pc := 3) (v := 60) dX4_paper_3 (by decide) ?_
  refine h.cSv (pc := 5) [.int v1, .int 10, .int 60] [] (m_X4_requireRange hG  hw) gX4_paper_X4_requireRange rfl hd_X4_requireRange (by decide) rfl rfl (Nat.le_of_ble_eq_true rfl) dX4_paper_5 (fun M5 hw => ?_)
  refine h.iload_n (pc := 8) dX4_paper_8 rfl 2 rfl ?_
  refine h.bipush (pc := 9) (v := 10) dX4_paper_9 (by decide) ?_
  refine h.bipush (pc := 11) (v := 60) dX4_paper_11 (by decide) ?_
  refine h.cSv (pc := 13) [.int v2, .int 10, .int 60] [] (m_X4_requireRange hG  hw) gX4_paper_X4_requireRange rfl hd_X4_requireRange (by decide) rfl rfl (Nat.le_of_ble_eq_true rfl) dX4_paper_13 (fun M13 hw => ?_)
  refine h.aload_n (pc := 16) dX4_paper_16 rfl 0 rfl ?_
  refine h.iconst (pc := 17) (v := 1) dX4_paper_17 (by decide) ?_
  refine h.putf (pc := 18) (f := 0) (o := 0) (i := 0) (ci := 4) (C := RX4) (T := TX4) (N := 8) (j := 4) (ty := .boolean) (ty0 := tyX4) (x := 1) (k_1 1 (by decide) (by decide)) rfl rfl (by decide) inX4_paper_RX4 tyX4_ok nmX4 kX4_paper_30 rfl (tyX4_ok 4 (by decide)) (zb_narrow zb_1) (zb_fits zb_1) (Nat.le_of_ble_eq_true rfl) rfl dX4_paper_18 (fun M18 e18 => ?_)
  replace hw := hw M18 e18
  refine h.aload_n (pc := 21) dX4_paper_21 rfl 0 rfl ?_
  refine h.iload_n (pc := 22) dX4_paper_22 rfl 1 rfl ?_
  refine h.putf (pc := 23) (f := 0) (o := 0) (i := 0) (ci := 4) (C := RX4) (T := TX4) (N := 8) (j := 2) (ty := .int) (ty0 := tyX4) (x := v1) (k_1 1 (by decide) (by decide)) rfl rfl (by decide) inX4_paper_RX4 tyX4_ok nmX4 kX4_paper_23 rfl (tyX4_ok 2 (by decide)) rfl rfl (Nat.le_of_ble_eq_true rfl) rfl dX4_paper_23 (fun M23 e23 => ?_)
  replace hw := hw M23 e23
  refine h.aload_n (pc := 26) dX4_paper_26 rfl 0 rfl ?_
  refine h.iload_n (pc := 27) dX4_paper_27 rfl 2 rfl ?_
  refine h.putf (pc := 28) (f := 0) (o := 0) (i := 0) (ci := 4) (C := RX4) (T := TX4) (N := 8) (j := 3) (ty := .int) (ty0 := tyX4) (x := v2) (k_1 1 (by decide) (by decide)) rfl rfl (by decide) inX4_paper_RX4 tyX4_ok nmX4 kX4_paper_27 rfl (tyX4_ok 3 (by decide)) rfl rfl (Nat.le_of_ble_eq_true rfl) rfl dX4_paper_28 (fun M28 e28 => ?_)
  replace hw := hw M28 e28
  refine h.aload_n (pc := 31) dX4_paper_31 rfl 0 rfl ?_
  refine h.cVv (pc := 32) [] (0, 0, 0) [] (m_X4_refresh hG  hw) gX4_paper_X4_refresh rfl hd_X4_refresh (by decide) (k_1 1 (by decide) (by decide)) rfl rfl rfl rfl rfl (Nat.le_of_ble_eq_true rfl) dX4_paper_32 (fun M32 hw => ?_)
  refine h.aload_n (pc := 35) dX4_paper_35 rfl 0 rfl ?_
  refine h.getf (pc := 36) (f := 0) (o := 0) (i := 0) (ci := 4) (C := RX4) (T := TX4) (N := 8) (j := 1) (v := .ref (gA G (2, 0, 0))) (k_1 1 (by decide) (by decide)) rfl rfl (by decide) inX4_paper_RX4 kX4_paper_19 rfl dX4_paper_36 ?_
  refine h.cVr (pc := 39) [] (2, 0, 0) [] (m_X2_chosen hG (by decide) hw) gX4_paper_X2_chosen rfl hd_X2_chosen (by decide) (k_1 2 (by decide) (by decide)) rfl rfl rfl rfl rfl (Nat.le_of_ble_eq_true rfl) dX4_paper_39 (fun r39 M39 h5_39 hw => ?_)
  refine h.cVi (pc := 42) [] (3, r39, 0) [] (m_X0_pagesOrNone hG h5_39 hw) gX4_paper_X0_pagesOrNone rfl hd_X0_pagesOrNone (by decide) (k_1 5 (by decide) h5_39) rfl rfl rfl rfl rfl (Nat.le_of_ble_eq_true rfl) dX4_paper_42 (fun r42 M42 hw => ?_)
  exact hr _ _ _ _ dX4_paper_45 hw
-- X4_cell
abbrev F_X4_cell : Nat := 6
abbrev L_X4_cell : Nat := 138
theorem hd_X4_cell : yX4_cell.cls = RX4 ∧ yX4_cell.cls ≠ "java/lang/invoke/MethodHandle" ∧ yX4_cell.cls ≠ "java/lang/invoke/VarHandle" ∧ (parseMethodDescriptor yX4_cell.desc).map (fun d => d.parameters.length) = some 3 := by decide +kernel
def wp_X4_cell (v1 : Int32) (v2 : Int32) (v3 : Int32) (M : Mem) (Q : Int32 → Mem → Prop) : Prop := (wp_X4_requireRow v1 M (fun M2 => (wp_X4_requireColumn v2 M2 (fun M7 => (wp_X4_requireRange v3 0 3 M7 (fun M13 => (wp_X4_refresh M13 (fun M17 => (wp_X4_factOfCell v1 v2 v3 M17 (fun r24 M24 => Q r24 M24))))))))))
set_option maxHeartbeats 4000000 in
set_option maxRecDepth 100000 in
theorem m_X4_cell {l : Launch} {G : GG} (hG : GoodG G) {v1 : Int32} {v2 : Int32} {v3 : Int32}  {M : Mem} {Q : Int32 → Mem → Prop}  (hw : wp_X4_cell v1 v2 v3 M Q) : CTi l G yX4_cell wsX4_cell F_X4_cell L_X4_cell [.ref (gA G (0, 0, 0)), .int v1, .int v2, .int v3] M Q := by
  refine CTi_mk hG (by decide +kernel) rfl (Nat.le_of_ble_eq_true rfl) (fun Z (h : AX l G cX4_cell 4 RX4 wsX4_cell F_X4_cell L_X4_cell Z) hr => ?_)
  show Z 0 [(0, .ref (gA G (0, 0, 0))), (1, .int v1), (2, .int v2), (3, .int v3)] [] M
  unfold wp_X4_cell at hw
  refine h.aload_n (pc := 0) dX4_cell_0 rfl 0 rfl ?_
  refine h.iload_n (pc := 1) dX4_cell_1 rfl 1 rfl ?_
  refine h.cVv (pc := 2) [.int v1] (0, 0, 0) [] (m_X4_requireRow hG  hw) gX4_cell_X4_requireRow rfl hd_X4_requireRow (by decide) (k_1 1 (by decide) (by decide)) rfl rfl rfl rfl rfl (Nat.le_of_ble_eq_true rfl) dX4_cell_2 (fun M2 hw => ?_)
  refine h.aload_n (pc := 5) dX4_cell_5 rfl 0 rfl ?_
  refine h.iload_n (pc := 6) dX4_cell_6 rfl 2 rfl ?_
  refine h.cVv (pc := 7) [.int v2] (0, 0, 0) [] (m_X4_requireColumn hG  hw) gX4_cell_X4_requireColumn rfl hd_X4_requireColumn (by decide) (k_1 1 (by decide) (by decide)) rfl rfl rfl rfl rfl (Nat.le_of_ble_eq_true rfl) dX4_cell_7 (fun M7 hw => ?_)
  refine h.iload_n (pc := 10) dX4_cell_10 rfl 3 rfl ?_
  refine h.iconst (pc := 11) (v := 0) dX4_cell_11 (by decide) ?_
  refine h.iconst (pc := 12) (v := 3) dX4_cell_12 (by decide) ?_
  refine h.cSv (pc := 13) [.int v3, .int 0, .int 3] [] (m_X4_requireRange hG  hw) gX4_cell_X4_requireRange rfl hd_X4_requireRange (by decide) rfl rfl (Nat.le_of_ble_eq_true rfl) dX4_cell_13 (fun M13 hw => ?_)
  refine h.aload_n (pc := 16) dX4_cell_16 rfl 0 rfl ?_
  refine h.cVv (pc := 17) [] (0, 0, 0) [] (m_X4_refresh hG  hw) gX4_cell_X4_refresh rfl hd_X4_refresh (by decide) (k_1 1 (by decide) (by decide)) rfl rfl rfl rfl rfl (Nat.le_of_ble_eq_true rfl) dX4_cell_17 (fun M17 hw => ?_)
  refine h.aload_n (pc := 20) dX4_cell_20 rfl 0 rfl ?_
  refine h.iload_n (pc := 21) dX4_cell_21 rfl 1 rfl ?_
  refine h.iload_n (pc := 22) dX4_cell_22 rfl 2 rfl ?_
  refine h.iload_n (pc := 23) dX4_cell_23 rfl 3 rfl ?_
  refine h.cVi (pc := 24) [.int v1, .int v2, .int v3] (0, 0, 0) [] (m_X4_factOfCell hG  hw) gX4_cell_X4_factOfCell rfl hd_X4_factOfCell (by decide) (k_1 1 (by decide) (by decide)) rfl rfl rfl rfl rfl (Nat.le_of_ble_eq_true rfl) dX4_cell_24 (fun r24 M24 hw => ?_)
  exact hr _ _ _ _ dX4_cell_27 hw
-- X4_ofColumn
abbrev F_X4_ofColumn : Nat := 6
abbrev L_X4_ofColumn : Nat := 138
theorem hd_X4_ofColumn : yX4_ofColumn.cls = RX4 ∧ yX4_ofColumn.cls ≠ "java/lang/invoke/MethodHandle" ∧ yX4_ofColumn.cls ≠ "java/lang/invoke/VarHandle" ∧ (parseMethodDescriptor yX4_ofColumn.desc).map (fun d => d.parameters.length) = some 2 := by decide +kernel
def wp_X4_ofColumn (v1 : Int32) (v2 : Int32) (M : Mem) (Q : Int32 → Mem → Prop) : Prop := (wp_X4_requireColumn v1 M (fun M2 => (wp_X4_requireRange v2 0 4 M2 (fun M8 => (wp_X4_refresh M8 (fun M12 => (wp_X4_factOfColumn v1 v2 M12 (fun r18 M18 => Q r18 M18))))))))
set_option maxHeartbeats 4000000 in
set_option maxRecDepth 100000 in
theorem m_X4_ofColumn {l : Launch} {G : GG} (hG : GoodG G) {v1 : Int32} {v2 : Int32}  {M : Mem} {Q : Int32 → Mem → Prop}  (hw : wp_X4_ofColumn v1 v2 M Q) : CTi l G yX4_ofColumn wsX4_ofColumn F_X4_ofColumn L_X4_ofColumn [.ref (gA G (0, 0, 0)), .int v1, .int v2] M Q := by
  refine CTi_mk hG (by decide +kernel) rfl (Nat.le_of_ble_eq_true rfl) (fun Z (h : AX l G cX4_ofColumn 3 RX4 wsX4_ofColumn F_X4_ofColumn L_X4_ofColumn Z) hr => ?_)
  show Z 0 [(0, .ref (gA G (0, 0, 0))), (1, .int v1), (2, .int v2)] [] M
  unfold wp_X4_ofColumn at hw
  refine h.aload_n (pc := 0) dX4_ofColumn_0 rfl 0 rfl ?_
  refine h.iload_n (pc := 1) dX4_ofColumn_1 rfl 1 rfl ?_
  refine h.cVv (pc := 2) [.int v1] (0, 0, 0) [] (m_X4_requireColumn hG  hw) gX4_ofColumn_X4_requireColumn rfl hd_X4_requireColumn (by decide) (k_1 1 (by decide) (by decide)) rfl rfl rfl rfl rfl (Nat.le_of_ble_eq_true rfl) dX4_ofColumn_2 (fun M2 hw => ?_)
  refine h.iload_n (pc := 5) dX4_ofColumn_5 rfl 2 rfl ?_
  refine h.iconst (pc := 6) (v := 0) dX4_ofColumn_6 (by decide) ?_
  refine h.iconst (pc := 7) (v := 4) dX4_ofColumn_7 (by decide) ?_
  refine h.cSv (pc := 8) [.int v2, .int 0, .int 4] [] (m_X4_requireRange hG  hw) gX4_ofColumn_X4_requireRange rfl hd_X4_requireRange (by decide) rfl rfl (Nat.le_of_ble_eq_true rfl) dX4_ofColumn_8 (fun M8 hw => ?_)
  refine h.aload_n (pc := 11) dX4_ofColumn_11 rfl 0 rfl ?_
  refine h.cVv (pc := 12) [] (0, 0, 0) [] (m_X4_refresh hG  hw) gX4_ofColumn_X4_refresh rfl hd_X4_refresh (by decide) (k_1 1 (by decide) (by decide)) rfl rfl rfl rfl rfl (Nat.le_of_ble_eq_true rfl) dX4_ofColumn_12 (fun M12 hw => ?_)
  refine h.aload_n (pc := 15) dX4_ofColumn_15 rfl 0 rfl ?_
  refine h.iload_n (pc := 16) dX4_ofColumn_16 rfl 1 rfl ?_
  refine h.iload_n (pc := 17) dX4_ofColumn_17 rfl 2 rfl ?_
  refine h.cVi (pc := 18) [.int v1, .int v2] (0, 0, 0) [] (m_X4_factOfColumn hG  hw) gX4_ofColumn_X4_factOfColumn rfl hd_X4_factOfColumn (by decide) (k_1 1 (by decide) (by decide)) rfl rfl rfl rfl rfl (Nat.le_of_ble_eq_true rfl) dX4_ofColumn_18 (fun r18 M18 hw => ?_)
  exact hr _ _ _ _ dX4_ofColumn_21 hw
-- X4_ofRow
abbrev F_X4_ofRow : Nat := 6
abbrev L_X4_ofRow : Nat := 138
theorem hd_X4_ofRow : yX4_ofRow.cls = RX4 ∧ yX4_ofRow.cls ≠ "java/lang/invoke/MethodHandle" ∧ yX4_ofRow.cls ≠ "java/lang/invoke/VarHandle" ∧ (parseMethodDescriptor yX4_ofRow.desc).map (fun d => d.parameters.length) = some 2 := by decide +kernel
def wp_X4_ofRow (v1 : Int32) (v2 : Int32) (M : Mem) (Q : Int32 → Mem → Prop) : Prop := (wp_X4_requireRow v1 M (fun M2 => (wp_X4_requireRange v2 0 2 M2 (fun M8 => (wp_X4_refresh M8 (fun M12 => (wp_X4_factOfRow v1 v2 M12 (fun r18 M18 => Q r18 M18))))))))
set_option maxHeartbeats 4000000 in
set_option maxRecDepth 100000 in
theorem m_X4_ofRow {l : Launch} {G : GG} (hG : GoodG G) {v1 : Int32} {v2 : Int32}  {M : Mem} {Q : Int32 → Mem → Prop}  (hw : wp_X4_ofRow v1 v2 M Q) : CTi l G yX4_ofRow wsX4_ofRow F_X4_ofRow L_X4_ofRow [.ref (gA G (0, 0, 0)), .int v1, .int v2] M Q := by
  refine CTi_mk hG (by decide +kernel) rfl (Nat.le_of_ble_eq_true rfl) (fun Z (h : AX l G cX4_ofRow 3 RX4 wsX4_ofRow F_X4_ofRow L_X4_ofRow Z) hr => ?_)
  show Z 0 [(0, .ref (gA G (0, 0, 0))), (1, .int v1), (2, .int v2)] [] M
  unfold wp_X4_ofRow at hw
  refine h.aload_n (pc := 0) dX4_ofRow_0 rfl 0 rfl ?_
  refine h.iload_n (pc := 1) dX4_ofRow_1 rfl 1 rfl ?_
  refine h.cVv (pc := 2) [.int v1] (0, 0, 0) [] (m_X4_requireRow hG  hw) gX4_ofRow_X4_requireRow rfl hd_X4_requireRow (by decide) (k_1 1 (by decide) (by decide)) rfl rfl rfl rfl rfl (Nat.le_of_ble_eq_true rfl) dX4_ofRow_2 (fun M2 hw => ?_)
  refine h.iload_n (pc := 5) dX4_ofRow_5 rfl 2 rfl ?_
  refine h.iconst (pc := 6) (v := 0) dX4_ofRow_6 (by decide) ?_
  refine h.iconst (pc := 7) (v := 2) dX4_ofRow_7 (by decide) ?_
  refine h.cSv (pc := 8) [.int v2, .int 0, .int 2] [] (m_X4_requireRange hG  hw) gX4_ofRow_X4_requireRange rfl hd_X4_requireRange (by decide) rfl rfl (Nat.le_of_ble_eq_true rfl) dX4_ofRow_8 (fun M8 hw => ?_)
  refine h.aload_n (pc := 11) dX4_ofRow_11 rfl 0 rfl ?_
  refine h.cVv (pc := 12) [] (0, 0, 0) [] (m_X4_refresh hG  hw) gX4_ofRow_X4_refresh rfl hd_X4_refresh (by decide) (k_1 1 (by decide) (by decide)) rfl rfl rfl rfl rfl (Nat.le_of_ble_eq_true rfl) dX4_ofRow_12 (fun M12 hw => ?_)
  refine h.aload_n (pc := 15) dX4_ofRow_15 rfl 0 rfl ?_
  refine h.iload_n (pc := 16) dX4_ofRow_16 rfl 1 rfl ?_
  refine h.iload_n (pc := 17) dX4_ofRow_17 rfl 2 rfl ?_
  refine h.cVi (pc := 18) [.int v1, .int v2] (0, 0, 0) [] (m_X4_factOfRow hG  hw) gX4_ofRow_X4_factOfRow rfl hd_X4_factOfRow (by decide) (k_1 1 (by decide) (by decide)) rfl rfl rfl rfl rfl (Nat.le_of_ble_eq_true rfl) dX4_ofRow_18 (fun r18 M18 hw => ?_)
  exact hr _ _ _ _ dX4_ofRow_21 hw
-- X4_ofPage
abbrev F_X4_ofPage : Nat := 6
abbrev L_X4_ofPage : Nat := 138
theorem hd_X4_ofPage : yX4_ofPage.cls = RX4 ∧ yX4_ofPage.cls ≠ "java/lang/invoke/MethodHandle" ∧ yX4_ofPage.cls ≠ "java/lang/invoke/VarHandle" ∧ (parseMethodDescriptor yX4_ofPage.desc).map (fun d => d.parameters.length) = some 2 := by decide +kernel
def wp_X4_ofPage (v1 : Int32) (v2 : Int32) (M : Mem) (Q : Int32 → Mem → Prop) : Prop := (wp_X4_refresh M (fun M1 => (wp_X4_requirePage v1 M1 (fun M6 => (wp_X4_requireRange v2 0 4 M6 (fun M12 => (wp_X4_factOfPage v1 v2 M12 (fun r18 M18 => Q r18 M18))))))))
set_option maxHeartbeats 4000000 in
set_option maxRecDepth 100000 in
theorem m_X4_ofPage {l : Launch} {G : GG} (hG : GoodG G) {v1 : Int32} {v2 : Int32}  {M : Mem} {Q : Int32 → Mem → Prop}  (hw : wp_X4_ofPage v1 v2 M Q) : CTi l G yX4_ofPage wsX4_ofPage F_X4_ofPage L_X4_ofPage [.ref (gA G (0, 0, 0)), .int v1, .int v2] M Q := by
  refine CTi_mk hG (by decide +kernel) rfl (Nat.le_of_ble_eq_true rfl) (fun Z (h : AX l G cX4_ofPage 3 RX4 wsX4_ofPage F_X4_ofPage L_X4_ofPage Z) hr => ?_)
  show Z 0 [(0, .ref (gA G (0, 0, 0))), (1, .int v1), (2, .int v2)] [] M
  unfold wp_X4_ofPage at hw
  refine h.aload_n (pc := 0) dX4_ofPage_0 rfl 0 rfl ?_
  refine h.cVv (pc := 1) [] (0, 0, 0) [] (m_X4_refresh hG  hw) gX4_ofPage_X4_refresh rfl hd_X4_refresh (by decide) (k_1 1 (by decide) (by decide)) rfl rfl rfl rfl rfl (Nat.le_of_ble_eq_true rfl) dX4_ofPage_1 (fun M1 hw => ?_)
  refine h.aload_n (pc := 4) dX4_ofPage_4 rfl 0 rfl ?_
  refine h.iload_n (pc := 5) dX4_ofPage_5 rfl 1 rfl ?_
  refine h.cVv (pc := 6) [.int v1] (0, 0, 0) [] (m_X4_requirePage hG  hw) gX4_ofPage_X4_requirePage rfl hd_X4_requirePage (by decide) (k_1 1 (by decide) (by decide)) rfl rfl rfl rfl rfl (Nat.le_of_ble_eq_true rfl) dX4_ofPage_6 (fun M6 hw => ?_)
  refine h.iload_n (pc := 9) dX4_ofPage_9 rfl 2 rfl ?_
  refine h.iconst (pc := 10) (v := 0) dX4_ofPage_10 (by decide) ?_
  refine h.iconst (pc := 11) (v := 4) dX4_ofPage_11 (by decide) ?_
  refine h.cSv (pc := 12) [.int v2, .int 0, .int 4] [] (m_X4_requireRange hG  hw) gX4_ofPage_X4_requireRange rfl hd_X4_requireRange (by decide) rfl rfl (Nat.le_of_ble_eq_true rfl) dX4_ofPage_12 (fun M12 hw => ?_)
  refine h.aload_n (pc := 15) dX4_ofPage_15 rfl 0 rfl ?_
  refine h.iload_n (pc := 16) dX4_ofPage_16 rfl 1 rfl ?_
  refine h.iload_n (pc := 17) dX4_ofPage_17 rfl 2 rfl ?_
  refine h.cVi (pc := 18) [.int v1, .int v2] (0, 0, 0) [] (m_X4_factOfPage hG  hw) gX4_ofPage_X4_factOfPage rfl hd_X4_factOfPage (by decide) (k_1 1 (by decide) (by decide)) rfl rfl rfl rfl rfl (Nat.le_of_ble_eq_true rfl) dX4_ofPage_18 (fun r18 M18 hw => ?_)
  exact hr _ _ _ _ dX4_ofPage_21 hw
-- X4_carried
theorem inX4_carried_RX4 : ∀ w ∈ u_ws RX4 TX4 8, w ∈ wsX4_carried := by decide +kernel
theorem kX4_carried_19 : Cond.fieldLink RX4 19 (TX4 1).1 (TX4 1).2.1 (TX4 1).2.2.1 ∈ wsX4_carried := by decide +kernel
theorem kX4_carried_12 : Cond.fieldLink RX4 12 (TX4 0).1 (TX4 0).2.1 (TX4 0).2.2.1 ∈ wsX4_carried := by decide +kernel
abbrev F_X4_carried : Nat := 6
abbrev L_X4_carried : Nat := 138
theorem hd_X4_carried : yX4_carried.cls = RX4 ∧ yX4_carried.cls ≠ "java/lang/invoke/MethodHandle" ∧ yX4_carried.cls ≠ "java/lang/invoke/VarHandle" ∧ (parseMethodDescriptor yX4_carried.desc).map (fun d => d.parameters.length) = some 2 := by decide +kernel
def wp_X4_carried (v1 : Int32) (v2 : Int32) (M : Mem) (Q : Int32 → Mem → Prop) : Prop := (wp_X4_refresh M (fun M1 => (wp_X4_requirePage v1 M1 (fun M6 => (wp_X4_requireColumn v2 M6 (fun M11 => (wp_X2_chosen 0 M11 (fun r18 M18 => (wp_X0_carriedOn r18 0 v1 v2 M18 (fun r27 M27 => Q r27 M27))))))))))
set_option maxHeartbeats 4000000 in
set_option maxRecDepth 100000 in
theorem m_X4_carried {l : Launch} {G : GG} (hG : GoodG G) {v1 : Int32} {v2 : Int32}  {M : Mem} {Q : Int32 → Mem → Prop}  (hw : wp_X4_carried v1 v2 M Q) : CTi l G yX4_carried wsX4_carried F_X4_carried L_X4_carried [.ref (gA G (0, 0, 0)), .int v1, .int v2] M Q := by
  refine CTi_mk hG (by decide +kernel) rfl (Nat.le_of_ble_eq_true rfl) (fun Z (h : AX l G cX4_carried 3 RX4 wsX4_carried F_X4_carried L_X4_carried Z) hr => ?_)
  show Z 0 [(0, .ref (gA G (0, 0, 0))), (1, .int v1), (2, .int v2)] [] M
  unfold wp_X4_carried at hw
  refine h.aload_n (pc := 0) dX4_carried_0 rfl 0 rfl ?_
  refine h.cVv (pc := 1) [] (0, 0, 0) [] (m_X4_refresh hG  hw) gX4_carried_X4_refresh rfl hd_X4_refresh (by decide) (k_1 1 (by decide) (by decide)) rfl rfl rfl rfl rfl (Nat.le_of_ble_eq_true rfl) dX4_carried_1 (fun M1 hw => ?_)
  refine h.aload_n (pc := 4) dX4_carried_4 rfl 0 rfl ?_
  refine h.iload_n (pc := 5) dX4_carried_5 rfl 1 rfl ?_
  refine h.cVv (pc := 6) [.int v1] (0, 0, 0) [] (m_X4_requirePage hG  hw) gX4_carried_X4_requirePage rfl hd_X4_requirePage (by decide) (k_1 1 (by decide) (by decide)) rfl rfl rfl rfl rfl (Nat.le_of_ble_eq_true rfl) dX4_carried_6 (fun M6 hw => ?_)
  refine h.aload_n (pc := 9) dX4_carried_9 rfl 0 rfl ?_
  refine h.iload_n (pc := 10) dX4_carried_10 rfl 2 rfl ?_
  refine h.cVv (pc := 11) [.int v2] (0, 0, 0) [] (m_X4_requireColumn hG  hw) gX4_carried_X4_requireColumn rfl hd_X4_requireColumn (by decide) (k_1 1 (by decide) (by decide)) rfl rfl rfl rfl rfl (Nat.le_of_ble_eq_true rfl) dX4_carried_11 (fun M11 hw => ?_)
  refine h.aload_n (pc := 14) dX4_carried_14 rfl 0 rfl ?_
  refine h.getf (pc := 15) (f := 0) (o := 0) (i := 0) (ci := 4) (C := RX4) (T := TX4) (N := 8) (j := 1) (v := .ref (gA G (2, 0, 0))) (k_1 1 (by decide) (by decide)) rfl rfl (by decide) inX4_carried_RX4 kX4_carried_19 rfl dX4_carried_15 ?_
  refine h.cVr (pc := 18) [] (2, 0, 0) [] (m_X2_chosen hG (by decide) hw) gX4_carried_X2_chosen rfl hd_X2_chosen (by decide) (k_1 2 (by decide) (by decide)) rfl rfl rfl rfl rfl (Nat.le_of_ble_eq_true rfl) dX4_carried_18 (fun r18 M18 h5_18 hw => ?_)
  refine h.aload_n (pc := 21) dX4_carried_21 rfl 0 rfl ?_
  refine h.getf (pc := 22) (f := 0) (o := 0) (i := 0) (ci := 4) (C := RX4) (T := TX4) (N := 8) (j := 0) (v := .ref (gA G (1, 0, 0))) (k_1 1 (by decide) (by decide)) rfl rfl (by decide) inX4_carried_RX4 kX4_carried_12 rfl dX4_carried_22 ?_
  refine h.iload_n (pc := 25) dX4_carried_25 rfl 1 rfl ?_
  refine h.iload_n (pc := 26) dX4_carried_26 rfl 2 rfl ?_
  refine h.cVi (pc := 27) [.ref (gA G (1, 0, 0)), .int v1, .int v2] (3, r18, 0) [] (m_X0_carriedOn hG h5_18 (by decide) hw) gX4_carried_X0_carriedOn rfl hd_X0_carriedOn (by decide) (k_1 5 (by decide) h5_18) rfl rfl rfl rfl rfl (Nat.le_of_ble_eq_true rfl) dX4_carried_27 (fun r27 M27 hw => ?_)
  exact hr _ _ _ _ dX4_carried_30 hw
-- X4_many
abbrev F_X4_many : Nat := 6
abbrev L_X4_many : Nat := 138
theorem hd_X4_many : yX4_many.cls = RX4 ∧ yX4_many.cls ≠ "java/lang/invoke/MethodHandle" ∧ yX4_many.cls ≠ "java/lang/invoke/VarHandle" ∧ (parseMethodDescriptor yX4_many.desc).map (fun d => d.parameters.length) = some 1 := by decide +kernel
def wp_X4_many (v1 : Int32) (M : Mem) (Q : Int32 → Mem → Prop) : Prop := (wp_X4_requireRange v1 0 7 M (fun M4 => (wp_X4_refresh M4 (fun M8 => (wp_X4_factOfTable v1 M8 (fun r13 M13 => Q r13 M13))))))
set_option maxHeartbeats 4000000 in
set_option maxRecDepth 100000 in
theorem m_X4_many {l : Launch} {G : GG} (hG : GoodG G) {v1 : Int32}  {M : Mem} {Q : Int32 → Mem → Prop}  (hw : wp_X4_many v1 M Q) : CTi l G yX4_many wsX4_many F_X4_many L_X4_many [.ref (gA G (0, 0, 0)), .int v1] M Q := by
  refine CTi_mk hG (by decide +kernel) rfl (Nat.le_of_ble_eq_true rfl) (fun Z (h : AX l G cX4_many 2 RX4 wsX4_many F_X4_many L_X4_many Z) hr => ?_)
  show Z 0 [(0, .ref (gA G (0, 0, 0))), (1, .int v1)] [] M
  unfold wp_X4_many at hw
  refine h.iload_n (pc := 0) dX4_many_0 rfl 1 rfl ?_
  refine h.iconst (pc := 1) (v := 0) dX4_many_1 (by decide) ?_
  refine h.bipush (pc := 2) (v := 7) dX4_many_2 (by decide) ?_
  refine h.cSv (pc := 4) [.int v1, .int 0, .int 7] [] (m_X4_requireRange hG  hw) gX4_many_X4_requireRange rfl hd_X4_requireRange (by decide) rfl rfl (Nat.le_of_ble_eq_true rfl) dX4_many_4 (fun M4 hw => ?_)
  refine h.aload_n (pc := 7) dX4_many_7 rfl 0 rfl ?_
  refine h.cVv (pc := 8) [] (0, 0, 0) [] (m_X4_refresh hG  hw) gX4_many_X4_refresh rfl hd_X4_refresh (by decide) (k_1 1 (by decide) (by decide)) rfl rfl rfl rfl rfl (Nat.le_of_ble_eq_true rfl) dX4_many_8 (fun M8 hw => ?_)
  refine h.aload_n (pc := 11) dX4_many_11 rfl 0 rfl ?_
  refine h.iload_n (pc := 12) dX4_many_12 rfl 1 rfl ?_
  refine h.cVi (pc := 13) [.int v1] (0, 0, 0) [] (m_X4_factOfTable hG  hw) gX4_many_X4_factOfTable rfl hd_X4_factOfTable (by decide) (k_1 1 (by decide) (by decide)) rfl rfl rfl rfl rfl (Nat.le_of_ble_eq_true rfl) dX4_many_13 (fun r13 M13 hw => ?_)
  exact hr _ _ _ _ dX4_many_16 hw
-- X4_pagesWith
abbrev F_X4_pagesWith : Nat := 6
abbrev L_X4_pagesWith : Nat := 138
theorem hd_X4_pagesWith : yX4_pagesWith.cls = RX4 ∧ yX4_pagesWith.cls ≠ "java/lang/invoke/MethodHandle" ∧ yX4_pagesWith.cls ≠ "java/lang/invoke/VarHandle" ∧ (parseMethodDescriptor yX4_pagesWith.desc).map (fun d => d.parameters.length) = some 3 := by decide +kernel
def wp_X4_pagesWith (v1 : Int32) (v2 : Int32) (v3 : Int32) (M : Mem) (Q : Int32 → Mem → Prop) : Prop := (wp_X4_requireRange v1 10 60 M (fun M5 => (wp_X4_requireRange v2 10 60 M5 (fun M13 => (wp_X4_refresh M13 (fun M17 => ((v3 = 0 → (wp_X4_pagesIn v1 v2 M17 (fun r36 M36 => Q r36 M36))) ∧ (¬ (v3 = 0) → (wp_X4_pagesIn v2 v1 M17 (fun r27 M27 => Q r27 M27))))))))))
set_option maxHeartbeats 4000000 in
set_option maxRecDepth 100000 in
theorem m_X4_pagesWith {l : Launch} {G : GG} (hG : GoodG G) {v1 : Int32} {v2 : Int32} {v3 : Int32}  {M : Mem} {Q : Int32 → Mem → Prop}  (hw : wp_X4_pagesWith v1 v2 v3 M Q) : CTi l G yX4_pagesWith wsX4_pagesWith F_X4_pagesWith L_X4_pagesWith [.ref (gA G (0, 0, 0)), .int v1, .int v2, .int v3] M Q := by
  refine CTi_mk hG (by decide +kernel) rfl (Nat.le_of_ble_eq_true rfl) (fun Z (h : AX l G cX4_pagesWith 4 RX4 wsX4_pagesWith F_X4_pagesWith L_X4_pagesWith Z) hr => ?_)
  show Z 0 [(0, .ref (gA G (0, 0, 0))), (1, .int v1), (2, .int v2), (3, .int v3)] [] M
  unfold wp_X4_pagesWith at hw
  refine h.iload_n (pc := 0) dX4_pagesWith_0 rfl 1 rfl ?_
  refine h.bipush (pc := 1) (v := 10) dX4_pagesWith_1 (by decide) ?_
  refine h.bipush (pc := 3) (v := 60) dX4_pagesWith_3 (by decide) ?_
  refine h.cSv (pc := 5) [.int v1, .int 10, .int 60] [] (m_X4_requireRange hG  hw) gX4_pagesWith_X4_requireRange rfl hd_X4_requireRange (by decide) rfl rfl (Nat.le_of_ble_eq_true rfl) dX4_pagesWith_5 (fun M5 hw => ?_)
  refine h.iload_n (pc := 8) dX4_pagesWith_8 rfl 2 rfl ?_
  refine h.bipush (pc := 9) (v := 10) dX4_pagesWith_9 (by decide) ?_
  refine h.bipush (pc := 11) (v := 60) dX4_pagesWith_11 (by decide) ?_
  refine h.cSv (pc := 13) [.int v2, .int 10, .int 60] [] (m_X4_requireRange hG  hw) gX4_pagesWith_X4_requireRange rfl hd_X4_requireRange (by decide) rfl rfl (Nat.le_of_ble_eq_true rfl) dX4_pagesWith_13 (fun M13 hw => ?_)
  refine h.aload_n (pc := 16) dX4_pagesWith_16 rfl 0 rfl ?_
  refine h.cVv (pc := 17) [] (0, 0, 0) [] (m_X4_refresh hG  hw) gX4_pagesWith_X4_refresh rfl hd_X4_refresh (by decide) (k_1 1 (by decide) (by decide)) rfl rfl rfl rfl rfl (Nat.le_of_ble_eq_true rfl) dX4_pagesWith_17 (fun M17 hw => ?_)
  refine h.iload_n (pc := 20) dX4_pagesWith_20 rfl 3 rfl ?_
  refine h.if_eq (pc := 21) 33 dX4_pagesWith_21 (by decide) (fun c21 => ?_) (fun c21 => ?_)
  · replace hw := hw.1 c21
    refine h.aload_n (pc := 33) dX4_pagesWith_33 rfl 0 rfl ?_
    refine h.iload_n (pc := 34) dX4_pagesWith_34 rfl 1 rfl ?_
    refine h.iload_n (pc := 35) dX4_pagesWith_35 rfl 2 rfl ?_
    refine h.cVi (pc := 36) [.int v1, .int v2] (0, 0, 0) [] (m_X4_pagesIn hG  hw) gX4_pagesWith_X4_pagesIn rfl hd_X4_pagesIn (by decide) (k_1 1 (by decide) (by decide)) rfl rfl rfl rfl rfl (Nat.le_of_ble_eq_true rfl) dX4_pagesWith_36 (fun r36 M36 hw => ?_)
    exact hr _ _ _ _ dX4_pagesWith_39 hw
  · replace hw := hw.2 c21
    refine h.aload_n (pc := 24) dX4_pagesWith_24 rfl 0 rfl ?_
    refine h.iload_n (pc := 25) dX4_pagesWith_25 rfl 2 rfl ?_
    refine h.iload_n (pc := 26) dX4_pagesWith_26 rfl 1 rfl ?_
    refine h.cVi (pc := 27) [.int v2, .int v1] (0, 0, 0) [] (m_X4_pagesIn hG  hw) gX4_pagesWith_X4_pagesIn rfl hd_X4_pagesIn (by decide) (k_1 1 (by decide) (by decide)) rfl rfl rfl rfl rfl (Nat.le_of_ble_eq_true rfl) dX4_pagesWith_27 (fun r27 M27 hw => ?_)
    refine h.goto (pc := 30) 39 dX4_pagesWith_30 (by decide) ?_
    exact hr _ _ _ _ dX4_pagesWith_39 hw
-- X4_changedBy
theorem inX4_changedBy_RX0 : ∀ w ∈ u_ws RX0 TX0 14, w ∈ wsX4_changedBy := by decide +kernel
theorem inX4_changedBy_RX1 : ∀ w ∈ u_ws RX1 TX1 8, w ∈ wsX4_changedBy := by decide +kernel
theorem inX4_changedBy_RX3 : ∀ w ∈ u_ws RX3 TX3 9, w ∈ wsX4_changedBy := by decide +kernel
theorem inX4_changedBy_RX4 : ∀ w ∈ u_ws RX4 TX4 8, w ∈ wsX4_changedBy := by decide +kernel
theorem kX4_changedBy_19 : Cond.fieldLink RX4 19 (TX4 1).1 (TX4 1).2.1 (TX4 1).2.2.1 ∈ wsX4_changedBy := by decide +kernel
theorem kX4_changedBy_34 : Cond.fieldLink RX4 34 (TX4 5).1 (TX4 5).2.1 (TX4 5).2.2.1 ∈ wsX4_changedBy := by decide +kernel
theorem kX4_changedBy_12 : Cond.fieldLink RX4 12 (TX4 0).1 (TX4 0).2.1 (TX4 0).2.2.1 ∈ wsX4_changedBy := by decide +kernel
theorem kMX4_changedBy_1_max_190 : Cond.methodLink RX4 190 Lib.Math.max.name ∈ wsX4_changedBy := by decide +kernel
theorem kMX4_changedBy_2_max : Cond.static Lib.Math.max.name ∈ wsX4_changedBy := by decide +kernel
theorem kMX4_changedBy_3 : Cond.initialized "java/lang/Math" ∈ wsX4_changedBy := by decide +kernel
theorem kMX4_changedBy_4_max : Cond.code Lib.Math.max.name Lib.Math.max.code 2 (some .int) ∈ wsX4_changedBy := by decide +kernel
abbrev F_X4_changedBy : Nat := 6
abbrev L_X4_changedBy : Nat := 138
theorem hd_X4_changedBy : yX4_changedBy.cls = RX4 ∧ yX4_changedBy.cls ≠ "java/lang/invoke/MethodHandle" ∧ yX4_changedBy.cls ≠ "java/lang/invoke/VarHandle" ∧ (parseMethodDescriptor yX4_changedBy.desc).map (fun d => d.parameters.length) = some 3 := by decide +kernel
def wp_X4_changedBy_L128 (v1 : Int32) (v2 : Int32) (v3 : Int32) (B : Int32 → Int32 → Mem → Prop) (X : Int32 → Mem → Prop) (Q : Int32 → Mem → Prop) (o4 : Nat) (o5 : Nat) (v6 : Int32) (v7 : Int32) (v8 : Int32) (M : Mem) : Prop := B v7 (v8 + 1) M
set_option maxHeartbeats 4000000 in
set_option maxRecDepth 100000 in
theorem l_X4_changedBy_L128 {l : Launch} {G : GG} {Z : ZT} (h : AX l G cX4_changedBy 10 RX4 wsX4_changedBy F_X4_changedBy L_X4_changedBy Z) (hG : GoodG G) {Q : Int32 → Mem → Prop} (hr : RETi cX4_changedBy Q Z) (v1 : Int32) (v2 : Int32) (v3 : Int32)  (o4 : Nat) (o5 : Nat) (v6 : Int32) (v7 : Int32) (v8 : Int32) (ho4 : o4 < 5) (ho5 : o5 < 5) {B : Int32 → Int32 → Mem → Prop} (hB : ∀ (v7 : Int32) (v8 : Int32) (M : Mem), B v7 v8 M → Z 73 [(0, .ref (gA G (0, 0, 0))), (4, .ref (gA G (3, o4, 0))), (5, .ref (gA G (3, o5, 0))), (6, .int v6), (7, .int v7), (8, .int v8)] [] M) {X : Int32 → Mem → Prop} (hX : ∀ (v7 : Int32) (M : Mem), X v7 M → Z 134 [(7, .int v7)] [] M) (M : Mem) (hw : wp_X4_changedBy_L128 v1 v2 v3 B X Q o4 o5 v6 v7 v8 M) : Z 128 [(0, .ref (gA G (0, 0, 0))), (4, .ref (gA G (3, o4, 0))), (5, .ref (gA G (3, o5, 0))), (6, .int v6), (7, .int v7), (8, .int v8)] [] M := by
  unfold wp_X4_changedBy_L128 at hw
  refine h.iinc (pc := 128) [(8, .int (v8 + 1)), (0, .ref (gA G (0, 0, 0))), (4, .ref (gA G (3, o4, 0))), (5, .ref (gA G (3, o5, 0))), (6, .int v6), (7, .int v7)] dX4_changedBy_128 5 rfl (inc_ (by decide)) (by decide) rfl ?_
  refine h.goto (pc := 131) 73 dX4_changedBy_131 (by decide) ?_
  refine h.sub (pc := 73) [1, 2, 3, 4, 5, 0] (lv' := [(0, .ref (gA G (0, 0, 0))), (4, .ref (gA G (3, o4, 0))), (5, .ref (gA G (3, o5, 0))), (6, .int v6), (7, .int v7), (8, .int (v8 + 1))]) rfl ?_
  exact hB v7 (v8 + 1) M hw
def wp_X4_changedBy_L125 (v1 : Int32) (v2 : Int32) (v3 : Int32) (B : Int32 → Int32 → Mem → Prop) (X : Int32 → Mem → Prop) (Q : Int32 → Mem → Prop) (o4 : Nat) (o5 : Nat) (v6 : Int32) (v7 : Int32) (v8 : Int32) (M : Mem) : Prop := wp_X4_changedBy_L128 v1 v2 v3 B X Q o4 o5 v6 (v7 + 1) v8 M
set_option maxHeartbeats 4000000 in
set_option maxRecDepth 100000 in
theorem l_X4_changedBy_L125 {l : Launch} {G : GG} {Z : ZT} (h : AX l G cX4_changedBy 10 RX4 wsX4_changedBy F_X4_changedBy L_X4_changedBy Z) (hG : GoodG G) {Q : Int32 → Mem → Prop} (hr : RETi cX4_changedBy Q Z) (v1 : Int32) (v2 : Int32) (v3 : Int32)  (o4 : Nat) (o5 : Nat) (v6 : Int32) (v7 : Int32) (v8 : Int32) (ho4 : o4 < 5) (ho5 : o5 < 5) {B : Int32 → Int32 → Mem → Prop} (hB : ∀ (v7 : Int32) (v8 : Int32) (M : Mem), B v7 v8 M → Z 73 [(0, .ref (gA G (0, 0, 0))), (4, .ref (gA G (3, o4, 0))), (5, .ref (gA G (3, o5, 0))), (6, .int v6), (7, .int v7), (8, .int v8)] [] M) {X : Int32 → Mem → Prop} (hX : ∀ (v7 : Int32) (M : Mem), X v7 M → Z 134 [(7, .int v7)] [] M) (M : Mem) (hw : wp_X4_changedBy_L125 v1 v2 v3 B X Q o4 o5 v6 v7 v8 M) : Z 125 [(0, .ref (gA G (0, 0, 0))), (4, .ref (gA G (3, o4, 0))), (5, .ref (gA G (3, o5, 0))), (6, .int v6), (7, .int v7), (8, .int v8)] [] M := by
  unfold wp_X4_changedBy_L125 at hw
  refine h.iinc (pc := 125) [(7, .int (v7 + 1)), (0, .ref (gA G (0, 0, 0))), (4, .ref (gA G (3, o4, 0))), (5, .ref (gA G (3, o5, 0))), (6, .int v6), (8, .int v8)] dX4_changedBy_125 4 rfl (inc_ (by decide)) (by decide) rfl ?_
  refine h.sub (pc := 128) [1, 2, 3, 4, 0, 5] (lv' := [(0, .ref (gA G (0, 0, 0))), (4, .ref (gA G (3, o4, 0))), (5, .ref (gA G (3, o5, 0))), (6, .int v6), (7, .int (v7 + 1)), (8, .int v8)]) rfl ?_
  exact l_X4_changedBy_L128 h hG hr v1 v2 v3 o4 o5 v6 (v7 + 1) v8 ho4 ho5 hB hX M hw
def wp_X4_changedBy_L105 (v1 : Int32) (v2 : Int32) (v3 : Int32) (B : Int32 → Int32 → Mem → Prop) (X : Int32 → Mem → Prop) (Q : Int32 → Mem → Prop) (o4 : Nat) (o5 : Nat) (v6 : Int32) (v7 : Int32) (v8 : Int32) (t0 : Int32) (M : Mem) : Prop := ((t0 = 0 → wp_X4_changedBy_L125 v1 v2 v3 B X Q o4 o5 v6 v7 v8 M) ∧ (¬ (t0 = 0) → (wp_X4_isPageOther o4 o5 v8 M (fun r119 M119 => ((r119 = 0 → wp_X4_changedBy_L128 v1 v2 v3 B X Q o4 o5 v6 v7 v8 M119) ∧ (¬ (r119 = 0) → wp_X4_changedBy_L125 v1 v2 v3 B X Q o4 o5 v6 v7 v8 M119))))))
set_option maxHeartbeats 4000000 in
set_option maxRecDepth 100000 in
theorem l_X4_changedBy_L105 {l : Launch} {G : GG} {Z : ZT} (h : AX l G cX4_changedBy 10 RX4 wsX4_changedBy F_X4_changedBy L_X4_changedBy Z) (hG : GoodG G) {Q : Int32 → Mem → Prop} (hr : RETi cX4_changedBy Q Z) (v1 : Int32) (v2 : Int32) (v3 : Int32)  (o4 : Nat) (o5 : Nat) (v6 : Int32) (v7 : Int32) (v8 : Int32) (t0 : Int32) (ho4 : o4 < 5) (ho5 : o5 < 5) {B : Int32 → Int32 → Mem → Prop} (hB : ∀ (v7 : Int32) (v8 : Int32) (M : Mem), B v7 v8 M → Z 73 [(0, .ref (gA G (0, 0, 0))), (4, .ref (gA G (3, o4, 0))), (5, .ref (gA G (3, o5, 0))), (6, .int v6), (7, .int v7), (8, .int v8)] [] M) {X : Int32 → Mem → Prop} (hX : ∀ (v7 : Int32) (M : Mem), X v7 M → Z 134 [(7, .int v7)] [] M) (M : Mem) (hw : wp_X4_changedBy_L105 v1 v2 v3 B X Q o4 o5 v6 v7 v8 t0 M) : Z 105 [(0, .ref (gA G (0, 0, 0))), (4, .ref (gA G (3, o4, 0))), (5, .ref (gA G (3, o5, 0))), (6, .int v6), (7, .int v7), (8, .int v8)] [.int t0] M := by
  unfold wp_X4_changedBy_L105 at hw
  refine h.istore (pc := 105) [(9, .int t0), (0, .ref (gA G (0, 0, 0))), (4, .ref (gA G (3, o4, 0))), (5, .ref (gA G (3, o5, 0))), (6, .int v6), (7, .int v7), (8, .int v8)] dX4_changedBy_105 (by decide) rfl ?_
  refine h.iload (pc := 107) dX4_changedBy_107 0 rfl ?_
  refine h.if_eq (pc := 109) 125 dX4_changedBy_109 (by decide) (fun c109 => ?_) (fun c109 => ?_)
  · replace hw := hw.1 c109
    refine h.sub (pc := 125) [1, 2, 3, 4, 5, 6] (lv' := [(0, .ref (gA G (0, 0, 0))), (4, .ref (gA G (3, o4, 0))), (5, .ref (gA G (3, o5, 0))), (6, .int v6), (7, .int v7), (8, .int v8)]) rfl ?_
    exact l_X4_changedBy_L125 h hG hr v1 v2 v3 o4 o5 v6 v7 v8 ho4 ho5 hB hX M hw
  · replace hw := hw.2 c109
    refine h.aload_n (pc := 112) dX4_changedBy_112 rfl 1 rfl ?_
    refine h.aload (pc := 113) dX4_changedBy_113 2 rfl ?_
    refine h.aload (pc := 115) dX4_changedBy_115 3 rfl ?_
    refine h.iload (pc := 117) dX4_changedBy_117 6 rfl ?_
    refine h.cVi (pc := 119) [.ref (gA G (3, o4, 0)), .ref (gA G (3, o5, 0)), .int v8] (0, 0, 0) [] (m_X4_isPageOther hG ho4 ho5 hw) gX4_changedBy_X4_isPageOther rfl hd_X4_isPageOther (by decide) (k_1 1 (by decide) (by decide)) rfl rfl rfl rfl rfl (Nat.le_of_ble_eq_true rfl) dX4_changedBy_119 (fun r119 M119 hw => ?_)
    refine h.if_eq (pc := 122) 128 dX4_changedBy_122 (by decide) (fun c122 => ?_) (fun c122 => ?_)
    · replace hw := hw.1 c122
      refine h.sub (pc := 128) [1, 2, 3, 4, 5, 6] (lv' := [(0, .ref (gA G (0, 0, 0))), (4, .ref (gA G (3, o4, 0))), (5, .ref (gA G (3, o5, 0))), (6, .int v6), (7, .int v7), (8, .int v8)]) rfl ?_
      exact l_X4_changedBy_L128 h hG hr v1 v2 v3 o4 o5 v6 v7 v8 ho4 ho5 hB hX M119 hw
    · replace hw := hw.2 c122
      refine h.sub (pc := 125) [1, 2, 3, 4, 5, 6] (lv' := [(0, .ref (gA G (0, 0, 0))), (4, .ref (gA G (3, o4, 0))), (5, .ref (gA G (3, o5, 0))), (6, .int v6), (7, .int v7), (8, .int v8)]) rfl ?_
      exact l_X4_changedBy_L125 h hG hr v1 v2 v3 o4 o5 v6 v7 v8 ho4 ho5 hB hX M119 hw
def wp_X4_changedBy_L104 (v1 : Int32) (v2 : Int32) (v3 : Int32) (B : Int32 → Int32 → Mem → Prop) (X : Int32 → Mem → Prop) (Q : Int32 → Mem → Prop) (o4 : Nat) (o5 : Nat) (v6 : Int32) (v7 : Int32) (v8 : Int32) (M : Mem) : Prop := wp_X4_changedBy_L105 v1 v2 v3 B X Q o4 o5 v6 v7 v8 0 M
set_option maxHeartbeats 4000000 in
set_option maxRecDepth 100000 in
theorem l_X4_changedBy_L104 {l : Launch} {G : GG} {Z : ZT} (h : AX l G cX4_changedBy 10 RX4 wsX4_changedBy F_X4_changedBy L_X4_changedBy Z) (hG : GoodG G) {Q : Int32 → Mem → Prop} (hr : RETi cX4_changedBy Q Z) (v1 : Int32) (v2 : Int32) (v3 : Int32)  (o4 : Nat) (o5 : Nat) (v6 : Int32) (v7 : Int32) (v8 : Int32) (ho4 : o4 < 5) (ho5 : o5 < 5) {B : Int32 → Int32 → Mem → Prop} (hB : ∀ (v7 : Int32) (v8 : Int32) (M : Mem), B v7 v8 M → Z 73 [(0, .ref (gA G (0, 0, 0))), (4, .ref (gA G (3, o4, 0))), (5, .ref (gA G (3, o5, 0))), (6, .int v6), (7, .int v7), (8, .int v8)] [] M) {X : Int32 → Mem → Prop} (hX : ∀ (v7 : Int32) (M : Mem), X v7 M → Z 134 [(7, .int v7)] [] M) (M : Mem) (hw : wp_X4_changedBy_L104 v1 v2 v3 B X Q o4 o5 v6 v7 v8 M) : Z 104 [(0, .ref (gA G (0, 0, 0))), (4, .ref (gA G (3, o4, 0))), (5, .ref (gA G (3, o5, 0))), (6, .int v6), (7, .int v7), (8, .int v8)] [] M := by
  unfold wp_X4_changedBy_L104 at hw
  refine h.iconst (pc := 104) (v := 0) dX4_changedBy_104 (by decide) ?_
  exact l_X4_changedBy_L105 h hG hr v1 v2 v3 o4 o5 v6 v7 v8 0 ho4 ho5 hB hX M hw
def wp_X4_changedBy_L73 (v1 : Int32) (v2 : Int32) (v3 : Int32) (o4 : Nat) (o5 : Nat) (v6 : Int32) (X : Int32 → Mem → Prop) (Q : Int32 → Mem → Prop) : Nat → Int32 → Int32 → Mem → Prop
  | 0, _, _, _ => False
  | n + 1, v7, v8, M => ((v6 ≤ v8 → X v7 M) ∧ (¬ (v6 ≤ v8) → (((M 3 o4 0 6) ≤ v8 → wp_X4_changedBy_L104 v1 v2 v3 (wp_X4_changedBy_L73 v1 v2 v3 o4 o5 v6 X Q n) X Q o4 o5 v6 v7 v8 M) ∧ (¬ ((M 3 o4 0 6) ≤ v8) → (((M 3 o5 0 6) ≤ v8 → wp_X4_changedBy_L104 v1 v2 v3 (wp_X4_changedBy_L73 v1 v2 v3 o4 o5 v6 X Q n) X Q o4 o5 v6 v7 v8 M) ∧ (¬ ((M 3 o5 0 6) ≤ v8) → wp_X4_changedBy_L105 v1 v2 v3 (wp_X4_changedBy_L73 v1 v2 v3 o4 o5 v6 X Q n) X Q o4 o5 v6 v7 v8 1 M))))))
set_option maxHeartbeats 4000000 in
set_option maxRecDepth 100000 in
theorem l_X4_changedBy_L73 {l : Launch} {G : GG} {Z : ZT} (h : AX l G cX4_changedBy 10 RX4 wsX4_changedBy F_X4_changedBy L_X4_changedBy Z) (hG : GoodG G) {Q : Int32 → Mem → Prop} (hr : RETi cX4_changedBy Q Z) (v1 : Int32) (v2 : Int32) (v3 : Int32)  (o4 : Nat) (o5 : Nat) (v6 : Int32) (ho4 : o4 < 5) (ho5 : o5 < 5) (X : Int32 → Mem → Prop) (hX : ∀ (v7 : Int32) (M : Mem), X v7 M → Z 134 [(7, .int v7)] [] M) : ∀ (n : Nat) (v7 : Int32) (v8 : Int32) (M : Mem), wp_X4_changedBy_L73 v1 v2 v3 o4 o5 v6 X Q n v7 v8 M → Z 73 [(0, .ref (gA G (0, 0, 0))), (4, .ref (gA G (3, o4, 0))), (5, .ref (gA G (3, o5, 0))), (6, .int v6), (7, .int v7), (8, .int v8)] [] M := by
  intro n
  induction n with
  | zero => intro v7 v8 M hw; exact hw.elim
  | succ n ih =>
    intro v7 v8 M hw
    unfold wp_X4_changedBy_L73 at hw
    refine h.iload (pc := 73) dX4_changedBy_73 5 rfl ?_
    refine h.iload (pc := 75) dX4_changedBy_75 3 rfl ?_
    refine h.icmp_ge (pc := 77) 134 dX4_changedBy_77 (by decide) (fun c77 => ?_) (fun c77 => ?_)
    · replace hw := hw.1 c77
      refine h.sub (pc := 134) [4] (lv' := [(7, .int v7)]) rfl ?_
      exact hX v7 M hw
    · replace hw := hw.2 c77
      refine h.iload (pc := 80) dX4_changedBy_80 5 rfl ?_
      refine h.aload (pc := 82) dX4_changedBy_82 1 rfl ?_
      refine h.getN (pc := 84) (f := 3) (o := o4) (i := 0) (ci := 0) (C := RX0) (T := TX0) (N := 14) (j := 6) (v := .int (M 3 o4 0 6)) (k_1 5 (by decide) ho4) rfl rfl (by decide) inX4_changedBy_RX0 (own0 := RX4) (host := "TableWright") rfl nw_37 rfl dX4_changedBy_84 ?_
      refine h.icmp_ge (pc := 87) 104 dX4_changedBy_87 (by decide) (fun c87 => ?_) (fun c87 => ?_)
      · replace hw := hw.1 c87
        exact l_X4_changedBy_L104 h hG hr v1 v2 v3 o4 o5 v6 v7 v8 ho4 ho5 ih hX M hw
      · replace hw := hw.2 c87
        refine h.iload (pc := 90) dX4_changedBy_90 5 rfl ?_
        refine h.aload (pc := 92) dX4_changedBy_92 2 rfl ?_
        refine h.getN (pc := 94) (f := 3) (o := o5) (i := 0) (ci := 0) (C := RX0) (T := TX0) (N := 14) (j := 6) (v := .int (M 3 o5 0 6)) (k_1 5 (by decide) ho5) rfl rfl (by decide) inX4_changedBy_RX0 (own0 := RX4) (host := "TableWright") rfl nw_37 rfl dX4_changedBy_94 ?_
        refine h.icmp_ge (pc := 97) 104 dX4_changedBy_97 (by decide) (fun c97 => ?_) (fun c97 => ?_)
        · replace hw := hw.1 c97
          exact l_X4_changedBy_L104 h hG hr v1 v2 v3 o4 o5 v6 v7 v8 ho4 ho5 ih hX M hw
        · replace hw := hw.2 c97
          refine h.iconst (pc := 100) (v := 1) dX4_changedBy_100 (by decide) ?_
          refine h.goto (pc := 101) 105 dX4_changedBy_101 (by decide) ?_
          exact l_X4_changedBy_L105 h hG hr v1 v2 v3 o4 o5 v6 v7 v8 1 ho4 ho5 ih hX M hw
def wp_X4_changedBy (v1 : Int32) (v2 : Int32) (v3 : Int32) (M : Mem) (Q : Int32 → Mem → Prop) : Prop := (wp_X4_requireNumberCell v1 v2 v3 M (fun M4 => (wp_X4_refresh M4 (fun M8 => (wp_X2_chosen 0 M8 (fun r15 M15 => (wp_X3_copyFrom 1 0 M15 (fun M28 => (vp_in v1 30 ∧ (vp_in v2 6 ∧ (∀ M45 : Mem, M45 = sM M28 12 1 (v1.toNatClampNeg) v2.toNatClampNeg v3 → (wp_X4_layoutOfTrial M45 (fun r47 M47 => ∃ n73, wp_X4_changedBy_L73 v1 v2 v3 r15 r47 (if (M47 3 r15 0 6) < (M47 3 r47 0 6) then (M47 3 r47 0 6) else (M47 3 r15 0 6)) (fun v7 M => Q v7 M) Q n73 0 0 M47)))))))))))))
set_option maxHeartbeats 4000000 in
set_option maxRecDepth 100000 in
theorem m_X4_changedBy {l : Launch} {G : GG} (hG : GoodG G) {v1 : Int32} {v2 : Int32} {v3 : Int32}  {M : Mem} {Q : Int32 → Mem → Prop}  (hw : wp_X4_changedBy v1 v2 v3 M Q) : CTi l G yX4_changedBy wsX4_changedBy F_X4_changedBy L_X4_changedBy [.ref (gA G (0, 0, 0)), .int v1, .int v2, .int v3] M Q := by
  refine CTi_mk hG (by decide +kernel) rfl (Nat.le_of_ble_eq_true rfl) (fun Z (h : AX l G cX4_changedBy 10 RX4 wsX4_changedBy F_X4_changedBy L_X4_changedBy Z) hr => ?_)
  show Z 0 [(0, .ref (gA G (0, 0, 0))), (1, .int v1), (2, .int v2), (3, .int v3)] [] M
  unfold wp_X4_changedBy at hw
  refine h.aload_n (pc := 0) dX4_changedBy_0 rfl 0 rfl ?_
  refine h.iload_n (pc := 1) dX4_changedBy_1 rfl 1 rfl ?_
  refine h.iload_n (pc := 2) dX4_changedBy_2 rfl 2 rfl ?_
  refine h.iload_n (pc := 3) dX4_changedBy_3 rfl 3 rfl ?_
  refine h.cVv (pc := 4) [.int v1, .int v2, .int v3] (0, 0, 0) [] (m_X4_requireNumberCell hG  hw) gX4_changedBy_X4_requireNumberCell rfl hd_X4_requireNumberCell (by decide) (k_1 1 (by decide) (by decide)) rfl rfl rfl rfl rfl (Nat.le_of_ble_eq_true rfl) dX4_changedBy_4 (fun M4 hw => ?_)
  refine h.aload_n (pc := 7) dX4_changedBy_7 rfl 0 rfl ?_
  refine h.cVv (pc := 8) [] (0, 0, 0) [] (m_X4_refresh hG  hw) gX4_changedBy_X4_refresh rfl hd_X4_refresh (by decide) (k_1 1 (by decide) (by decide)) rfl rfl rfl rfl rfl (Nat.le_of_ble_eq_true rfl) dX4_changedBy_8 (fun M8 hw => ?_)
  refine h.aload_n (pc := 11) dX4_changedBy_11 rfl 0 rfl ?_
  refine h.getf (pc := 12) (f := 0) (o := 0) (i := 0) (ci := 4) (C := RX4) (T := TX4) (N := 8) (j := 1) (v := .ref (gA G (2, 0, 0))) (k_1 1 (by decide) (by decide)) rfl rfl (by decide) inX4_changedBy_RX4 kX4_changedBy_19 rfl dX4_changedBy_12 ?_
  refine h.cVr (pc := 15) [] (2, 0, 0) [] (m_X2_chosen hG (by decide) hw) gX4_changedBy_X2_chosen rfl hd_X2_chosen (by decide) (k_1 2 (by decide) (by decide)) rfl rfl rfl rfl rfl (Nat.le_of_ble_eq_true rfl) dX4_changedBy_15 (fun r15 M15 h5_15 hw => ?_)
  refine h.astore (pc := 18) [(4, .ref (gA G (3, r15, 0))), (0, .ref (gA G (0, 0, 0))), (1, .int v1), (2, .int v2), (3, .int v3)] dX4_changedBy_18 (by decide) rfl ?_
  refine h.aload_n (pc := 20) dX4_changedBy_20 rfl 1 rfl ?_
  refine h.getf (pc := 21) (f := 0) (o := 0) (i := 0) (ci := 4) (C := RX4) (T := TX4) (N := 8) (j := 5) (v := .ref (gA G (1, 1, 0))) (k_1 1 (by decide) (by decide)) rfl rfl (by decide) inX4_changedBy_RX4 kX4_changedBy_34 rfl dX4_changedBy_21 ?_
  refine h.aload_n (pc := 24) dX4_changedBy_24 rfl 1 rfl ?_
  refine h.getf (pc := 25) (f := 0) (o := 0) (i := 0) (ci := 4) (C := RX4) (T := TX4) (N := 8) (j := 0) (v := .ref (gA G (1, 0, 0))) (k_1 1 (by decide) (by decide)) rfl rfl (by decide) inX4_changedBy_RX4 kX4_changedBy_12 rfl dX4_changedBy_25 ?_
  refine h.cVv (pc := 28) [.ref (gA G (1, 0, 0))] (1, 1, 0) [] (m_X3_copyFrom hG (by decide) (by decide) hw) gX4_changedBy_X3_copyFrom rfl hd_X3_copyFrom (by decide) (k_1 2 (by decide) (by decide)) rfl rfl rfl rfl rfl (Nat.le_of_ble_eq_true rfl) dX4_changedBy_28 (fun M28 hw => ?_)
  refine h.aload_n (pc := 31) dX4_changedBy_31 rfl 1 rfl ?_
  refine h.getf (pc := 32) (f := 0) (o := 0) (i := 0) (ci := 4) (C := RX4) (T := TX4) (N := 8) (j := 5) (v := .ref (gA G (1, 1, 0))) (k_1 1 (by decide) (by decide)) rfl rfl (by decide) inX4_changedBy_RX4 kX4_changedBy_34 rfl dX4_changedBy_32 ?_
  refine h.getN (pc := 35) (f := 1) (o := 1) (i := 0) (ci := 3) (C := RX3) (T := TX3) (N := 9) (j := 6) (v := .ref (gA G (11, 1, 0))) (k_1 2 (by decide) (by decide)) rfl rfl (by decide) inX4_changedBy_RX3 (own0 := RX4) (host := "TableWright") rfl nw_24 rfl dX4_changedBy_35 ?_
  refine h.iload_n (pc := 38) dX4_changedBy_38 rfl 2 rfl ?_
  obtain ⟨hj39, hw⟩ := hw
  refine h.aald (pc := 39) (o := 1) (ix := v1) (by decide) hj39 dX4_changedBy_39 ?_
  refine h.getN (pc := 40) (f := 4) (o := 1) (i := v1.toNatClampNeg) (ci := 1) (C := RX1) (T := TX1) (N := 8) (j := 0) (v := .ref (gA G (12, 1, v1.toNatClampNeg))) (k_2 (by decide) (by decide) (vin_lt hj39)) rfl rfl (by decide) inX4_changedBy_RX1 (own0 := RX4) (host := "TableWright") rfl nw_0 rfl dX4_changedBy_40 ?_
  refine h.iload_n (pc := 43) dX4_changedBy_43 rfl 3 rfl ?_
  refine h.iload_n (pc := 44) dX4_changedBy_44 rfl 4 rfl ?_
  obtain ⟨hj45, hw⟩ := hw
  refine h.iast (pc := 45) (f := 12) (o := 1) (i := v1.toNatClampNeg) (n := 6) (ix := v2) (x := v3) (k_2 (by decide) (by decide) (vin_lt hj39)) (fun _ => rfl) hj45 dX4_changedBy_45 (fun M45 e45 => ?_)
  replace hw := hw M45 e45
  refine h.aload_n (pc := 46) dX4_changedBy_46 rfl 1 rfl ?_
  refine h.cVr (pc := 47) [] (0, 0, 0) [] (m_X4_layoutOfTrial hG  hw) gX4_changedBy_X4_layoutOfTrial rfl hd_X4_layoutOfTrial (by decide) (k_1 1 (by decide) (by decide)) rfl rfl rfl rfl rfl (Nat.le_of_ble_eq_true rfl) dX4_changedBy_47 (fun r47 M47 h5_47 hw => ?_)
  refine h.astore (pc := 50) [(5, .ref (gA G (3, r47, 0))), (4, .ref (gA G (3, r15, 0))), (0, .ref (gA G (0, 0, 0))), (1, .int v1), (2, .int v2), (3, .int v3)] dX4_changedBy_50 (by decide) rfl ?_
  refine h.aload (pc := 52) dX4_changedBy_52 1 rfl ?_
  refine h.getN (pc := 54) (f := 3) (o := r15) (i := 0) (ci := 0) (C := RX0) (T := TX0) (N := 14) (j := 6) (v := .int (M47 3 r15 0 6)) (k_1 5 (by decide) h5_15) rfl rfl (by decide) inX4_changedBy_RX0 (own0 := RX4) (host := "TableWright") rfl nw_37 rfl dX4_changedBy_54 ?_
  refine h.aload (pc := 57) dX4_changedBy_57 0 rfl ?_
  refine h.getN (pc := 59) (f := 3) (o := r47) (i := 0) (ci := 0) (C := RX0) (T := TX0) (N := 14) (j := 6) (v := .int (M47 3 r47 0 6)) (k_1 5 (by decide) h5_47) rfl rfl (by decide) inX4_changedBy_RX0 (own0 := RX4) (host := "TableWright") rfl nw_37 rfl dX4_changedBy_59 ?_
  refine h.mmax (pc := 62) (st := []) kMX4_changedBy_1_max_190 kMX4_changedBy_2_max kMX4_changedBy_3 kMX4_changedBy_4_max (by decide) (Nat.le_of_ble_eq_true rfl) dX4_changedBy_62 ?_
  refine h.istore (pc := 65) [(6, .int (if (M47 3 r15 0 6) < (M47 3 r47 0 6) then (M47 3 r47 0 6) else (M47 3 r15 0 6))), (5, .ref (gA G (3, r47, 0))), (4, .ref (gA G (3, r15, 0))), (0, .ref (gA G (0, 0, 0))), (1, .int v1), (2, .int v2), (3, .int v3)] dX4_changedBy_65 (by decide) rfl ?_
  refine h.iconst (pc := 67) (v := 0) dX4_changedBy_67 (by decide) ?_
  refine h.istore (pc := 68) [(7, .int 0), (6, .int (if (M47 3 r15 0 6) < (M47 3 r47 0 6) then (M47 3 r47 0 6) else (M47 3 r15 0 6))), (5, .ref (gA G (3, r47, 0))), (4, .ref (gA G (3, r15, 0))), (0, .ref (gA G (0, 0, 0))), (1, .int v1), (2, .int v2), (3, .int v3)] dX4_changedBy_68 (by decide) rfl ?_
  refine h.iconst (pc := 70) (v := 0) dX4_changedBy_70 (by decide) ?_
  refine h.istore (pc := 71) [(8, .int 0), (7, .int 0), (6, .int (if (M47 3 r15 0 6) < (M47 3 r47 0 6) then (M47 3 r47 0 6) else (M47 3 r15 0 6))), (5, .ref (gA G (3, r47, 0))), (4, .ref (gA G (3, r15, 0))), (0, .ref (gA G (0, 0, 0))), (1, .int v1), (2, .int v2), (3, .int v3)] dX4_changedBy_71 (by decide) rfl ?_
  refine h.sub (pc := 73) [5, 4, 3, 2, 1, 0] (lv' := [(0, .ref (gA G (0, 0, 0))), (4, .ref (gA G (3, r15, 0))), (5, .ref (gA G (3, r47, 0))), (6, .int (if (M47 3 r15 0 6) < (M47 3 r47 0 6) then (M47 3 r47 0 6) else (M47 3 r15 0 6))), (7, .int 0), (8, .int 0)]) rfl ?_
  obtain ⟨n73, hw⟩ := hw
  exact l_X4_changedBy_L73 h hG hr v1 v2 v3 r15 r47 (if (M47 3 r15 0 6) < (M47 3 r47 0 6) then (M47 3 r47 0 6) else (M47 3 r15 0 6)) h5_15 h5_47 _ (fun v7 M hw => by
      refine h.iload (pc := 134) dX4_changedBy_134 0 rfl ?_
      exact hr _ _ _ _ dX4_changedBy_136 hw) n73 0 0 M47 hw
-- X4_digest
theorem inX4_digest_RX0 : ∀ w ∈ u_ws RX0 TX0 14, w ∈ wsX4_digest := by decide +kernel
theorem inX4_digest_RX3 : ∀ w ∈ u_ws RX3 TX3 9, w ∈ wsX4_digest := by decide +kernel
theorem inX4_digest_RX4 : ∀ w ∈ u_ws RX4 TX4 8, w ∈ wsX4_digest := by decide +kernel
theorem kX4_digest_12 : Cond.fieldLink RX4 12 (TX4 0).1 (TX4 0).2.1 (TX4 0).2.2.1 ∈ wsX4_digest := by decide +kernel
theorem kX4_digest_19 : Cond.fieldLink RX4 19 (TX4 1).1 (TX4 1).2.1 (TX4 1).2.2.1 ∈ wsX4_digest := by decide +kernel
abbrev F_X4_digest : Nat := 6
abbrev L_X4_digest : Nat := 138
theorem hd_X4_digest : yX4_digest.cls = RX4 ∧ yX4_digest.cls ≠ "java/lang/invoke/MethodHandle" ∧ yX4_digest.cls ≠ "java/lang/invoke/VarHandle" ∧ (parseMethodDescriptor yX4_digest.desc).map (fun d => d.parameters.length) = some 0 := by decide +kernel
def wp_X4_digest_L10   (X : Int64 → Mem → Prop) (Q : Int64 → Mem → Prop) : Nat → Int64 → Int32 → Mem → Prop
  | 0, _, _, _ => False
  | n + 1, v1, v3, M => ((7 < v3 → X v1 M) ∧ (¬ (7 < v3) → (wp_X4_factOfTable v3 M (fun r19 M19 => (wp_X4_digestWith v1 r19 M19 (fun r22 M22 => (wp_X4_digest_L10 X Q n) r22 (v3 + 1) M22))))))
set_option maxHeartbeats 4000000 in
set_option maxRecDepth 100000 in
theorem l_X4_digest_L10 {l : Launch} {G : GG} {Z : ZT} (h : AX l G cX4_digest 5 RX4 wsX4_digest F_X4_digest L_X4_digest Z) (hG : GoodG G) {Q : Int64 → Mem → Prop} (hr : RETl cX4_digest Q Z)     (X : Int64 → Mem → Prop) (hX : ∀ (v1 : Int64) (M : Mem), X v1 M → Z 32 [(0, .ref (gA G (0, 0, 0))), (1, .long v1)] [] M) : ∀ (n : Nat) (v1 : Int64) (v3 : Int32) (M : Mem), wp_X4_digest_L10 X Q n v1 v3 M → Z 10 [(0, .ref (gA G (0, 0, 0))), (1, .long v1), (3, .int v3)] [] M := by
  intro n
  induction n with
  | zero => intro v1 v3 M hw; exact hw.elim
  | succ n ih =>
    intro v1 v3 M hw
    unfold wp_X4_digest_L10 at hw
    refine h.iload_n (pc := 10) dX4_digest_10 rfl 2 rfl ?_
    refine h.bipush (pc := 11) (v := 7) dX4_digest_11 (by decide) ?_
    refine h.icmp_gt (pc := 13) 32 dX4_digest_13 (by decide) (fun c13 => ?_) (fun c13 => ?_)
    · replace hw := hw.1 c13
      refine h.sub (pc := 32) [0, 1] (lv' := [(0, .ref (gA G (0, 0, 0))), (1, .long v1)]) rfl ?_
      exact hX v1 M hw
    · replace hw := hw.2 c13
      refine h.lload_n (pc := 16) dX4_digest_16 rfl 1 rfl ?_
      refine h.aload_n (pc := 17) dX4_digest_17 rfl 0 rfl ?_
      refine h.iload_n (pc := 18) dX4_digest_18 rfl 2 rfl ?_
      refine h.cVi (pc := 19) [.int v3] (0, 0, 0) [.long v1] (m_X4_factOfTable hG  hw) gX4_digest_X4_factOfTable rfl hd_X4_factOfTable (by decide) (k_1 1 (by decide) (by decide)) rfl rfl rfl rfl rfl (Nat.le_of_ble_eq_true rfl) dX4_digest_19 (fun r19 M19 hw => ?_)
      refine h.cSl (pc := 22) [.long v1, .int r19] [] (m_X4_digestWith hG  hw) gX4_digest_X4_digestWith rfl hd_X4_digestWith (by decide) rfl rfl (Nat.le_of_ble_eq_true rfl) dX4_digest_22 (fun r22 M22 hw => ?_)
      refine h.lstore_n (pc := 25) [(1, .long r22), (0, .ref (gA G (0, 0, 0))), (3, .int v3)] dX4_digest_25 rfl (by decide) rfl ?_
      refine h.iinc (pc := 26) [(3, .int (v3 + 1)), (1, .long r22), (0, .ref (gA G (0, 0, 0)))] dX4_digest_26 2 rfl (inc_ (by decide)) (by decide) rfl ?_
      refine h.goto (pc := 29) 10 dX4_digest_29 (by decide) ?_
      refine h.sub (pc := 10) [2, 1, 0] (lv' := [(0, .ref (gA G (0, 0, 0))), (1, .long r22), (3, .int (v3 + 1))]) rfl ?_
      exact ih r22 (v3 + 1) M22 hw
def wp_X4_digest_L48  (v3 : Int32) (X : Int64 → Mem → Prop) (Q : Int64 → Mem → Prop) : Nat → Int64 → Int32 → Mem → Prop
  | 0, _, _, _ => False
  | n + 1, v1, v4, M => ((4 < v4 → X v1 M) ∧ (¬ (4 < v4) → (wp_X4_factOfColumn v3 v4 M (fun r59 M59 => (wp_X4_digestWith v1 r59 M59 (fun r62 M62 => (wp_X4_digest_L48 v3 X Q n) r62 (v4 + 1) M62))))))
set_option maxHeartbeats 4000000 in
set_option maxRecDepth 100000 in
theorem l_X4_digest_L48 {l : Launch} {G : GG} {Z : ZT} (h : AX l G cX4_digest 5 RX4 wsX4_digest F_X4_digest L_X4_digest Z) (hG : GoodG G) {Q : Int64 → Mem → Prop} (hr : RETl cX4_digest Q Z)   (v3 : Int32)  (X : Int64 → Mem → Prop) (hX : ∀ (v1 : Int64) (M : Mem), X v1 M → Z 72 [(0, .ref (gA G (0, 0, 0))), (1, .long v1), (3, .int v3)] [] M) : ∀ (n : Nat) (v1 : Int64) (v4 : Int32) (M : Mem), wp_X4_digest_L48 v3 X Q n v1 v4 M → Z 48 [(0, .ref (gA G (0, 0, 0))), (1, .long v1), (3, .int v3), (4, .int v4)] [] M := by
  intro n
  induction n with
  | zero => intro v1 v4 M hw; exact hw.elim
  | succ n ih =>
    intro v1 v4 M hw
    unfold wp_X4_digest_L48 at hw
    refine h.iload (pc := 48) dX4_digest_48 3 rfl ?_
    refine h.iconst (pc := 50) (v := 4) dX4_digest_50 (by decide) ?_
    refine h.icmp_gt (pc := 51) 72 dX4_digest_51 (by decide) (fun c51 => ?_) (fun c51 => ?_)
    · replace hw := hw.1 c51
      refine h.sub (pc := 72) [0, 1, 2] (lv' := [(0, .ref (gA G (0, 0, 0))), (1, .long v1), (3, .int v3)]) rfl ?_
      exact hX v1 M hw
    · replace hw := hw.2 c51
      refine h.lload_n (pc := 54) dX4_digest_54 rfl 1 rfl ?_
      refine h.aload_n (pc := 55) dX4_digest_55 rfl 0 rfl ?_
      refine h.iload_n (pc := 56) dX4_digest_56 rfl 2 rfl ?_
      refine h.iload (pc := 57) dX4_digest_57 3 rfl ?_
      refine h.cVi (pc := 59) [.int v3, .int v4] (0, 0, 0) [.long v1] (m_X4_factOfColumn hG  hw) gX4_digest_X4_factOfColumn rfl hd_X4_factOfColumn (by decide) (k_1 1 (by decide) (by decide)) rfl rfl rfl rfl rfl (Nat.le_of_ble_eq_true rfl) dX4_digest_59 (fun r59 M59 hw => ?_)
      refine h.cSl (pc := 62) [.long v1, .int r59] [] (m_X4_digestWith hG  hw) gX4_digest_X4_digestWith rfl hd_X4_digestWith (by decide) rfl rfl (Nat.le_of_ble_eq_true rfl) dX4_digest_62 (fun r62 M62 hw => ?_)
      refine h.lstore_n (pc := 65) [(1, .long r62), (0, .ref (gA G (0, 0, 0))), (3, .int v3), (4, .int v4)] dX4_digest_65 rfl (by decide) rfl ?_
      refine h.iinc (pc := 66) [(4, .int (v4 + 1)), (1, .long r62), (0, .ref (gA G (0, 0, 0))), (3, .int v3)] dX4_digest_66 3 rfl (inc_ (by decide)) (by decide) rfl ?_
      refine h.goto (pc := 69) 48 dX4_digest_69 (by decide) ?_
      refine h.sub (pc := 48) [2, 1, 3, 0] (lv' := [(0, .ref (gA G (0, 0, 0))), (1, .long r62), (3, .int v3), (4, .int (v4 + 1))]) rfl ?_
      exact ih r62 (v4 + 1) M62 hw
def wp_X4_digest_L72  (B : Int64 → Int32 → Mem → Prop) (X : Int64 → Mem → Prop) (Q : Int64 → Mem → Prop) (v1 : Int64) (v3 : Int32) (M : Mem) : Prop := B v1 (v3 + 1) M
set_option maxHeartbeats 4000000 in
set_option maxRecDepth 100000 in
theorem l_X4_digest_L72 {l : Launch} {G : GG} {Z : ZT} (h : AX l G cX4_digest 5 RX4 wsX4_digest F_X4_digest L_X4_digest Z) (hG : GoodG G) {Q : Int64 → Mem → Prop} (hr : RETl cX4_digest Q Z)   (v1 : Int64) (v3 : Int32)  {B : Int64 → Int32 → Mem → Prop} (hB : ∀ (v1 : Int64) (v3 : Int32) (M : Mem), B v1 v3 M → Z 34 [(0, .ref (gA G (0, 0, 0))), (1, .long v1), (3, .int v3)] [] M) {X : Int64 → Mem → Prop} (hX : ∀ (v1 : Int64) (M : Mem), X v1 M → Z 78 [(0, .ref (gA G (0, 0, 0))), (1, .long v1)] [] M) (M : Mem) (hw : wp_X4_digest_L72 B X Q v1 v3 M) : Z 72 [(0, .ref (gA G (0, 0, 0))), (1, .long v1), (3, .int v3)] [] M := by
  unfold wp_X4_digest_L72 at hw
  refine h.iinc (pc := 72) [(3, .int (v3 + 1)), (0, .ref (gA G (0, 0, 0))), (1, .long v1)] dX4_digest_72 2 rfl (inc_ (by decide)) (by decide) rfl ?_
  refine h.goto (pc := 75) 34 dX4_digest_75 (by decide) ?_
  refine h.sub (pc := 34) [1, 2, 0] (lv' := [(0, .ref (gA G (0, 0, 0))), (1, .long v1), (3, .int (v3 + 1))]) rfl ?_
  exact hB v1 (v3 + 1) M hw
def wp_X4_digest_L34   (X : Int64 → Mem → Prop) (Q : Int64 → Mem → Prop) : Nat → Int64 → Int32 → Mem → Prop
  | 0, _, _, _ => False
  | n + 1, v1, v3, M => (((M 1 0 0 0) ≤ v3 → X v1 M) ∧ (¬ ((M 1 0 0 0) ≤ v3) → ∃ n48, wp_X4_digest_L48 v3 (fun v1 M => wp_X4_digest_L72 (wp_X4_digest_L34 X Q n) X Q v1 v3 M) Q n48 v1 0 M))
set_option maxHeartbeats 4000000 in
set_option maxRecDepth 100000 in
theorem l_X4_digest_L34 {l : Launch} {G : GG} {Z : ZT} (h : AX l G cX4_digest 5 RX4 wsX4_digest F_X4_digest L_X4_digest Z) (hG : GoodG G) {Q : Int64 → Mem → Prop} (hr : RETl cX4_digest Q Z)     (X : Int64 → Mem → Prop) (hX : ∀ (v1 : Int64) (M : Mem), X v1 M → Z 78 [(0, .ref (gA G (0, 0, 0))), (1, .long v1)] [] M) : ∀ (n : Nat) (v1 : Int64) (v3 : Int32) (M : Mem), wp_X4_digest_L34 X Q n v1 v3 M → Z 34 [(0, .ref (gA G (0, 0, 0))), (1, .long v1), (3, .int v3)] [] M := by
  intro n
  induction n with
  | zero => intro v1 v3 M hw; exact hw.elim
  | succ n ih =>
    intro v1 v3 M hw
    unfold wp_X4_digest_L34 at hw
    refine h.iload_n (pc := 34) dX4_digest_34 rfl 2 rfl ?_
    refine h.aload_n (pc := 35) dX4_digest_35 rfl 0 rfl ?_
    refine h.getf (pc := 36) (f := 0) (o := 0) (i := 0) (ci := 4) (C := RX4) (T := TX4) (N := 8) (j := 0) (v := .ref (gA G (1, 0, 0))) (k_1 1 (by decide) (by decide)) rfl rfl (by decide) inX4_digest_RX4 kX4_digest_12 rfl dX4_digest_36 ?_
    refine h.getN (pc := 39) (f := 1) (o := 0) (i := 0) (ci := 3) (C := RX3) (T := TX3) (N := 9) (j := 0) (v := .int (M 1 0 0 0)) (k_1 2 (by decide) (by decide)) rfl rfl (by decide) inX4_digest_RX3 (own0 := RX4) (host := "TableWright") rfl nw_19 rfl dX4_digest_39 ?_
    refine h.icmp_ge (pc := 42) 78 dX4_digest_42 (by decide) (fun c42 => ?_) (fun c42 => ?_)
    · replace hw := hw.1 c42
      refine h.sub (pc := 78) [0, 1] (lv' := [(0, .ref (gA G (0, 0, 0))), (1, .long v1)]) rfl ?_
      exact hX v1 M hw
    · replace hw := hw.2 c42
      refine h.iconst (pc := 45) (v := 0) dX4_digest_45 (by decide) ?_
      refine h.istore (pc := 46) [(4, .int 0), (0, .ref (gA G (0, 0, 0))), (1, .long v1), (3, .int v3)] dX4_digest_46 (by decide) rfl ?_
      refine h.sub (pc := 48) [1, 2, 3, 0] (lv' := [(0, .ref (gA G (0, 0, 0))), (1, .long v1), (3, .int v3), (4, .int 0)]) rfl ?_
      obtain ⟨n48, hw⟩ := hw
      exact l_X4_digest_L48 h hG hr v3 _ (fun v1 M hw => by
          exact l_X4_digest_L72 h hG hr v1 v3 ih hX M hw) n48 v1 0 M hw
def wp_X4_digest_L80   (X : Int64 → Mem → Prop) (Q : Int64 → Mem → Prop) : Nat → Int64 → Int32 → Mem → Prop
  | 0, _, _, _ => False
  | n + 1, v1, v3, M => (((M 1 0 0 5) ≤ v3 → X v1 M) ∧ (¬ ((M 1 0 0 5) ≤ v3) → (wp_X4_digestWithRow v1 v3 M (fun r94 M94 => (wp_X4_digest_L80 X Q n) r94 (v3 + 1) M94))))
set_option maxHeartbeats 4000000 in
set_option maxRecDepth 100000 in
theorem l_X4_digest_L80 {l : Launch} {G : GG} {Z : ZT} (h : AX l G cX4_digest 5 RX4 wsX4_digest F_X4_digest L_X4_digest Z) (hG : GoodG G) {Q : Int64 → Mem → Prop} (hr : RETl cX4_digest Q Z)     (X : Int64 → Mem → Prop) (hX : ∀ (v1 : Int64) (M : Mem), X v1 M → Z 104 [(0, .ref (gA G (0, 0, 0))), (1, .long v1)] [] M) : ∀ (n : Nat) (v1 : Int64) (v3 : Int32) (M : Mem), wp_X4_digest_L80 X Q n v1 v3 M → Z 80 [(0, .ref (gA G (0, 0, 0))), (1, .long v1), (3, .int v3)] [] M := by
  intro n
  induction n with
  | zero => intro v1 v3 M hw; exact hw.elim
  | succ n ih =>
    intro v1 v3 M hw
    unfold wp_X4_digest_L80 at hw
    refine h.iload_n (pc := 80) dX4_digest_80 rfl 2 rfl ?_
    refine h.aload_n (pc := 81) dX4_digest_81 rfl 0 rfl ?_
    refine h.getf (pc := 82) (f := 0) (o := 0) (i := 0) (ci := 4) (C := RX4) (T := TX4) (N := 8) (j := 0) (v := .ref (gA G (1, 0, 0))) (k_1 1 (by decide) (by decide)) rfl rfl (by decide) inX4_digest_RX4 kX4_digest_12 rfl dX4_digest_82 ?_
    refine h.getN (pc := 85) (f := 1) (o := 0) (i := 0) (ci := 3) (C := RX3) (T := TX3) (N := 9) (j := 5) (v := .int (M 1 0 0 5)) (k_1 2 (by decide) (by decide)) rfl rfl (by decide) inX4_digest_RX3 (own0 := RX4) (host := "TableWright") rfl nw_23 rfl dX4_digest_85 ?_
    refine h.icmp_ge (pc := 88) 104 dX4_digest_88 (by decide) (fun c88 => ?_) (fun c88 => ?_)
    · replace hw := hw.1 c88
      refine h.sub (pc := 104) [0, 1] (lv' := [(0, .ref (gA G (0, 0, 0))), (1, .long v1)]) rfl ?_
      exact hX v1 M hw
    · replace hw := hw.2 c88
      refine h.aload_n (pc := 91) dX4_digest_91 rfl 0 rfl ?_
      refine h.lload_n (pc := 92) dX4_digest_92 rfl 1 rfl ?_
      refine h.iload_n (pc := 93) dX4_digest_93 rfl 2 rfl ?_
      refine h.cVl (pc := 94) [.long v1, .int v3] (0, 0, 0) [] (m_X4_digestWithRow hG  hw) gX4_digest_X4_digestWithRow rfl hd_X4_digestWithRow (by decide) (k_1 1 (by decide) (by decide)) rfl rfl rfl rfl rfl (Nat.le_of_ble_eq_true rfl) dX4_digest_94 (fun r94 M94 hw => ?_)
      refine h.lstore_n (pc := 97) [(1, .long r94), (0, .ref (gA G (0, 0, 0))), (3, .int v3)] dX4_digest_97 rfl (by decide) rfl ?_
      refine h.iinc (pc := 98) [(3, .int (v3 + 1)), (1, .long r94), (0, .ref (gA G (0, 0, 0)))] dX4_digest_98 2 rfl (inc_ (by decide)) (by decide) rfl ?_
      refine h.goto (pc := 101) 80 dX4_digest_101 (by decide) ?_
      refine h.sub (pc := 80) [2, 1, 0] (lv' := [(0, .ref (gA G (0, 0, 0))), (1, .long r94), (3, .int (v3 + 1))]) rfl ?_
      exact ih r94 (v3 + 1) M94 hw
def wp_X4_digest_L118  (v3 : Int32) (X : Int64 → Mem → Prop) (Q : Int64 → Mem → Prop) : Nat → Int64 → Int32 → Mem → Prop
  | 0, _, _, _ => False
  | n + 1, v1, v4, M => ((v3 ≤ v4 → X v1 M) ∧ (¬ (v3 ≤ v4) → (wp_X4_digestWithPage v1 v4 M (fun r128 M128 => (wp_X4_digest_L118 v3 X Q n) r128 (v4 + 1) M128))))
set_option maxHeartbeats 4000000 in
set_option maxRecDepth 100000 in
theorem l_X4_digest_L118 {l : Launch} {G : GG} {Z : ZT} (h : AX l G cX4_digest 5 RX4 wsX4_digest F_X4_digest L_X4_digest Z) (hG : GoodG G) {Q : Int64 → Mem → Prop} (hr : RETl cX4_digest Q Z)   (v3 : Int32)  (X : Int64 → Mem → Prop) (hX : ∀ (v1 : Int64) (M : Mem), X v1 M → Z 138 [(0, .ref (gA G (0, 0, 0))), (1, .long v1)] [] M) : ∀ (n : Nat) (v1 : Int64) (v4 : Int32) (M : Mem), wp_X4_digest_L118 v3 X Q n v1 v4 M → Z 118 [(0, .ref (gA G (0, 0, 0))), (1, .long v1), (3, .int v3), (4, .int v4)] [] M := by
  intro n
  induction n with
  | zero => intro v1 v4 M hw; exact hw.elim
  | succ n ih =>
    intro v1 v4 M hw
    unfold wp_X4_digest_L118 at hw
    refine h.iload (pc := 118) dX4_digest_118 3 rfl ?_
    refine h.iload_n (pc := 120) dX4_digest_120 rfl 2 rfl ?_
    refine h.icmp_ge (pc := 121) 138 dX4_digest_121 (by decide) (fun c121 => ?_) (fun c121 => ?_)
    · replace hw := hw.1 c121
      refine h.sub (pc := 138) [0, 1] (lv' := [(0, .ref (gA G (0, 0, 0))), (1, .long v1)]) rfl ?_
      exact hX v1 M hw
    · replace hw := hw.2 c121
      refine h.aload_n (pc := 124) dX4_digest_124 rfl 0 rfl ?_
      refine h.lload_n (pc := 125) dX4_digest_125 rfl 1 rfl ?_
      refine h.iload (pc := 126) dX4_digest_126 3 rfl ?_
      refine h.cVl (pc := 128) [.long v1, .int v4] (0, 0, 0) [] (m_X4_digestWithPage hG  hw) gX4_digest_X4_digestWithPage rfl hd_X4_digestWithPage (by decide) (k_1 1 (by decide) (by decide)) rfl rfl rfl rfl rfl (Nat.le_of_ble_eq_true rfl) dX4_digest_128 (fun r128 M128 hw => ?_)
      refine h.lstore_n (pc := 131) [(1, .long r128), (0, .ref (gA G (0, 0, 0))), (3, .int v3), (4, .int v4)] dX4_digest_131 rfl (by decide) rfl ?_
      refine h.iinc (pc := 132) [(4, .int (v4 + 1)), (1, .long r128), (0, .ref (gA G (0, 0, 0))), (3, .int v3)] dX4_digest_132 3 rfl (inc_ (by decide)) (by decide) rfl ?_
      refine h.goto (pc := 135) 118 dX4_digest_135 (by decide) ?_
      refine h.sub (pc := 118) [2, 1, 3, 0] (lv' := [(0, .ref (gA G (0, 0, 0))), (1, .long r128), (3, .int v3), (4, .int (v4 + 1))]) rfl ?_
      exact ih r128 (v4 + 1) M128 hw
def wp_X4_digest_L138   (Q : Int64 → Mem → Prop) (v1 : Int64) (M : Mem) : Prop := (wp_X4_pagesIn 30 20 M (fun r144 M144 => (wp_X4_digestWith v1 r144 M144 (fun r147 M147 => (wp_X4_pagesIn 20 30 M147 (fun r157 M157 => (wp_X4_digestWith r147 r157 M157 (fun r160 M160 => Q r160 M160))))))))
set_option maxHeartbeats 4000000 in
set_option maxRecDepth 100000 in
theorem l_X4_digest_L138 {l : Launch} {G : GG} {Z : ZT} (h : AX l G cX4_digest 5 RX4 wsX4_digest F_X4_digest L_X4_digest Z) (hG : GoodG G) {Q : Int64 → Mem → Prop} (hr : RETl cX4_digest Q Z)   (v1 : Int64)  (M : Mem) (hw : wp_X4_digest_L138 Q v1 M) : Z 138 [(0, .ref (gA G (0, 0, 0))), (1, .long v1)] [] M := by
  unfold wp_X4_digest_L138 at hw
  refine h.lload_n (pc := 138) dX4_digest_138 rfl 1 rfl ?_
  refine h.aload_n (pc := 139) dX4_digest_139 rfl 0 rfl ?_
  refine h.bipush (pc := 140) (v := 30) dX4_digest_140 (by decide) ?_
  refine h.bipush (pc := 142) (v := 20) dX4_digest_142 (by decide) ?_
  refine h.cVi (pc := 144) [.int 30, .int 20] (0, 0, 0) [.long v1] (m_X4_pagesIn hG  hw) gX4_digest_X4_pagesIn rfl hd_X4_pagesIn (by decide) (k_1 1 (by decide) (by decide)) rfl rfl rfl rfl rfl (Nat.le_of_ble_eq_true rfl) dX4_digest_144 (fun r144 M144 hw => ?_)
  refine h.cSl (pc := 147) [.long v1, .int r144] [] (m_X4_digestWith hG  hw) gX4_digest_X4_digestWith rfl hd_X4_digestWith (by decide) rfl rfl (Nat.le_of_ble_eq_true rfl) dX4_digest_147 (fun r147 M147 hw => ?_)
  refine h.lstore_n (pc := 150) [(1, .long r147), (0, .ref (gA G (0, 0, 0)))] dX4_digest_150 rfl (by decide) rfl ?_
  refine h.lload_n (pc := 151) dX4_digest_151 rfl 0 rfl ?_
  refine h.aload_n (pc := 152) dX4_digest_152 rfl 1 rfl ?_
  refine h.bipush (pc := 153) (v := 20) dX4_digest_153 (by decide) ?_
  refine h.bipush (pc := 155) (v := 30) dX4_digest_155 (by decide) ?_
  refine h.cVi (pc := 157) [.int 20, .int 30] (0, 0, 0) [.long r147] (m_X4_pagesIn hG  hw) gX4_digest_X4_pagesIn rfl hd_X4_pagesIn (by decide) (k_1 1 (by decide) (by decide)) rfl rfl rfl rfl rfl (Nat.le_of_ble_eq_true rfl) dX4_digest_157 (fun r157 M157 hw => ?_)
  refine h.cSl (pc := 160) [.long r147, .int r157] [] (m_X4_digestWith hG  hw) gX4_digest_X4_digestWith rfl hd_X4_digestWith (by decide) rfl rfl (Nat.le_of_ble_eq_true rfl) dX4_digest_160 (fun r160 M160 hw => ?_)
  exact hr _ _ _ _ dX4_digest_163 hw
def wp_X4_digest_L104   (Q : Int64 → Mem → Prop) (v1 : Int64) (M : Mem) : Prop := (wp_X2_chosen 0 M (fun r108 M108 => ∃ n118, wp_X4_digest_L118 (M108 3 r108 0 6) (fun v1 M => wp_X4_digest_L138 Q v1 M) Q n118 v1 0 M108))
set_option maxHeartbeats 4000000 in
set_option maxRecDepth 100000 in
theorem l_X4_digest_L104 {l : Launch} {G : GG} {Z : ZT} (h : AX l G cX4_digest 5 RX4 wsX4_digest F_X4_digest L_X4_digest Z) (hG : GoodG G) {Q : Int64 → Mem → Prop} (hr : RETl cX4_digest Q Z)   (v1 : Int64)  (M : Mem) (hw : wp_X4_digest_L104 Q v1 M) : Z 104 [(0, .ref (gA G (0, 0, 0))), (1, .long v1)] [] M := by
  unfold wp_X4_digest_L104 at hw
  refine h.aload_n (pc := 104) dX4_digest_104 rfl 0 rfl ?_
  refine h.getf (pc := 105) (f := 0) (o := 0) (i := 0) (ci := 4) (C := RX4) (T := TX4) (N := 8) (j := 1) (v := .ref (gA G (2, 0, 0))) (k_1 1 (by decide) (by decide)) rfl rfl (by decide) inX4_digest_RX4 kX4_digest_19 rfl dX4_digest_105 ?_
  refine h.cVr (pc := 108) [] (2, 0, 0) [] (m_X2_chosen hG (by decide) hw) gX4_digest_X2_chosen rfl hd_X2_chosen (by decide) (k_1 2 (by decide) (by decide)) rfl rfl rfl rfl rfl (Nat.le_of_ble_eq_true rfl) dX4_digest_108 (fun r108 M108 h5_108 hw => ?_)
  refine h.getN (pc := 111) (f := 3) (o := r108) (i := 0) (ci := 0) (C := RX0) (T := TX0) (N := 14) (j := 6) (v := .int (M108 3 r108 0 6)) (k_1 5 (by decide) h5_108) rfl rfl (by decide) inX4_digest_RX0 (own0 := RX4) (host := "TableWright") rfl nw_37 rfl dX4_digest_111 ?_
  refine h.istore_n (pc := 114) [(3, .int (M108 3 r108 0 6)), (0, .ref (gA G (0, 0, 0))), (1, .long v1)] dX4_digest_114 rfl (by decide) rfl ?_
  refine h.iconst (pc := 115) (v := 0) dX4_digest_115 (by decide) ?_
  refine h.istore (pc := 116) [(4, .int 0), (3, .int (M108 3 r108 0 6)), (0, .ref (gA G (0, 0, 0))), (1, .long v1)] dX4_digest_116 (by decide) rfl ?_
  refine h.sub (pc := 118) [2, 3, 1, 0] (lv' := [(0, .ref (gA G (0, 0, 0))), (1, .long v1), (3, .int (M108 3 r108 0 6)), (4, .int 0)]) rfl ?_
  obtain ⟨n118, hw⟩ := hw
  exact l_X4_digest_L118 h hG hr (M108 3 r108 0 6) _ (fun v1 M hw => by
      exact l_X4_digest_L138 h hG hr v1 M hw) n118 v1 0 M108 hw
def wp_X4_digest_L78   (Q : Int64 → Mem → Prop) (v1 : Int64) (M : Mem) : Prop := ∃ n80, wp_X4_digest_L80 (fun v1 M => wp_X4_digest_L104 Q v1 M) Q n80 v1 0 M
set_option maxHeartbeats 4000000 in
set_option maxRecDepth 100000 in
theorem l_X4_digest_L78 {l : Launch} {G : GG} {Z : ZT} (h : AX l G cX4_digest 5 RX4 wsX4_digest F_X4_digest L_X4_digest Z) (hG : GoodG G) {Q : Int64 → Mem → Prop} (hr : RETl cX4_digest Q Z)   (v1 : Int64)  (M : Mem) (hw : wp_X4_digest_L78 Q v1 M) : Z 78 [(0, .ref (gA G (0, 0, 0))), (1, .long v1)] [] M := by
  unfold wp_X4_digest_L78 at hw
  refine h.iconst (pc := 78) (v := 0) dX4_digest_78 (by decide) ?_
  refine h.istore_n (pc := 79) [(3, .int 0), (0, .ref (gA G (0, 0, 0))), (1, .long v1)] dX4_digest_79 rfl (by decide) rfl ?_
  refine h.sub (pc := 80) [1, 2, 0] (lv' := [(0, .ref (gA G (0, 0, 0))), (1, .long v1), (3, .int 0)]) rfl ?_
  obtain ⟨n80, hw⟩ := hw
  exact l_X4_digest_L80 h hG hr  _ (fun v1 M hw => by
      exact l_X4_digest_L104 h hG hr v1 M hw) n80 v1 0 M hw
def wp_X4_digest_L32   (Q : Int64 → Mem → Prop) (v1 : Int64) (M : Mem) : Prop := ∃ n34, wp_X4_digest_L34 (fun v1 M => wp_X4_digest_L78 Q v1 M) Q n34 v1 0 M
set_option maxHeartbeats 4000000 in
set_option maxRecDepth 100000 in
theorem l_X4_digest_L32 {l : Launch} {G : GG} {Z : ZT} (h : AX l G cX4_digest 5 RX4 wsX4_digest F_X4_digest L_X4_digest Z) (hG : GoodG G) {Q : Int64 → Mem → Prop} (hr : RETl cX4_digest Q Z)   (v1 : Int64)  (M : Mem) (hw : wp_X4_digest_L32 Q v1 M) : Z 32 [(0, .ref (gA G (0, 0, 0))), (1, .long v1)] [] M := by
  unfold wp_X4_digest_L32 at hw
  refine h.iconst (pc := 32) (v := 0) dX4_digest_32 (by decide) ?_
  refine h.istore_n (pc := 33) [(3, .int 0), (0, .ref (gA G (0, 0, 0))), (1, .long v1)] dX4_digest_33 rfl (by decide) rfl ?_
  refine h.sub (pc := 34) [1, 2, 0] (lv' := [(0, .ref (gA G (0, 0, 0))), (1, .long v1), (3, .int 0)]) rfl ?_
  obtain ⟨n34, hw⟩ := hw
  exact l_X4_digest_L34 h hG hr  _ (fun v1 M hw => by
      exact l_X4_digest_L78 h hG hr v1 M hw) n34 v1 0 M hw
def wp_X4_digest  (M : Mem) (Q : Int64 → Mem → Prop) : Prop := (wp_X4_refresh M (fun M1 => ∃ n10, wp_X4_digest_L10 (fun v1 M => wp_X4_digest_L32 Q v1 M) Q n10 58119 0 M1))
set_option maxHeartbeats 4000000 in
set_option maxRecDepth 100000 in
theorem m_X4_digest {l : Launch} {G : GG} (hG : GoodG G)  {M : Mem} {Q : Int64 → Mem → Prop}  (hw : wp_X4_digest  M Q) : CTl l G yX4_digest wsX4_digest F_X4_digest L_X4_digest [.ref (gA G (0, 0, 0))] M Q := by
  refine CTl_mk hG (by decide +kernel) rfl (Nat.le_of_ble_eq_true rfl) (fun Z (h : AX l G cX4_digest 5 RX4 wsX4_digest F_X4_digest L_X4_digest Z) hr => ?_)
  show Z 0 [(0, .ref (gA G (0, 0, 0)))] [] M
  unfold wp_X4_digest at hw
  refine h.aload_n (pc := 0) dX4_digest_0 rfl 0 rfl ?_
  refine h.cVv (pc := 1) [] (0, 0, 0) [] (m_X4_refresh hG  hw) gX4_digest_X4_refresh rfl hd_X4_refresh (by decide) (k_1 1 (by decide) (by decide)) rfl rfl rfl rfl rfl (Nat.le_of_ble_eq_true rfl) dX4_digest_1 (fun M1 hw => ?_)
  refine h.ldc2 (pc := 4) (v := 58119) dX4_digest_4 (by decide +kernel) ?_
  refine h.lstore_n (pc := 7) [(1, .long 58119), (0, .ref (gA G (0, 0, 0)))] dX4_digest_7 rfl (by decide) rfl ?_
  refine h.iconst (pc := 8) (v := 0) dX4_digest_8 (by decide) ?_
  refine h.istore_n (pc := 9) [(3, .int 0), (1, .long 58119), (0, .ref (gA G (0, 0, 0)))] dX4_digest_9 rfl (by decide) rfl ?_
  refine h.sub (pc := 10) [2, 1, 0] (lv' := [(0, .ref (gA G (0, 0, 0))), (1, .long 58119), (3, .int 0)]) rfl ?_
  obtain ⟨n10, hw⟩ := hw
  exact l_X4_digest_L10 h hG hr  _ (fun v1 M hw => by
      exact l_X4_digest_L32 h hG hr v1 M hw) n10 58119 0 M1 hw
