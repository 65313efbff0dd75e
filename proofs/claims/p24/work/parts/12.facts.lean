-- X4_requireRange
abbrev F_X4_requireRange : Nat := 0
abbrev L_X4_requireRange : Nat := 0
theorem hd_X4_requireRange : yX4_requireRange.cls ≠ "java/lang/invoke/MethodHandle" ∧ yX4_requireRange.cls ≠ "java/lang/invoke/VarHandle" ∧ (parseMethodDescriptor yX4_requireRange.desc).map (fun d => d.parameters.length) = some 3 := by decide +kernel
def wp_X4_requireRange (v0 : Int32) (v1 : Int32) (v2 : Int32) (M : Mem) (Q : Mem → Prop) : Prop := ((v0 < v1 → False) ∧ (¬ (v0 < v1) → ((v0 ≤ v2 → Q M) ∧ (¬ (v0 ≤ v2) → False))))
set_option maxHeartbeats 4000000 in
set_option maxRecDepth 100000 in
theorem m_X4_requireRange {l : Launch} {G : GG} (hG : GoodG G) {v0 : Int32} {v1 : Int32} {v2 : Int32}  {M : Mem} {Q : Mem → Prop}  (hw : wp_X4_requireRange v0 v1 v2 M Q) : CTv l G yX4_requireRange wsX4_requireRange F_X4_requireRange L_X4_requireRange [.int v0, .int v1, .int v2] M Q := by
  refine CTv_mk hG (by decide +kernel) rfl (Nat.le_of_ble_eq_true rfl) (fun Z (h : AX l G cX4_requireRange 3 RX4 wsX4_requireRange F_X4_requireRange L_X4_requireRange Z) hr => ?_)
  show Z 0 [(0, .int v0), (1, .int v1), (2, .int v2)] [] M
  unfold wp_X4_requireRange at hw
  refine h.iload_n (pc := 0) dX4_requireRange_0 rfl 0 rfl ?_
  refine h.iload_n (pc := 1) dX4_requireRange_1 rfl 1 rfl ?_
  refine h.icmp_lt (pc := 2) 10 dX4_requireRange_2 (by decide) (fun c2 => ?_) (fun c2 => ?_)
  · replace hw := hw.1 c2
    exact hw.elim
  · replace hw := hw.2 c2
    refine h.iload_n (pc := 5) dX4_requireRange_5 rfl 0 rfl ?_
    refine h.iload_n (pc := 6) dX4_requireRange_6 rfl 2 rfl ?_
    refine h.icmp_le (pc := 7) 20 dX4_requireRange_7 (by decide) (fun c7 => ?_) (fun c7 => ?_)
    · replace hw := hw.1 c7
      exact hr _ _ _ dX4_requireRange_20 hw
    · replace hw := hw.2 c7
      exact hw.elim
-- X4_requireRow
theorem inX4_requireRow_RX3 : ∀ w ∈ u_ws RX3 TX3 9, w ∈ wsX4_requireRow := by decide +kernel
theorem inX4_requireRow_RX4 : ∀ w ∈ u_ws RX4 TX4 8, w ∈ wsX4_requireRow := by decide +kernel
theorem kX4_requireRow_12 : Cond.fieldLink RX4 12 (TX4 0).1 (TX4 0).2.1 (TX4 0).2.2.1 ∈ wsX4_requireRow := by decide +kernel
abbrev F_X4_requireRow : Nat := 0
abbrev L_X4_requireRow : Nat := 0
theorem hd_X4_requireRow : yX4_requireRow.cls = RX4 ∧ yX4_requireRow.cls ≠ "java/lang/invoke/MethodHandle" ∧ yX4_requireRow.cls ≠ "java/lang/invoke/VarHandle" ∧ (parseMethodDescriptor yX4_requireRow.desc).map (fun d => d.parameters.length) = some 1 := by decide +kernel
def wp_X4_requireRow (v1 : Int32) (M : Mem) (Q : Mem → Prop) : Prop := ((v1 < 0 → False) ∧ (¬ (v1 < 0) → ((v1 < (M 1 0 0 5) → Q M) ∧ (¬ (v1 < (M 1 0 0 5)) → False))))
set_option maxHeartbeats 4000000 in
set_option maxRecDepth 100000 in
theorem m_X4_requireRow {l : Launch} {G : GG} (hG : GoodG G) {v1 : Int32}  {M : Mem} {Q : Mem → Prop}  (hw : wp_X4_requireRow v1 M Q) : CTv l G yX4_requireRow wsX4_requireRow F_X4_requireRow L_X4_requireRow [.ref (gA G (0, 0, 0)), .int v1] M Q := by
  refine CTv_mk hG (by decide +kernel) rfl (Nat.le_of_ble_eq_true rfl) (fun Z (h : AX l G cX4_requireRow 2 RX4 wsX4_requireRow F_X4_requireRow L_X4_requireRow Z) hr => ?_)
  show Z 0 [(0, .ref (gA G (0, 0, 0))), (1, .int v1)] [] M
  unfold wp_X4_requireRow at hw
  refine h.iload_n (pc := 0) dX4_requireRow_0 rfl 1 rfl ?_
  refine h.if_lt (pc := 1) 15 dX4_requireRow_1 (by decide) (fun c1 => ?_) (fun c1 => ?_)
  · replace hw := hw.1 c1
    exact hw.elim
  · replace hw := hw.2 c1
    refine h.iload_n (pc := 4) dX4_requireRow_4 rfl 1 rfl ?_
    refine h.aload_n (pc := 5) dX4_requireRow_5 rfl 0 rfl ?_
    refine h.getf (pc := 6) (f := 0) (o := 0) (i := 0) (ci := 4) (C := RX4) (T := TX4) (N := 8) (j := 0) (v := .ref (gA G (1, 0, 0))) (k_1 1 (by decide) (by decide)) rfl rfl (by decide) inX4_requireRow_RX4 kX4_requireRow_12 rfl dX4_requireRow_6 ?_
    refine h.getN (pc := 9) (f := 1) (o := 0) (i := 0) (ci := 3) (C := RX3) (T := TX3) (N := 9) (j := 5) (v := .int (M 1 0 0 5)) (k_1 2 (by decide) (by decide)) rfl rfl (by decide) inX4_requireRow_RX3 (own0 := RX4) (host := "TableWright") rfl nw_23 rfl dX4_requireRow_9 ?_
    refine h.icmp_lt (pc := 12) 25 dX4_requireRow_12 (by decide) (fun c12 => ?_) (fun c12 => ?_)
    · replace hw := hw.1 c12
      exact hr _ _ _ dX4_requireRow_25 hw
    · replace hw := hw.2 c12
      exact hw.elim
-- X4_requireColumn
theorem inX4_requireColumn_RX3 : ∀ w ∈ u_ws RX3 TX3 9, w ∈ wsX4_requireColumn := by decide +kernel
theorem inX4_requireColumn_RX4 : ∀ w ∈ u_ws RX4 TX4 8, w ∈ wsX4_requireColumn := by decide +kernel
theorem kX4_requireColumn_12 : Cond.fieldLink RX4 12 (TX4 0).1 (TX4 0).2.1 (TX4 0).2.2.1 ∈ wsX4_requireColumn := by decide +kernel
abbrev F_X4_requireColumn : Nat := 0
abbrev L_X4_requireColumn : Nat := 0
theorem hd_X4_requireColumn : yX4_requireColumn.cls = RX4 ∧ yX4_requireColumn.cls ≠ "java/lang/invoke/MethodHandle" ∧ yX4_requireColumn.cls ≠ "java/lang/invoke/VarHandle" ∧ (parseMethodDescriptor yX4_requireColumn.desc).map (fun d => d.parameters.length) = some 1 := by decide +kernel
def wp_X4_requireColumn (v1 : Int32) (M : Mem) (Q : Mem → Prop) : Prop := ((v1 < 0 → False) ∧ (¬ (v1 < 0) → ((v1 < (M 1 0 0 0) → Q M) ∧ (¬ (v1 < (M 1 0 0 0)) → False))))
set_option maxHeartbeats 4000000 in
set_option maxRecDepth 100000 in
theorem m_X4_requireColumn {l : Launch} {G : GG} (hG : GoodG G) {v1 : Int32}  {M : Mem} {Q : Mem → Prop}  (hw : wp_X4_requireColumn v1 M Q) : CTv l G yX4_requireColumn wsX4_requireColumn F_X4_requireColumn L_X4_requireColumn [.ref (gA G (0, 0, 0)), .int v1] M Q := by
  refine CTv_mk hG (by decide +kernel) rfl (Nat.le_of_ble_eq_true rfl) (fun Z (h : AX l G cX4_requireColumn 2 RX4 wsX4_requireColumn F_X4_requireColumn L_X4_requireColumn Z) hr => ?_)
  show Z 0 [(0, .ref (gA G (0, 0, 0))), (1, .int v1)] [] M
  unfold wp_X4_requireColumn at hw
  refine h.iload_n (pc := 0) dX4_requireColumn_0 rfl 1 rfl ?_
  refine h.if_lt (pc := 1) 15 dX4_requireColumn_1 (by decide) (fun c1 => ?_) (fun c1 => ?_)
  · replace hw := hw.1 c1
    exact hw.elim
  · replace hw := hw.2 c1
    refine h.iload_n (pc := 4) dX4_requireColumn_4 rfl 1 rfl ?_
    refine h.aload_n (pc := 5) dX4_requireColumn_5 rfl 0 rfl ?_
    refine h.getf (pc := 6) (f := 0) (o := 0) (i := 0) (ci := 4) (C := RX4) (T := TX4) (N := 8) (j := 0) (v := .ref (gA G (1, 0, 0))) (k_1 1 (by decide) (by decide)) rfl rfl (by decide) inX4_requireColumn_RX4 kX4_requireColumn_12 rfl dX4_requireColumn_6 ?_
    refine h.getN (pc := 9) (f := 1) (o := 0) (i := 0) (ci := 3) (C := RX3) (T := TX3) (N := 9) (j := 0) (v := .int (M 1 0 0 0)) (k_1 2 (by decide) (by decide)) rfl rfl (by decide) inX4_requireColumn_RX3 (own0 := RX4) (host := "TableWright") rfl nw_19 rfl dX4_requireColumn_9 ?_
    refine h.icmp_lt (pc := 12) 25 dX4_requireColumn_12 (by decide) (fun c12 => ?_) (fun c12 => ?_)
    · replace hw := hw.1 c12
      exact hr _ _ _ dX4_requireColumn_25 hw
    · replace hw := hw.2 c12
      exact hw.elim
-- X4_requirePage
theorem inX4_requirePage_RX0 : ∀ w ∈ u_ws RX0 TX0 14, w ∈ wsX4_requirePage := by decide +kernel
theorem inX4_requirePage_RX4 : ∀ w ∈ u_ws RX4 TX4 8, w ∈ wsX4_requirePage := by decide +kernel
theorem kX4_requirePage_19 : Cond.fieldLink RX4 19 (TX4 1).1 (TX4 1).2.1 (TX4 1).2.2.1 ∈ wsX4_requirePage := by decide +kernel
abbrev F_X4_requirePage : Nat := 1
abbrev L_X4_requirePage : Nat := 20
theorem hd_X4_requirePage : yX4_requirePage.cls = RX4 ∧ yX4_requirePage.cls ≠ "java/lang/invoke/MethodHandle" ∧ yX4_requirePage.cls ≠ "java/lang/invoke/VarHandle" ∧ (parseMethodDescriptor yX4_requirePage.desc).map (fun d => d.parameters.length) = some 1 := by decide +kernel
def wp_X4_requirePage (v1 : Int32) (M : Mem) (Q : Mem → Prop) : Prop := ((v1 < 0 → False) ∧ (¬ (v1 < 0) → (wp_X2_chosen 0 M (fun r9 M9 => ((v1 < (M9 3 r9 0 6) → Q M9) ∧ (¬ (v1 < (M9 3 r9 0 6)) → False))))))
set_option maxHeartbeats 4000000 in
set_option maxRecDepth 100000 in
theorem m_X4_requirePage {l : Launch} {G : GG} (hG : GoodG G) {v1 : Int32}  {M : Mem} {Q : Mem → Prop}  (hw : wp_X4_requirePage v1 M Q) : CTv l G yX4_requirePage wsX4_requirePage F_X4_requirePage L_X4_requirePage [.ref (gA G (0, 0, 0)), .int v1] M Q := by
  refine CTv_mk hG (by decide +kernel) rfl (Nat.le_of_ble_eq_true rfl) (fun Z (h : AX l G cX4_requirePage 2 RX4 wsX4_requirePage F_X4_requirePage L_X4_requirePage Z) hr => ?_)
  show Z 0 [(0, .ref (gA G (0, 0, 0))), (1, .int v1)] [] M
  unfold wp_X4_requirePage at hw
  refine h.iload_n (pc := 0) dX4_requirePage_0 rfl 1 rfl ?_
  refine h.if_lt (pc := 1) 18 dX4_requirePage_1 (by decide) (fun c1 => ?_) (fun c1 => ?_)
  · replace hw := hw.1 c1
    exact hw.elim
  · replace hw := hw.2 c1
    refine h.iload_n (pc := 4) dX4_requirePage_4 rfl 1 rfl ?_
    refine h.aload_n (pc := 5) dX4_requirePage_5 rfl 0 rfl ?_
    refine h.getf (pc := 6) (f := 0) (o := 0) (i := 0) (ci := 4) (C := RX4) (T := TX4) (N := 8) (j := 1) (v := .ref (gA G (2, 0, 0))) (k_1 1 (by decide) (by decide)) rfl rfl (by decide) inX4_requirePage_RX4 kX4_requirePage_19 rfl dX4_requirePage_6 ?_
    refine h.cVr (pc := 9) [] (2, 0, 0) [.int v1] (m_X2_chosen hG (by decide) hw) gX4_requirePage_X2_chosen rfl hd_X2_chosen (by decide) (k_1 2 (by decide) (by decide)) rfl rfl rfl rfl rfl (Nat.le_of_ble_eq_true rfl) dX4_requirePage_9 (fun r9 M9 h5_9 hw => ?_)
    refine h.getN (pc := 12) (f := 3) (o := r9) (i := 0) (ci := 0) (C := RX0) (T := TX0) (N := 14) (j := 6) (v := .int (M9 3 r9 0 6)) (k_1 5 (by decide) h5_9) rfl rfl (by decide) inX4_requirePage_RX0 (own0 := RX4) (host := "TableWright") rfl nw_37 rfl dX4_requirePage_12 ?_
    refine h.icmp_lt (pc := 15) 28 dX4_requirePage_15 (by decide) (fun c15 => ?_) (fun c15 => ?_)
    · replace hw := hw.1 c15
      exact hr _ _ _ dX4_requirePage_28 hw
    · replace hw := hw.2 c15
      exact hw.elim
-- X4_requireKind
theorem inX4_requireKind_RX3 : ∀ w ∈ u_ws RX3 TX3 9, w ∈ wsX4_requireKind := by decide +kernel
theorem inX4_requireKind_RX4 : ∀ w ∈ u_ws RX4 TX4 8, w ∈ wsX4_requireKind := by decide +kernel
theorem kX4_requireKind_12 : Cond.fieldLink RX4 12 (TX4 0).1 (TX4 0).2.1 (TX4 0).2.2.1 ∈ wsX4_requireKind := by decide +kernel
abbrev F_X4_requireKind : Nat := 0
abbrev L_X4_requireKind : Nat := 0
theorem hd_X4_requireKind : yX4_requireKind.cls = RX4 ∧ yX4_requireKind.cls ≠ "java/lang/invoke/MethodHandle" ∧ yX4_requireKind.cls ≠ "java/lang/invoke/VarHandle" ∧ (parseMethodDescriptor yX4_requireKind.desc).map (fun d => d.parameters.length) = some 2 := by decide +kernel
def wp_X4_requireKind (v1 : Int32) (v2 : Int32) (M : Mem) (Q : Mem → Prop) : Prop := (vp_in v1 6 ∧ (((M 5 0 0 v1.toNatClampNeg) = v2 → Q M) ∧ (¬ ((M 5 0 0 v1.toNatClampNeg) = v2) → False)))
set_option maxHeartbeats 4000000 in
set_option maxRecDepth 100000 in
theorem m_X4_requireKind {l : Launch} {G : GG} (hG : GoodG G) {v1 : Int32} {v2 : Int32}  {M : Mem} {Q : Mem → Prop}  (hw : wp_X4_requireKind v1 v2 M Q) : CTv l G yX4_requireKind wsX4_requireKind F_X4_requireKind L_X4_requireKind [.ref (gA G (0, 0, 0)), .int v1, .int v2] M Q := by
  refine CTv_mk hG (by decide +kernel) rfl (Nat.le_of_ble_eq_true rfl) (fun Z (h : AX l G cX4_requireKind 3 RX4 wsX4_requireKind F_X4_requireKind L_X4_requireKind Z) hr => ?_)
  show Z 0 [(0, .ref (gA G (0, 0, 0))), (1, .int v1), (2, .int v2)] [] M
  unfold wp_X4_requireKind at hw
  refine h.aload_n (pc := 0) dX4_requireKind_0 rfl 0 rfl ?_
  refine h.getf (pc := 1) (f := 0) (o := 0) (i := 0) (ci := 4) (C := RX4) (T := TX4) (N := 8) (j := 0) (v := .ref (gA G (1, 0, 0))) (k_1 1 (by decide) (by decide)) rfl rfl (by decide) inX4_requireKind_RX4 kX4_requireKind_12 rfl dX4_requireKind_1 ?_
  refine h.getN (pc := 4) (f := 1) (o := 0) (i := 0) (ci := 3) (C := RX3) (T := TX3) (N := 9) (j := 1) (v := .ref (gA G (5, 0, 0))) (k_1 2 (by decide) (by decide)) rfl rfl (by decide) inX4_requireKind_RX3 (own0 := RX4) (host := "TableWright") rfl nw_21 rfl dX4_requireKind_4 ?_
  refine h.iload_n (pc := 7) dX4_requireKind_7 rfl 1 rfl ?_
  obtain ⟨hj8, hw⟩ := hw
  refine h.iald (pc := 8) (f := 5) (o := 0) (i := 0) (n := 6) (k_1 2 (by decide) (by decide)) (fun _ => rfl) hj8 dX4_requireKind_8 ?_
  refine h.iload_n (pc := 9) dX4_requireKind_9 rfl 2 rfl ?_
  refine h.icmp_eq (pc := 10) 23 dX4_requireKind_10 (by decide) (fun c10 => ?_) (fun c10 => ?_)
  · replace hw := hw.1 c10
    exact hr _ _ _ dX4_requireKind_23 hw
  · replace hw := hw.2 c10
    exact hw.elim
-- X4_requireSpareColumn
theorem inX4_requireSpareColumn_RX3 : ∀ w ∈ u_ws RX3 TX3 9, w ∈ wsX4_requireSpareColumn := by decide +kernel
theorem inX4_requireSpareColumn_RX4 : ∀ w ∈ u_ws RX4 TX4 8, w ∈ wsX4_requireSpareColumn := by decide +kernel
theorem kX4_requireSpareColumn_12 : Cond.fieldLink RX4 12 (TX4 0).1 (TX4 0).2.1 (TX4 0).2.2.1 ∈ wsX4_requireSpareColumn := by decide +kernel
abbrev F_X4_requireSpareColumn : Nat := 0
abbrev L_X4_requireSpareColumn : Nat := 0
theorem hd_X4_requireSpareColumn : yX4_requireSpareColumn.cls = RX4 ∧ yX4_requireSpareColumn.cls ≠ "java/lang/invoke/MethodHandle" ∧ yX4_requireSpareColumn.cls ≠ "java/lang/invoke/VarHandle" ∧ (parseMethodDescriptor yX4_requireSpareColumn.desc).map (fun d => d.parameters.length) = some 0 := by decide +kernel
def wp_X4_requireSpareColumn  (M : Mem) (Q : Mem → Prop) : Prop := (((M 1 0 0 0) < 6 → Q M) ∧ (¬ ((M 1 0 0 0) < 6) → False))
set_option maxHeartbeats 4000000 in
set_option maxRecDepth 100000 in
theorem m_X4_requireSpareColumn {l : Launch} {G : GG} (hG : GoodG G)  {M : Mem} {Q : Mem → Prop}  (hw : wp_X4_requireSpareColumn  M Q) : CTv l G yX4_requireSpareColumn wsX4_requireSpareColumn F_X4_requireSpareColumn L_X4_requireSpareColumn [.ref (gA G (0, 0, 0))] M Q := by
  refine CTv_mk hG (by decide +kernel) rfl (Nat.le_of_ble_eq_true rfl) (fun Z (h : AX l G cX4_requireSpareColumn 1 RX4 wsX4_requireSpareColumn F_X4_requireSpareColumn L_X4_requireSpareColumn Z) hr => ?_)
  show Z 0 [(0, .ref (gA G (0, 0, 0)))] [] M
  unfold wp_X4_requireSpareColumn at hw
  refine h.aload_n (pc := 0) dX4_requireSpareColumn_0 rfl 0 rfl ?_
  refine h.getf (pc := 1) (f := 0) (o := 0) (i := 0) (ci := 4) (C := RX4) (T := TX4) (N := 8) (j := 0) (v := .ref (gA G (1, 0, 0))) (k_1 1 (by decide) (by decide)) rfl rfl (by decide) inX4_requireSpareColumn_RX4 kX4_requireSpareColumn_12 rfl dX4_requireSpareColumn_1 ?_
  refine h.getN (pc := 4) (f := 1) (o := 0) (i := 0) (ci := 3) (C := RX3) (T := TX3) (N := 9) (j := 0) (v := .int (M 1 0 0 0)) (k_1 2 (by decide) (by decide)) rfl rfl (by decide) inX4_requireSpareColumn_RX3 (own0 := RX4) (host := "TableWright") rfl nw_19 rfl dX4_requireSpareColumn_4 ?_
  refine h.bipush (pc := 7) (v := 6) dX4_requireSpareColumn_7 (by decide) ?_
  refine h.icmp_lt (pc := 9) 22 dX4_requireSpareColumn_9 (by decide) (fun c9 => ?_) (fun c9 => ?_)
  · replace hw := hw.1 c9
    exact hr _ _ _ dX4_requireSpareColumn_22 hw
  · replace hw := hw.2 c9
    exact hw.elim
-- X4_requireNumberCell
abbrev F_X4_requireNumberCell : Nat := 1
abbrev L_X4_requireNumberCell : Nat := 22
theorem hd_X4_requireNumberCell : yX4_requireNumberCell.cls = RX4 ∧ yX4_requireNumberCell.cls ≠ "java/lang/invoke/MethodHandle" ∧ yX4_requireNumberCell.cls ≠ "java/lang/invoke/VarHandle" ∧ (parseMethodDescriptor yX4_requireNumberCell.desc).map (fun d => d.parameters.length) = some 3 := by decide +kernel
def wp_X4_requireNumberCell (v1 : Int32) (v2 : Int32) (v3 : Int32) (M : Mem) (Q : Mem → Prop) : Prop := (wp_X4_requireRow v1 M (fun M2 => (wp_X4_requireColumn v2 M2 (fun M7 => (wp_X4_requireKind v2 0 M7 (fun M13 => (wp_X4_requireRange v3 (-9999) 9999 M13 (fun M23 => Q M23))))))))
set_option maxHeartbeats 4000000 in
set_option maxRecDepth 100000 in
theorem m_X4_requireNumberCell {l : Launch} {G : GG} (hG : GoodG G) {v1 : Int32} {v2 : Int32} {v3 : Int32}  {M : Mem} {Q : Mem → Prop}  (hw : wp_X4_requireNumberCell v1 v2 v3 M Q) : CTv l G yX4_requireNumberCell wsX4_requireNumberCell F_X4_requireNumberCell L_X4_requireNumberCell [.ref (gA G (0, 0, 0)), .int v1, .int v2, .int v3] M Q := by
  refine CTv_mk hG (by decide +kernel) rfl (Nat.le_of_ble_eq_true rfl) (fun Z (h : AX l G cX4_requireNumberCell 4 RX4 wsX4_requireNumberCell F_X4_requireNumberCell L_X4_requireNumberCell Z) hr => ?_)
  show Z 0 [(0, .ref (gA G (0, 0, 0))), (1, .int v1), (2, .int v2), (3, .int v3)] [] M
  unfold wp_X4_requireNumberCell at hw
  refine h.aload_n (pc := 0) dX4_requireNumberCell_0 rfl 0 rfl ?_
  refine h.iload_n (pc := 1) dX4_requireNumberCell_1 rfl 1 rfl ?_
  refine h.cVv (pc := 2) [.int v1] (0, 0, 0) [] (m_X4_requireRow hG  hw) gX4_requireNumberCell_X4_requireRow rfl hd_X4_requireRow (by decide) (k_1 1 (by decide) (by decide)) rfl rfl rfl rfl rfl (Nat.le_of_ble_eq_true rfl) dX4_requireNumberCell_2 (fun M2 hw => ?_)
  refine h.aload_n (pc := 5) dX4_requireNumberCell_5 rfl 0 rfl ?_
  refine h.iload_n (pc := 6) dX4_requireNumberCell_6 rfl 2 rfl ?_
  refine h.cVv (pc := 7) [.int v2] (0, 0, 0) [] (m_X4_requireColumn hG  hw) gX4_requireNumberCell_X4_requireColumn rfl hd_X4_requireColumn (by decide) (k_1 1 (by decide) (by decide)) rfl rfl rfl rfl rfl (Nat.le_of_ble_eq_true rfl) dX4_requireNumberCell_7 (fun M7 hw => ?_)
  refine h.aload_n (pc := 10) dX4_requireNumberCell_10 rfl 0 rfl ?_
  refine h.iload_n (pc := 11) dX4_requireNumberCell_11 rfl 2 rfl ?_
  refine h.iconst (pc := 12) (v := 0) dX4_requireNumberCell_12 (by decide) ?_
  refine h.cVv (pc := 13) [.int v2, .int 0] (0, 0, 0) [] (m_X4_requireKind hG  hw) gX4_requireNumberCell_X4_requireKind rfl hd_X4_requireKind (by decide) (k_1 1 (by decide) (by decide)) rfl rfl rfl rfl rfl (Nat.le_of_ble_eq_true rfl) dX4_requireNumberCell_13 (fun M13 hw => ?_)
  refine h.iload_n (pc := 16) dX4_requireNumberCell_16 rfl 3 rfl ?_
  refine h.sipush (pc := 17) (v := (-9999)) dX4_requireNumberCell_17 (by decide) ?_
  refine h.sipush (pc := 20) (v := 9999) dX4_requireNumberCell_20 (by decide) ?_
  refine h.cSv (pc := 23) [.int v3, .int (-9999), .int 9999] [] (m_X4_requireRange hG  hw) gX4_requireNumberCell_X4_requireRange rfl hd_X4_requireRange (by decide) rfl rfl (Nat.le_of_ble_eq_true rfl) dX4_requireNumberCell_23 (fun M23 hw => ?_)
  exact hr _ _ _ dX4_requireNumberCell_26 hw
-- X4_refresh
theorem inX4_refresh_RX4 : ∀ w ∈ u_ws RX4 TX4 8, w ∈ wsX4_refresh := by decide +kernel
theorem kX4_refresh_30 : Cond.fieldLink RX4 30 (TX4 4).1 (TX4 4).2.1 (TX4 4).2.2.1 ∈ wsX4_refresh := by decide +kernel
theorem kX4_refresh_12 : Cond.fieldLink RX4 12 (TX4 0).1 (TX4 0).2.1 (TX4 0).2.2.1 ∈ wsX4_refresh := by decide +kernel
theorem kX4_refresh_19 : Cond.fieldLink RX4 19 (TX4 1).1 (TX4 1).2.1 (TX4 1).2.2.1 ∈ wsX4_refresh := by decide +kernel
theorem kX4_refresh_23 : Cond.fieldLink RX4 23 (TX4 2).1 (TX4 2).2.1 (TX4 2).2.2.1 ∈ wsX4_refresh := by decide +kernel
theorem kX4_refresh_27 : Cond.fieldLink RX4 27 (TX4 3).1 (TX4 3).2.1 (TX4 3).2.2.1 ∈ wsX4_refresh := by decide +kernel
abbrev F_X4_refresh : Nat := 5
abbrev L_X4_refresh : Nat := 118
theorem hd_X4_refresh : yX4_refresh.cls = RX4 ∧ yX4_refresh.cls ≠ "java/lang/invoke/MethodHandle" ∧ yX4_refresh.cls ≠ "java/lang/invoke/VarHandle" ∧ (parseMethodDescriptor yX4_refresh.desc).map (fun d => d.parameters.length) = some 0 := by decide +kernel
def wp_X4_refresh  (M : Mem) (Q : Mem → Prop) : Prop := (((M 0 0 0 4) = 0 → Q M) ∧ (¬ ((M 0 0 0 4) = 0) → (wp_X3_reckon 0 M (fun M11 => (wp_X2_arrange 0 0 (M11 0 0 0 2) (M11 0 0 0 3) M11 (fun M30 => (∀ M35 : Mem, M35 = sM M30 0 0 0 4 0 → Q M35)))))))
set_option maxHeartbeats 4000000 in
set_option maxRecDepth 100000 in
theorem m_X4_refresh {l : Launch} {G : GG} (hG : GoodG G)  {M : Mem} {Q : Mem → Prop}  (hw : wp_X4_refresh  M Q) : CTv l G yX4_refresh wsX4_refresh F_X4_refresh L_X4_refresh [.ref (gA G (0, 0, 0))] M Q := by
  refine CTv_mk hG (by decide +kernel) rfl (Nat.le_of_ble_eq_true rfl) (fun Z (h : AX l G cX4_refresh 1 RX4 wsX4_refresh F_X4_refresh L_X4_refresh Z) hr => ?_)
  show Z 0 [(0, .ref (gA G (0, 0, 0)))] [] M
  unfold wp_X4_refresh at hw
  refine h.aload_n (pc := 0) dX4_refresh_0 rfl 0 rfl ?_
  refine h.getf (pc := 1) (f := 0) (o := 0) (i := 0) (ci := 4) (C := RX4) (T := TX4) (N := 8) (j := 4) (v := .int (M 0 0 0 4)) (k_1 1 (by decide) (by decide)) rfl rfl (by decide) inX4_refresh_RX4 kX4_refresh_30 rfl dX4_refresh_1 ?_
  refine h.if_eq (pc := 4) 38 dX4_refresh_4 (by decide) (fun c4 => ?_) (fun c4 => ?_)
  · replace hw := hw.1 c4
    exact hr _ _ _ dX4_refresh_38 hw
  · replace hw := hw.2 c4
    refine h.aload_n (pc := 7) dX4_refresh_7 rfl 0 rfl ?_
    refine h.getf (pc := 8) (f := 0) (o := 0) (i := 0) (ci := 4) (C := RX4) (T := TX4) (N := 8) (j := 0) (v := .ref (gA G (1, 0, 0))) (k_1 1 (by decide) (by decide)) rfl rfl (by decide) inX4_refresh_RX4 kX4_refresh_12 rfl dX4_refresh_8 ?_
    refine h.cVv (pc := 11) [] (1, 0, 0) [] (m_X3_reckon hG (by decide) hw) gX4_refresh_X3_reckon rfl hd_X3_reckon (by decide) (k_1 2 (by decide) (by decide)) rfl rfl rfl rfl rfl (Nat.le_of_ble_eq_true rfl) dX4_refresh_11 (fun M11 hw => ?_)
    refine h.aload_n (pc := 14) dX4_refresh_14 rfl 0 rfl ?_
    refine h.getf (pc := 15) (f := 0) (o := 0) (i := 0) (ci := 4) (C := RX4) (T := TX4) (N := 8) (j := 1) (v := .ref (gA G (2, 0, 0))) (k_1 1 (by decide) (by decide)) rfl rfl (by decide) inX4_refresh_RX4 kX4_refresh_19 rfl dX4_refresh_15 ?_
    refine h.aload_n (pc := 18) dX4_refresh_18 rfl 0 rfl ?_
    refine h.getf (pc := 19) (f := 0) (o := 0) (i := 0) (ci := 4) (C := RX4) (T := TX4) (N := 8) (j := 0) (v := .ref (gA G (1, 0, 0))) (k_1 1 (by decide) (by decide)) rfl rfl (by decide) inX4_refresh_RX4 kX4_refresh_12 rfl dX4_refresh_19 ?_
    refine h.aload_n (pc := 22) dX4_refresh_22 rfl 0 rfl ?_
    refine h.getf (pc := 23) (f := 0) (o := 0) (i := 0) (ci := 4) (C := RX4) (T := TX4) (N := 8) (j := 2) (v := .int (M11 0 0 0 2)) (k_1 1 (by decide) (by decide)) rfl rfl (by decide) inX4_refresh_RX4 kX4_refresh_23 rfl dX4_refresh_23 ?_
    refine h.aload_n (pc := 26) dX4_refresh_26 rfl 0 rfl ?_
    refine h.getf (pc := 27) (f := 0) (o := 0) (i := 0) (ci := 4) (C := RX4) (T := TX4) (N := 8) (j := 3) (v := .int (M11 0 0 0 3)) (k_1 1 (by decide) (by decide)) rfl rfl (by decide) inX4_refresh_RX4 kX4_refresh_27 rfl dX4_refresh_27 ?_
    refine h.cVv (pc := 30) [.ref (gA G (1, 0, 0)), .int (M11 0 0 0 2), .int (M11 0 0 0 3)] (2, 0, 0) [] (m_X2_arrange hG (by decide) (by decide) hw) gX4_refresh_X2_arrange rfl hd_X2_arrange (by decide) (k_1 2 (by decide) (by decide)) rfl rfl rfl rfl rfl (Nat.le_of_ble_eq_true rfl) dX4_refresh_30 (fun M30 hw => ?_)
    refine h.aload_n (pc := 33) dX4_refresh_33 rfl 0 rfl ?_
    refine h.iconst (pc := 34) (v := 0) dX4_refresh_34 (by decide) ?_
    refine h.putf (pc := 35) (f := 0) (o := 0) (i := 0) (ci := 4) (C := RX4) (T := TX4) (N := 8) (j := 4) (ty := .boolean) (ty0 := tyX4) (x := 0) (k_1 1 (by decide) (by decide)) rfl rfl (by decide) inX4_refresh_RX4 tyX4_ok nmX4 kX4_refresh_30 rfl (tyX4_ok 4 (by decide)) (zb_narrow zb_0) (zb_fits zb_0) (Nat.le_of_ble_eq_true rfl) rfl dX4_refresh_35 (fun M35 e35 => ?_)
    replace hw := hw M35 e35
    exact hr _ _ _ dX4_refresh_38 hw
-- X4_layoutOfTrial
theorem inX4_layoutOfTrial_RX4 : ∀ w ∈ u_ws RX4 TX4 8, w ∈ wsX4_layoutOfTrial := by decide +kernel
theorem kX4_layoutOfTrial_34 : Cond.fieldLink RX4 34 (TX4 5).1 (TX4 5).2.1 (TX4 5).2.2.1 ∈ wsX4_layoutOfTrial := by decide +kernel
theorem kX4_layoutOfTrial_37 : Cond.fieldLink RX4 37 (TX4 6).1 (TX4 6).2.1 (TX4 6).2.2.1 ∈ wsX4_layoutOfTrial := by decide +kernel
theorem kX4_layoutOfTrial_23 : Cond.fieldLink RX4 23 (TX4 2).1 (TX4 2).2.1 (TX4 2).2.2.1 ∈ wsX4_layoutOfTrial := by decide +kernel
theorem kX4_layoutOfTrial_27 : Cond.fieldLink RX4 27 (TX4 3).1 (TX4 3).2.1 (TX4 3).2.2.1 ∈ wsX4_layoutOfTrial := by decide +kernel
abbrev F_X4_layoutOfTrial : Nat := 5
abbrev L_X4_layoutOfTrial : Nat := 118
theorem hd_X4_layoutOfTrial : yX4_layoutOfTrial.cls = RX4 ∧ yX4_layoutOfTrial.cls ≠ "java/lang/invoke/MethodHandle" ∧ yX4_layoutOfTrial.cls ≠ "java/lang/invoke/VarHandle" ∧ (parseMethodDescriptor yX4_layoutOfTrial.desc).map (fun d => d.parameters.length) = some 0 := by decide +kernel
def wp_X4_layoutOfTrial  (M : Mem) (Q : Nat → Mem → Prop) : Prop := (wp_X3_reckon 1 M (fun M4 => (wp_X2_arrange 1 1 (M4 0 0 0 2) (M4 0 0 0 3) M4 (fun M23 => (wp_X2_chosen 1 M23 (fun r30 M30 => Q r30 M30))))))
set_option maxHeartbeats 4000000 in
set_option maxRecDepth 100000 in
theorem m_X4_layoutOfTrial {l : Launch} {G : GG} (hG : GoodG G)  {M : Mem} {Q : Nat → Mem → Prop}  (hw : wp_X4_layoutOfTrial  M Q) : CTr l G yX4_layoutOfTrial wsX4_layoutOfTrial F_X4_layoutOfTrial L_X4_layoutOfTrial [.ref (gA G (0, 0, 0))] M Q := by
  refine CTr_mk hG (by decide +kernel) rfl (Nat.le_of_ble_eq_true rfl) (fun Z (h : AX l G cX4_layoutOfTrial 1 RX4 wsX4_layoutOfTrial F_X4_layoutOfTrial L_X4_layoutOfTrial Z) hr => ?_)
  show Z 0 [(0, .ref (gA G (0, 0, 0)))] [] M
  unfold wp_X4_layoutOfTrial at hw
  refine h.aload_n (pc := 0) dX4_layoutOfTrial_0 rfl 0 rfl ?_
  refine h.getf (pc := 1) (f := 0) (o := 0) (i := 0) (ci := 4) (C := RX4) (T := TX4) (N := 8) (j := 5) (v := .ref (gA G (1, 1, 0))) (k_1 1 (by decide) (by decide)) rfl rfl (by decide) inX4_layoutOfTrial_RX4 kX4_layoutOfTrial_34 rfl dX4_layoutOfTrial_1 ?_
  refine h.cVv (pc := 4) [] (1, 1, 0) [] (m_X3_reckon hG (by decide) hw) gX4_layoutOfTrial_X3_reckon rfl hd_X3_reckon (by decide) (k_1 2 (by decide) (by decide)) rfl rfl rfl rfl rfl (Nat.le_of_ble_eq_true rfl) dX4_layoutOfTrial_4 (fun M4 hw => ?_)
  refine h.aload_n (pc := 7) dX4_layoutOfTrial_7 rfl 0 rfl ?_
  refine h.getf (pc := 8) (f := 0) (o := 0) (i := 0) (ci := 4) (C := RX4) (T := TX4) (N := 8) (j := 6) (v := .ref (gA G (2, 1, 0))) (k_1 1 (by decide) (by decide)) rfl rfl (by decide) inX4_layoutOfTrial_RX4 kX4_layoutOfTrial_37 rfl dX4_layoutOfTrial_8 ?_
  refine h.aload_n (pc := 11) dX4_layoutOfTrial_11 rfl 0 rfl ?_
  refine h.getf (pc := 12) (f := 0) (o := 0) (i := 0) (ci := 4) (C := RX4) (T := TX4) (N := 8) (j := 5) (v := .ref (gA G (1, 1, 0))) (k_1 1 (by decide) (by decide)) rfl rfl (by decide) inX4_layoutOfTrial_RX4 kX4_layoutOfTrial_34 rfl dX4_layoutOfTrial_12 ?_
  refine h.aload_n (pc := 15) dX4_layoutOfTrial_15 rfl 0 rfl ?_
  refine h.getf (pc := 16) (f := 0) (o := 0) (i := 0) (ci := 4) (C := RX4) (T := TX4) (N := 8) (j := 2) (v := .int (M4 0 0 0 2)) (k_1 1 (by decide) (by decide)) rfl rfl (by decide) inX4_layoutOfTrial_RX4 kX4_layoutOfTrial_23 rfl dX4_layoutOfTrial_16 ?_
  refine h.aload_n (pc := 19) dX4_layoutOfTrial_19 rfl 0 rfl ?_
  refine h.getf (pc := 20) (f := 0) (o := 0) (i := 0) (ci := 4) (C := RX4) (T := TX4) (N := 8) (j := 3) (v := .int (M4 0 0 0 3)) (k_1 1 (by decide) (by decide)) rfl rfl (by decide) inX4_layoutOfTrial_RX4 kX4_layoutOfTrial_27 rfl dX4_layoutOfTrial_20 ?_
  refine h.cVv (pc := 23) [.ref (gA G (1, 1, 0)), .int (M4 0 0 0 2), .int (M4 0 0 0 3)] (2, 1, 0) [] (m_X2_arrange hG (by decide) (by decide) hw) gX4_layoutOfTrial_X2_arrange rfl hd_X2_arrange (by decide) (k_1 2 (by decide) (by decide)) rfl rfl rfl rfl rfl (Nat.le_of_ble_eq_true rfl) dX4_layoutOfTrial_23 (fun M23 hw => ?_)
  refine h.aload_n (pc := 26) dX4_layoutOfTrial_26 rfl 0 rfl ?_
  refine h.getf (pc := 27) (f := 0) (o := 0) (i := 0) (ci := 4) (C := RX4) (T := TX4) (N := 8) (j := 6) (v := .ref (gA G (2, 1, 0))) (k_1 1 (by decide) (by decide)) rfl rfl (by decide) inX4_layoutOfTrial_RX4 kX4_layoutOfTrial_37 rfl dX4_layoutOfTrial_27 ?_
  refine h.cVr (pc := 30) [] (2, 1, 0) [] (m_X2_chosen hG (by decide) hw) gX4_layoutOfTrial_X2_chosen rfl hd_X2_chosen (by decide) (k_1 2 (by decide) (by decide)) rfl rfl rfl rfl rfl (Nat.le_of_ble_eq_true rfl) dX4_layoutOfTrial_30 (fun r30 M30 h5_30 hw => ?_)
  exact hr _ _ _ _ dX4_layoutOfTrial_33 h5_30 hw
-- X4_pagesIn
theorem inX4_pagesIn_RX4 : ∀ w ∈ u_ws RX4 TX4 8, w ∈ wsX4_pagesIn := by decide +kernel
theorem kX4_pagesIn_43 : Cond.fieldLink RX4 43 (TX4 7).1 (TX4 7).2.1 (TX4 7).2.2.1 ∈ wsX4_pagesIn := by decide +kernel
theorem kX4_pagesIn_12 : Cond.fieldLink RX4 12 (TX4 0).1 (TX4 0).2.1 (TX4 0).2.2.1 ∈ wsX4_pagesIn := by decide +kernel
abbrev F_X4_pagesIn : Nat := 4
abbrev L_X4_pagesIn : Nat := 94
theorem hd_X4_pagesIn : yX4_pagesIn.cls = RX4 ∧ yX4_pagesIn.cls ≠ "java/lang/invoke/MethodHandle" ∧ yX4_pagesIn.cls ≠ "java/lang/invoke/VarHandle" ∧ (parseMethodDescriptor yX4_pagesIn.desc).map (fun d => d.parameters.length) = some 2 := by decide +kernel
def wp_X4_pagesIn (v1 : Int32) (v2 : Int32) (M : Mem) (Q : Int32 → Mem → Prop) : Prop := (wp_X0_arrange 4 0 v1 v2 M (fun M10 => (wp_X0_pagesOrNone 4 M10 (fun r17 M17 => Q r17 M17))))
set_option maxHeartbeats 4000000 in
set_option maxRecDepth 100000 in
theorem m_X4_pagesIn {l : Launch} {G : GG} (hG : GoodG G) {v1 : Int32} {v2 : Int32}  {M : Mem} {Q : Int32 → Mem → Prop}  (hw : wp_X4_pagesIn v1 v2 M Q) : CTi l G yX4_pagesIn wsX4_pagesIn F_X4_pagesIn L_X4_pagesIn [.ref (gA G (0, 0, 0)), .int v1, .int v2] M Q := by
  refine CTi_mk hG (by decide +kernel) rfl (Nat.le_of_ble_eq_true rfl) (fun Z (h : AX l G cX4_pagesIn 3 RX4 wsX4_pagesIn F_X4_pagesIn L_X4_pagesIn Z) hr => ?_)
  show Z 0 [(0, .ref (gA G (0, 0, 0))), (1, .int v1), (2, .int v2)] [] M
  unfold wp_X4_pagesIn at hw
  refine h.aload_n (pc := 0) dX4_pagesIn_0 rfl 0 rfl ?_
  refine h.getf (pc := 1) (f := 0) (o := 0) (i := 0) (ci := 4) (C := RX4) (T := TX4) (N := 8) (j := 7) (v := .ref (gA G (3, 4, 0))) (k_1 1 (by decide) (by decide)) rfl rfl (by decide) inX4_pagesIn_RX4 kX4_pagesIn_43 rfl dX4_pagesIn_1 ?_
  refine h.aload_n (pc := 4) dX4_pagesIn_4 rfl 0 rfl ?_
  refine h.getf (pc := 5) (f := 0) (o := 0) (i := 0) (ci := 4) (C := RX4) (T := TX4) (N := 8) (j := 0) (v := .ref (gA G (1, 0, 0))) (k_1 1 (by decide) (by decide)) rfl rfl (by decide) inX4_pagesIn_RX4 kX4_pagesIn_12 rfl dX4_pagesIn_5 ?_
  refine h.iload_n (pc := 8) dX4_pagesIn_8 rfl 1 rfl ?_
  refine h.iload_n (pc := 9) dX4_pagesIn_9 rfl 2 rfl ?_
  refine h.cVv (pc := 10) [.ref (gA G (1, 0, 0)), .int v1, .int v2] (3, 4, 0) [] (m_X0_arrange hG (by decide) (by decide) hw) gX4_pagesIn_X0_arrange rfl hd_X0_arrange (by decide) (k_1 5 (by decide) (by decide)) rfl rfl rfl rfl rfl (Nat.le_of_ble_eq_true rfl) dX4_pagesIn_10 (fun M10 hw => ?_)
  refine h.aload_n (pc := 13) dX4_pagesIn_13 rfl 0 rfl ?_
  refine h.getf (pc := 14) (f := 0) (o := 0) (i := 0) (ci := 4) (C := RX4) (T := TX4) (N := 8) (j := 7) (v := .ref (gA G (3, 4, 0))) (k_1 1 (by decide) (by decide)) rfl rfl (by decide) inX4_pagesIn_RX4 kX4_pagesIn_43 rfl dX4_pagesIn_14 ?_
  refine h.cVi (pc := 17) [] (3, 4, 0) [] (m_X0_pagesOrNone hG (by decide) hw) gX4_pagesIn_X0_pagesOrNone rfl hd_X0_pagesOrNone (by decide) (k_1 5 (by decide) (by decide)) rfl rfl rfl rfl rfl (Nat.le_of_ble_eq_true rfl) dX4_pagesIn_17 (fun r17 M17 hw => ?_)
  exact hr _ _ _ _ dX4_pagesIn_20 hw
-- X4_isPageOther
theorem inX4_isPageOther_RX0 : ∀ w ∈ u_ws RX0 TX0 14, w ∈ wsX4_isPageOther := by decide +kernel
theorem inX4_isPageOther_RX3 : ∀ w ∈ u_ws RX3 TX3 9, w ∈ wsX4_isPageOther := by decide +kernel
theorem inX4_isPageOther_RX4 : ∀ w ∈ u_ws RX4 TX4 8, w ∈ wsX4_isPageOther := by decide +kernel
theorem kX4_isPageOther_12 : Cond.fieldLink RX4 12 (TX4 0).1 (TX4 0).2.1 (TX4 0).2.2.1 ∈ wsX4_isPageOther := by decide +kernel
theorem kX4_isPageOther_34 : Cond.fieldLink RX4 34 (TX4 5).1 (TX4 5).2.1 (TX4 5).2.2.1 ∈ wsX4_isPageOther := by decide +kernel
abbrev F_X4_isPageOther : Nat := 2
abbrev L_X4_isPageOther : Nat := 45
theorem hd_X4_isPageOther : yX4_isPageOther.cls = RX4 ∧ yX4_isPageOther.cls ≠ "java/lang/invoke/MethodHandle" ∧ yX4_isPageOther.cls ≠ "java/lang/invoke/VarHandle" ∧ (parseMethodDescriptor yX4_isPageOther.desc).map (fun d => d.parameters.length) = some 3 := by decide +kernel
def wp_X4_isPageOther_L35 (o1 : Nat) (o2 : Nat) (v3 : Int32)  (X : Mem → Prop) (Q : Int32 → Mem → Prop) : Nat → Int32 → Mem → Prop
  | 0, _, _ => False
  | n + 1, v4, M => (((M 1 0 0 0) ≤ v4 → X M) ∧ (¬ ((M 1 0 0 0) ≤ v4) → (wp_X0_carriedOn o1 0 v3 v4 M (fun r55 M55 => (wp_X0_carriedOn o2 1 v3 v4 M55 (fun r66 M66 => ((r55 = r66 → (wp_X4_isPageOther_L35 o1 o2 v3 X Q n) (v4 + 1) M66) ∧ (¬ (r55 = r66) → Q 1 M66))))))))
set_option maxHeartbeats 4000000 in
set_option maxRecDepth 100000 in
theorem l_X4_isPageOther_L35 {l : Launch} {G : GG} {Z : ZT} (h : AX l G cX4_isPageOther 5 RX4 wsX4_isPageOther F_X4_isPageOther L_X4_isPageOther Z) (hG : GoodG G) {Q : Int32 → Mem → Prop} (hr : RETz cX4_isPageOther Q Z) (o1 : Nat) (o2 : Nat) (v3 : Int32) (ho1 : o1 < 5) (ho2 : o2 < 5)   (X : Mem → Prop) (hX : ∀  (M : Mem), X  M → Z 80 [] [] M) : ∀ (n : Nat) (v4 : Int32) (M : Mem), wp_X4_isPageOther_L35 o1 o2 v3 X Q n v4 M → Z 35 [(0, .ref (gA G (0, 0, 0))), (1, .ref (gA G (3, o1, 0))), (2, .ref (gA G (3, o2, 0))), (3, .int v3), (4, .int v4)] [] M := by
  intro n
  induction n with
  | zero => intro v4 M hw; exact hw.elim
  | succ n ih =>
    intro v4 M hw
    unfold wp_X4_isPageOther_L35 at hw
    refine h.iload (pc := 35) dX4_isPageOther_35 4 rfl ?_
    refine h.aload_n (pc := 37) dX4_isPageOther_37 rfl 0 rfl ?_
    refine h.getf (pc := 38) (f := 0) (o := 0) (i := 0) (ci := 4) (C := RX4) (T := TX4) (N := 8) (j := 0) (v := .ref (gA G (1, 0, 0))) (k_1 1 (by decide) (by decide)) rfl rfl (by decide) inX4_isPageOther_RX4 kX4_isPageOther_12 rfl dX4_isPageOther_38 ?_
    refine h.getN (pc := 41) (f := 1) (o := 0) (i := 0) (ci := 3) (C := RX3) (T := TX3) (N := 9) (j := 0) (v := .int (M 1 0 0 0)) (k_1 2 (by decide) (by decide)) rfl rfl (by decide) inX4_isPageOther_RX3 (own0 := RX4) (host := "TableWright") rfl nw_19 rfl dX4_isPageOther_41 ?_
    refine h.icmp_ge (pc := 44) 80 dX4_isPageOther_44 (by decide) (fun c44 => ?_) (fun c44 => ?_)
    · replace hw := hw.1 c44
      refine h.sub (pc := 80) [] (lv' := []) rfl ?_
      exact hX M hw
    · replace hw := hw.2 c44
      refine h.aload_n (pc := 47) dX4_isPageOther_47 rfl 1 rfl ?_
      refine h.aload_n (pc := 48) dX4_isPageOther_48 rfl 0 rfl ?_
      refine h.getf (pc := 49) (f := 0) (o := 0) (i := 0) (ci := 4) (C := RX4) (T := TX4) (N := 8) (j := 0) (v := .ref (gA G (1, 0, 0))) (k_1 1 (by decide) (by decide)) rfl rfl (by decide) inX4_isPageOther_RX4 kX4_isPageOther_12 rfl dX4_isPageOther_49 ?_
      refine h.iload_n (pc := 52) dX4_isPageOther_52 rfl 3 rfl ?_
      refine h.iload (pc := 53) dX4_isPageOther_53 4 rfl ?_
      refine h.cVi (pc := 55) [.ref (gA G (1, 0, 0)), .int v3, .int v4] (3, o1, 0) [] (m_X0_carriedOn hG ho1 (by decide) hw) gX4_isPageOther_X0_carriedOn rfl hd_X0_carriedOn (by decide) (k_1 5 (by decide) ho1) rfl rfl rfl rfl rfl (Nat.le_of_ble_eq_true rfl) dX4_isPageOther_55 (fun r55 M55 hw => ?_)
      refine h.aload_n (pc := 58) dX4_isPageOther_58 rfl 2 rfl ?_
      refine h.aload_n (pc := 59) dX4_isPageOther_59 rfl 0 rfl ?_
      refine h.getf (pc := 60) (f := 0) (o := 0) (i := 0) (ci := 4) (C := RX4) (T := TX4) (N := 8) (j := 5) (v := .ref (gA G (1, 1, 0))) (k_1 1 (by decide) (by decide)) rfl rfl (by decide) inX4_isPageOther_RX4 kX4_isPageOther_34 rfl dX4_isPageOther_60 ?_
      refine h.iload_n (pc := 63) dX4_isPageOther_63 rfl 3 rfl ?_
      refine h.iload (pc := 64) dX4_isPageOther_64 4 rfl ?_
      refine h.cVi (pc := 66) [.ref (gA G (1, 1, 0)), .int v3, .int v4] (3, o2, 0) [.int r55] (m_X0_carriedOn hG ho2 (by decide) hw) gX4_isPageOther_X0_carriedOn rfl hd_X0_carriedOn (by decide) (k_1 5 (by decide) ho2) rfl rfl rfl rfl rfl (Nat.le_of_ble_eq_true rfl) dX4_isPageOther_66 (fun r66 M66 hw => ?_)
      refine h.icmp_eq (pc := 69) 74 dX4_isPageOther_69 (by decide) (fun c69 => ?_) (fun c69 => ?_)
      · replace hw := hw.1 c69
        refine h.iinc (pc := 74) [(4, .int (v4 + 1)), (0, .ref (gA G (0, 0, 0))), (1, .ref (gA G (3, o1, 0))), (2, .ref (gA G (3, o2, 0))), (3, .int v3)] dX4_isPageOther_74 4 rfl (inc_ (by decide)) (by decide) rfl ?_
        refine h.goto (pc := 77) 35 dX4_isPageOther_77 (by decide) ?_
        refine h.sub (pc := 35) [1, 2, 3, 4, 0] (lv' := [(0, .ref (gA G (0, 0, 0))), (1, .ref (gA G (3, o1, 0))), (2, .ref (gA G (3, o2, 0))), (3, .int v3), (4, .int (v4 + 1))]) rfl ?_
        exact ih (v4 + 1) M66 hw
      · replace hw := hw.2 c69
        refine h.iconst (pc := 72) (v := 1) dX4_isPageOther_72 (by decide) ?_
        exact hr _ _ _ _ dX4_isPageOther_73 zb_1 hw
def wp_X4_isPageOther (o1 : Nat) (o2 : Nat) (v3 : Int32) (M : Mem) (Q : Int32 → Mem → Prop) : Prop := (vp_in v3 60 ∧ (vp_in v3 60 ∧ (((M 22 o1 0 v3.toNatClampNeg) = (M 22 o2 0 v3.toNatClampNeg) → (vp_in v3 60 ∧ (vp_in v3 60 ∧ (((M 23 o1 0 v3.toNatClampNeg) = (M 23 o2 0 v3.toNatClampNeg) → ∃ n35, wp_X4_isPageOther_L35 o1 o2 v3 (fun M => Q 0 M) Q n35 0 M) ∧ (¬ ((M 23 o1 0 v3.toNatClampNeg) = (M 23 o2 0 v3.toNatClampNeg)) → Q 1 M))))) ∧ (¬ ((M 22 o1 0 v3.toNatClampNeg) = (M 22 o2 0 v3.toNatClampNeg)) → Q 1 M))))
set_option maxHeartbeats 4000000 in
set_option maxRecDepth 100000 in
theorem m_X4_isPageOther {l : Launch} {G : GG} (hG : GoodG G) {o1 : Nat} {o2 : Nat} {v3 : Int32}  {M : Mem} {Q : Int32 → Mem → Prop} (ho1 : o1 < 5) (ho2 : o2 < 5) (hw : wp_X4_isPageOther o1 o2 v3 M Q) : CTi l G yX4_isPageOther wsX4_isPageOther F_X4_isPageOther L_X4_isPageOther [.ref (gA G (0, 0, 0)), .ref (gA G (3, o1, 0)), .ref (gA G (3, o2, 0)), .int v3] M Q := by
  refine CTz_mk hG (by decide +kernel) rfl (Nat.le_of_ble_eq_true rfl) (fun Z (h : AX l G cX4_isPageOther 5 RX4 wsX4_isPageOther F_X4_isPageOther L_X4_isPageOther Z) hr => ?_)
  show Z 0 [(0, .ref (gA G (0, 0, 0))), (1, .ref (gA G (3, o1, 0))), (2, .ref (gA G (3, o2, 0))), (3, .int v3)] [] M
  unfold wp_X4_isPageOther at hw
  refine h.aload_n (pc := 0) dX4_isPageOther_0 rfl 1 rfl ?_
  refine h.getN (pc := 1) (f := 3) (o := o1) (i := 0) (ci := 0) (C := RX0) (T := TX0) (N := 14) (j := 7) (v := .ref (gA G (22, o1, 0))) (k_1 5 (by decide) ho1) rfl rfl (by decide) inX4_isPageOther_RX0 (own0 := RX4) (host := "TableWright") rfl nw_38 rfl dX4_isPageOther_1 ?_
  refine h.iload_n (pc := 4) dX4_isPageOther_4 rfl 3 rfl ?_
  obtain ⟨hj5, hw⟩ := hw
  refine h.iald (pc := 5) (f := 22) (o := o1) (i := 0) (n := 60) (k_1 5 (by decide) ho1) (fun _ => rfl) hj5 dX4_isPageOther_5 ?_
  refine h.aload_n (pc := 6) dX4_isPageOther_6 rfl 2 rfl ?_
  refine h.getN (pc := 7) (f := 3) (o := o2) (i := 0) (ci := 0) (C := RX0) (T := TX0) (N := 14) (j := 7) (v := .ref (gA G (22, o2, 0))) (k_1 5 (by decide) ho2) rfl rfl (by decide) inX4_isPageOther_RX0 (own0 := RX4) (host := "TableWright") rfl nw_38 rfl dX4_isPageOther_7 ?_
  refine h.iload_n (pc := 10) dX4_isPageOther_10 rfl 3 rfl ?_
  obtain ⟨hj11, hw⟩ := hw
  refine h.iald (pc := 11) (f := 22) (o := o2) (i := 0) (n := 60) (k_1 5 (by decide) ho2) (fun _ => rfl) hj11 dX4_isPageOther_11 ?_
  refine h.icmp_ne (pc := 12) 30 dX4_isPageOther_12 (by decide) (fun c12 => ?_) (fun c12 => ?_)
  · replace hw := hw.2 c12
    refine h.iconst (pc := 30) (v := 1) dX4_isPageOther_30 (by decide) ?_
    exact hr _ _ _ _ dX4_isPageOther_31 zb_1 hw
  · replace hw := hw.1 c12
    refine h.aload_n (pc := 15) dX4_isPageOther_15 rfl 1 rfl ?_
    refine h.getN (pc := 16) (f := 3) (o := o1) (i := 0) (ci := 0) (C := RX0) (T := TX0) (N := 14) (j := 8) (v := .ref (gA G (23, o1, 0))) (k_1 5 (by decide) ho1) rfl rfl (by decide) inX4_isPageOther_RX0 (own0 := RX4) (host := "TableWright") rfl nw_39 rfl dX4_isPageOther_16 ?_
    refine h.iload_n (pc := 19) dX4_isPageOther_19 rfl 3 rfl ?_
    obtain ⟨hj20, hw⟩ := hw
    refine h.iald (pc := 20) (f := 23) (o := o1) (i := 0) (n := 60) (k_1 5 (by decide) ho1) (fun _ => rfl) hj20 dX4_isPageOther_20 ?_
    refine h.aload_n (pc := 21) dX4_isPageOther_21 rfl 2 rfl ?_
    refine h.getN (pc := 22) (f := 3) (o := o2) (i := 0) (ci := 0) (C := RX0) (T := TX0) (N := 14) (j := 8) (v := .ref (gA G (23, o2, 0))) (k_1 5 (by decide) ho2) rfl rfl (by decide) inX4_isPageOther_RX0 (own0 := RX4) (host := "TableWright") rfl nw_39 rfl dX4_isPageOther_22 ?_
    refine h.iload_n (pc := 25) dX4_isPageOther_25 rfl 3 rfl ?_
    obtain ⟨hj26, hw⟩ := hw
    refine h.iald (pc := 26) (f := 23) (o := o2) (i := 0) (n := 60) (k_1 5 (by decide) ho2) (fun _ => rfl) hj26 dX4_isPageOther_26 ?_
    refine h.icmp_eq (pc := 27) 32 dX4_isPageOther_27 (by decide) (fun c27 => ?_) (fun c27 => ?_)
    · replace hw := hw.1 c27
      refine h.iconst (pc := 32) (v := 0) dX4_isPageOther_32 (by decide) ?_
      refine h.istore (pc := 33) [(4, .int 0), (0, .ref (gA G (0, 0, 0))), (1, .ref (gA G (3, o1, 0))), (2, .ref (gA G (3, o2, 0))), (3, .int v3)] dX4_isPageOther_33 (by decide) rfl ?_
      refine h.sub (pc := 35) [1, 2, 3, 4, 0] (lv' := [(0, .ref (gA G (0, 0, 0))), (1, .ref (gA G (3, o1, 0))), (2, .ref (gA G (3, o2, 0))), (3, .int v3), (4, .int 0)]) rfl ?_
      obtain ⟨n35, hw⟩ := hw
      exact l_X4_isPageOther_L35 h hG hr o1 o2 v3 ho1 ho2 _ (fun M hw => by
          refine h.iconst (pc := 80) (v := 0) dX4_isPageOther_80 (by decide) ?_
          exact hr _ _ _ _ dX4_isPageOther_81 zb_0 hw) n35 0 M hw
    · replace hw := hw.2 c27
      refine h.iconst (pc := 30) (v := 1) dX4_isPageOther_30 (by decide) ?_
      exact hr _ _ _ _ dX4_isPageOther_31 zb_1 hw
-- X4_factOfTable
theorem inX4_factOfTable_RX0 : ∀ w ∈ u_ws RX0 TX0 14, w ∈ wsX4_factOfTable := by decide +kernel
theorem inX4_factOfTable_RX2 : ∀ w ∈ u_ws RX2 TX2 3, w ∈ wsX4_factOfTable := by decide +kernel
theorem inX4_factOfTable_RX3 : ∀ w ∈ u_ws RX3 TX3 9, w ∈ wsX4_factOfTable := by decide +kernel
theorem inX4_factOfTable_RX4 : ∀ w ∈ u_ws RX4 TX4 8, w ∈ wsX4_factOfTable := by decide +kernel
theorem kX4_factOfTable_19 : Cond.fieldLink RX4 19 (TX4 1).1 (TX4 1).2.1 (TX4 1).2.2.1 ∈ wsX4_factOfTable := by decide +kernel
theorem kX4_factOfTable_12 : Cond.fieldLink RX4 12 (TX4 0).1 (TX4 0).2.1 (TX4 0).2.2.1 ∈ wsX4_factOfTable := by decide +kernel
abbrev F_X4_factOfTable : Nat := 1
abbrev L_X4_factOfTable : Nat := 23
theorem hd_X4_factOfTable : yX4_factOfTable.cls = RX4 ∧ yX4_factOfTable.cls ≠ "java/lang/invoke/MethodHandle" ∧ yX4_factOfTable.cls ≠ "java/lang/invoke/VarHandle" ∧ (parseMethodDescriptor yX4_factOfTable.desc).map (fun d => d.parameters.length) = some 1 := by decide +kernel
def wp_X4_factOfTable (v1 : Int32) (M : Mem) (Q : Int32 → Mem → Prop) : Prop := (wp_X2_chosen 0 M (fun r4 M4 => ((v1 = 0 → Q (M4 1 0 0 0) M4) ∧ (v1 = 1 → Q (M4 1 0 0 5) M4) ∧ (v1 = 2 → (wp_X0_pagesOrNone r4 M4 (fun r73 M73 => Q r73 M73))) ∧ (v1 = 3 → (((M4 3 r4 0 0) = 0 → Q (-1) M4) ∧ (¬ ((M4 3 r4 0 0) = 0) → (((M4 2 0 0 2) = 0 → Q 0 M4) ∧ (¬ ((M4 2 0 0 2) = 0) → Q 1 M4))))) ∧ (v1 = 4 → (((M4 3 r4 0 0) = 0 → Q (-1) M4) ∧ (¬ ((M4 3 r4 0 0) = 0) → (wp_X0_tableWidth r4 0 M4 (fun r116 M116 => Q r116 M116))))) ∧ (v1 = 5 → (((M4 3 r4 0 0) = 0 → Q (-1) M4) ∧ (¬ ((M4 3 r4 0 0) = 0) → (wp_X0_heightOfRows r4 0 M4 (fun r136 M136 => Q r136 M136))))) ∧ (v1 = 6 → (wp_X3_linesOfNotes 0 M4 (fun r148 M148 => Q r148 M148))) ∧ (v1 = 7 → (((M4 3 r4 0 0) = 0 → Q (-1) M4) ∧ (¬ ((M4 3 r4 0 0) = 0) → (wp_X0_notesElsewhere r4 0 M4 (fun r164 M164 => Q r164 M164))))) ∧ (¬ v1 = 0 → ¬ v1 = 1 → ¬ v1 = 2 → ¬ v1 = 3 → ¬ v1 = 4 → ¬ v1 = 5 → ¬ v1 = 6 → ¬ v1 = 7 → Q (-1) M4))))
set_option maxHeartbeats 4000000 in
set_option maxRecDepth 100000 in
theorem m_X4_factOfTable {l : Launch} {G : GG} (hG : GoodG G) {v1 : Int32}  {M : Mem} {Q : Int32 → Mem → Prop}  (hw : wp_X4_factOfTable v1 M Q) : CTi l G yX4_factOfTable wsX4_factOfTable F_X4_factOfTable L_X4_factOfTable [.ref (gA G (0, 0, 0)), .int v1] M Q := by
  refine CTi_mk hG (by decide +kernel) rfl (Nat.le_of_ble_eq_true rfl) (fun Z (h : AX l G cX4_factOfTable 3 RX4 wsX4_factOfTable F_X4_factOfTable L_X4_factOfTable Z) hr => ?_)
  show Z 0 [(0, .ref (gA G (0, 0, 0))), (1, .int v1)] [] M
  unfold wp_X4_factOfTable at hw
  refine h.aload_n (pc := 0) dX4_factOfTable_0 rfl 0 rfl ?_
  refine h.getf (pc := 1) (f := 0) (o := 0) (i := 0) (ci := 4) (C := RX4) (T := TX4) (N := 8) (j := 1) (v := .ref (gA G (2, 0, 0))) (k_1 1 (by decide) (by decide)) rfl rfl (by decide) inX4_factOfTable_RX4 kX4_factOfTable_19 rfl dX4_factOfTable_1 ?_
  refine h.cVr (pc := 4) [] (2, 0, 0) [] (m_X2_chosen hG (by decide) hw) gX4_factOfTable_X2_chosen rfl hd_X2_chosen (by decide) (k_1 2 (by decide) (by decide)) rfl rfl rfl rfl rfl (Nat.le_of_ble_eq_true rfl) dX4_factOfTable_4 (fun r4 M4 h5_4 hw => ?_)
  refine h.astore_n (pc := 7) [(2, .ref (gA G (3, r4, 0))), (0, .ref (gA G (0, 0, 0))), (1, .int v1)] dX4_factOfTable_7 rfl (by decide) rfl ?_
  refine h.iload_n (pc := 8) dX4_factOfTable_8 rfl 2 rfl ?_
  by_cases s9_0 : v1 = 0
  · replace hw := hw.1 s9_0
    refine h.tsw (pc := 9) (o := 47) 56 dX4_factOfTable_9 (by rw [s9_0]; decide) (by rw [s9_0]; decide) (by rw [s9_0]; rfl) (by decide) ?_
    refine h.aload_n (pc := 56) dX4_factOfTable_56 rfl 1 rfl ?_
    refine h.getf (pc := 57) (f := 0) (o := 0) (i := 0) (ci := 4) (C := RX4) (T := TX4) (N := 8) (j := 0) (v := .ref (gA G (1, 0, 0))) (k_1 1 (by decide) (by decide)) rfl rfl (by decide) inX4_factOfTable_RX4 kX4_factOfTable_12 rfl dX4_factOfTable_57 ?_
    refine h.getN (pc := 60) (f := 1) (o := 0) (i := 0) (ci := 3) (C := RX3) (T := TX3) (N := 9) (j := 0) (v := .int (M4 1 0 0 0)) (k_1 2 (by decide) (by decide)) rfl rfl (by decide) inX4_factOfTable_RX3 (own0 := RX4) (host := "TableWright") rfl nw_19 rfl dX4_factOfTable_60 ?_
    exact hr _ _ _ _ dX4_factOfTable_63 hw
  replace hw := hw.2
  by_cases s9_1 : v1 = 1
  · replace hw := hw.1 s9_1
    refine h.tsw (pc := 9) (o := 55) 64 dX4_factOfTable_9 (by rw [s9_1]; decide) (by rw [s9_1]; decide) (by rw [s9_1]; rfl) (by decide) ?_
    refine h.aload_n (pc := 64) dX4_factOfTable_64 rfl 1 rfl ?_
    refine h.getf (pc := 65) (f := 0) (o := 0) (i := 0) (ci := 4) (C := RX4) (T := TX4) (N := 8) (j := 0) (v := .ref (gA G (1, 0, 0))) (k_1 1 (by decide) (by decide)) rfl rfl (by decide) inX4_factOfTable_RX4 kX4_factOfTable_12 rfl dX4_factOfTable_65 ?_
    refine h.getN (pc := 68) (f := 1) (o := 0) (i := 0) (ci := 3) (C := RX3) (T := TX3) (N := 9) (j := 5) (v := .int (M4 1 0 0 5)) (k_1 2 (by decide) (by decide)) rfl rfl (by decide) inX4_factOfTable_RX3 (own0 := RX4) (host := "TableWright") rfl nw_23 rfl dX4_factOfTable_68 ?_
    exact hr _ _ _ _ dX4_factOfTable_71 hw
  replace hw := hw.2
  by_cases s9_2 : v1 = 2
  · replace hw := hw.1 s9_2
    refine h.tsw (pc := 9) (o := 63) 72 dX4_factOfTable_9 (by rw [s9_2]; decide) (by rw [s9_2]; decide) (by rw [s9_2]; rfl) (by decide) ?_
    refine h.aload_n (pc := 72) dX4_factOfTable_72 rfl 0 rfl ?_
    refine h.cVi (pc := 73) [] (3, r4, 0) [] (m_X0_pagesOrNone hG h5_4 hw) gX4_factOfTable_X0_pagesOrNone rfl hd_X0_pagesOrNone (by decide) (k_1 5 (by decide) h5_4) rfl rfl rfl rfl rfl (Nat.le_of_ble_eq_true rfl) dX4_factOfTable_73 (fun r73 M73 hw => ?_)
    exact hr _ _ _ _ dX4_factOfTable_76 hw
  replace hw := hw.2
  by_cases s9_3 : v1 = 3
  · replace hw := hw.1 s9_3
    refine h.tsw (pc := 9) (o := 68) 77 dX4_factOfTable_9 (by rw [s9_3]; decide) (by rw [s9_3]; decide) (by rw [s9_3]; rfl) (by decide) ?_
    refine h.aload_n (pc := 77) dX4_factOfTable_77 rfl 0 rfl ?_
    refine h.getN (pc := 78) (f := 3) (o := r4) (i := 0) (ci := 0) (C := RX0) (T := TX0) (N := 14) (j := 0) (v := .int (M4 3 r4 0 0)) (k_1 5 (by decide) h5_4) rfl rfl (by decide) inX4_factOfTable_RX0 (own0 := RX4) (host := "TableWright") rfl nw_31 rfl dX4_factOfTable_78 ?_
    refine h.if_eq (pc := 81) 102 dX4_factOfTable_81 (by decide) (fun c81 => ?_) (fun c81 => ?_)
    · replace hw := hw.1 c81
      refine h.iconst (pc := 102) (v := (-1)) dX4_factOfTable_102 (by decide) ?_
      exact hr _ _ _ _ dX4_factOfTable_103 hw
    · replace hw := hw.2 c81
      refine h.aload_n (pc := 84) dX4_factOfTable_84 rfl 1 rfl ?_
      refine h.getf (pc := 85) (f := 0) (o := 0) (i := 0) (ci := 4) (C := RX4) (T := TX4) (N := 8) (j := 1) (v := .ref (gA G (2, 0, 0))) (k_1 1 (by decide) (by decide)) rfl rfl (by decide) inX4_factOfTable_RX4 kX4_factOfTable_19 rfl dX4_factOfTable_85 ?_
      refine h.getN (pc := 88) (f := 2) (o := 0) (i := 0) (ci := 2) (C := RX2) (T := TX2) (N := 3) (j := 2) (v := .int (M4 2 0 0 2)) (k_1 2 (by decide) (by decide)) rfl rfl (by decide) inX4_factOfTable_RX2 (own0 := RX4) (host := "TableWright") rfl nw_42 rfl dX4_factOfTable_88 ?_
      refine h.if_eq (pc := 91) 98 dX4_factOfTable_91 (by decide) (fun c91 => ?_) (fun c91 => ?_)
      · replace hw := hw.1 c91
        refine h.iconst (pc := 98) (v := 0) dX4_factOfTable_98 (by decide) ?_
        refine h.goto (pc := 99) 103 dX4_factOfTable_99 (by decide) ?_
        exact hr _ _ _ _ dX4_factOfTable_103 hw
      · replace hw := hw.2 c91
        refine h.iconst (pc := 94) (v := 1) dX4_factOfTable_94 (by decide) ?_
        refine h.goto (pc := 95) 103 dX4_factOfTable_95 (by decide) ?_
        exact hr _ _ _ _ dX4_factOfTable_103 hw
  replace hw := hw.2
  by_cases s9_4 : v1 = 4
  · replace hw := hw.1 s9_4
    refine h.tsw (pc := 9) (o := 95) 104 dX4_factOfTable_9 (by rw [s9_4]; decide) (by rw [s9_4]; decide) (by rw [s9_4]; rfl) (by decide) ?_
    refine h.aload_n (pc := 104) dX4_factOfTable_104 rfl 0 rfl ?_
    refine h.getN (pc := 105) (f := 3) (o := r4) (i := 0) (ci := 0) (C := RX0) (T := TX0) (N := 14) (j := 0) (v := .int (M4 3 r4 0 0)) (k_1 5 (by decide) h5_4) rfl rfl (by decide) inX4_factOfTable_RX0 (own0 := RX4) (host := "TableWright") rfl nw_31 rfl dX4_factOfTable_105 ?_
    refine h.if_eq (pc := 108) 122 dX4_factOfTable_108 (by decide) (fun c108 => ?_) (fun c108 => ?_)
    · replace hw := hw.1 c108
      refine h.iconst (pc := 122) (v := (-1)) dX4_factOfTable_122 (by decide) ?_
      exact hr _ _ _ _ dX4_factOfTable_123 hw
    · replace hw := hw.2 c108
      refine h.aload_n (pc := 111) dX4_factOfTable_111 rfl 0 rfl ?_
      refine h.aload_n (pc := 112) dX4_factOfTable_112 rfl 1 rfl ?_
      refine h.getf (pc := 113) (f := 0) (o := 0) (i := 0) (ci := 4) (C := RX4) (T := TX4) (N := 8) (j := 0) (v := .ref (gA G (1, 0, 0))) (k_1 1 (by decide) (by decide)) rfl rfl (by decide) inX4_factOfTable_RX4 kX4_factOfTable_12 rfl dX4_factOfTable_113 ?_
      refine h.cVi (pc := 116) [.ref (gA G (1, 0, 0))] (3, r4, 0) [] (m_X0_tableWidth hG h5_4 (by decide) hw) gX4_factOfTable_X0_tableWidth rfl hd_X0_tableWidth (by decide) (k_1 5 (by decide) h5_4) rfl rfl rfl rfl rfl (Nat.le_of_ble_eq_true rfl) dX4_factOfTable_116 (fun r116 M116 hw => ?_)
      refine h.goto (pc := 119) 123 dX4_factOfTable_119 (by decide) ?_
      exact hr _ _ _ _ dX4_factOfTable_123 hw
  replace hw := hw.2
  by_cases s9_5 : v1 = 5
  · replace hw := hw.1 s9_5
    refine h.tsw (pc := 9) (o := 115) 124 dX4_factOfTable_9 (by rw [s9_5]; decide) (by rw [s9_5]; decide) (by rw [s9_5]; rfl) (by decide) ?_
    refine h.aload_n (pc := 124) dX4_factOfTable_124 rfl 0 rfl ?_
    refine h.getN (pc := 125) (f := 3) (o := r4) (i := 0) (ci := 0) (C := RX0) (T := TX0) (N := 14) (j := 0) (v := .int (M4 3 r4 0 0)) (k_1 5 (by decide) h5_4) rfl rfl (by decide) inX4_factOfTable_RX0 (own0 := RX4) (host := "TableWright") rfl nw_31 rfl dX4_factOfTable_125 ?_
    refine h.if_eq (pc := 128) 142 dX4_factOfTable_128 (by decide) (fun c128 => ?_) (fun c128 => ?_)
    · replace hw := hw.1 c128
      refine h.iconst (pc := 142) (v := (-1)) dX4_factOfTable_142 (by decide) ?_
      exact hr _ _ _ _ dX4_factOfTable_143 hw
    · replace hw := hw.2 c128
      refine h.aload_n (pc := 131) dX4_factOfTable_131 rfl 0 rfl ?_
      refine h.aload_n (pc := 132) dX4_factOfTable_132 rfl 1 rfl ?_
      refine h.getf (pc := 133) (f := 0) (o := 0) (i := 0) (ci := 4) (C := RX4) (T := TX4) (N := 8) (j := 0) (v := .ref (gA G (1, 0, 0))) (k_1 1 (by decide) (by decide)) rfl rfl (by decide) inX4_factOfTable_RX4 kX4_factOfTable_12 rfl dX4_factOfTable_133 ?_
      refine h.cVi (pc := 136) [.ref (gA G (1, 0, 0))] (3, r4, 0) [] (m_X0_heightOfRows hG h5_4 (by decide) hw) gX4_factOfTable_X0_heightOfRows rfl hd_X0_heightOfRows (by decide) (k_1 5 (by decide) h5_4) rfl rfl rfl rfl rfl (Nat.le_of_ble_eq_true rfl) dX4_factOfTable_136 (fun r136 M136 hw => ?_)
      refine h.goto (pc := 139) 143 dX4_factOfTable_139 (by decide) ?_
      exact hr _ _ _ _ dX4_factOfTable_143 hw
  replace hw := hw.2
  by_cases s9_6 : v1 = 6
  · replace hw := hw.1 s9_6
    refine h.tsw (pc := 9) (o := 135) 144 dX4_factOfTable_9 (by rw [s9_6]; decide) (by rw [s9_6]; decide) (by rw [s9_6]; rfl) (by decide) ?_
    refine h.aload_n (pc := 144) dX4_factOfTable_144 rfl 1 rfl ?_
    refine h.getf (pc := 145) (f := 0) (o := 0) (i := 0) (ci := 4) (C := RX4) (T := TX4) (N := 8) (j := 0) (v := .ref (gA G (1, 0, 0))) (k_1 1 (by decide) (by decide)) rfl rfl (by decide) inX4_factOfTable_RX4 kX4_factOfTable_12 rfl dX4_factOfTable_145 ?_
    refine h.cVi (pc := 148) [] (1, 0, 0) [] (m_X3_linesOfNotes hG (by decide) hw) gX4_factOfTable_X3_linesOfNotes rfl hd_X3_linesOfNotes (by decide) (k_1 2 (by decide) (by decide)) rfl rfl rfl rfl rfl (Nat.le_of_ble_eq_true rfl) dX4_factOfTable_148 (fun r148 M148 hw => ?_)
    exact hr _ _ _ _ dX4_factOfTable_151 hw
  replace hw := hw.2
  by_cases s9_7 : v1 = 7
  · replace hw := hw.1 s9_7
    refine h.tsw (pc := 9) (o := 143) 152 dX4_factOfTable_9 (by rw [s9_7]; decide) (by rw [s9_7]; decide) (by rw [s9_7]; rfl) (by decide) ?_
    refine h.aload_n (pc := 152) dX4_factOfTable_152 rfl 0 rfl ?_
    refine h.getN (pc := 153) (f := 3) (o := r4) (i := 0) (ci := 0) (C := RX0) (T := TX0) (N := 14) (j := 0) (v := .int (M4 3 r4 0 0)) (k_1 5 (by decide) h5_4) rfl rfl (by decide) inX4_factOfTable_RX0 (own0 := RX4) (host := "TableWright") rfl nw_31 rfl dX4_factOfTable_153 ?_
    refine h.if_eq (pc := 156) 170 dX4_factOfTable_156 (by decide) (fun c156 => ?_) (fun c156 => ?_)
    · replace hw := hw.1 c156
      refine h.iconst (pc := 170) (v := (-1)) dX4_factOfTable_170 (by decide) ?_
      exact hr _ _ _ _ dX4_factOfTable_171 hw
    · replace hw := hw.2 c156
      refine h.aload_n (pc := 159) dX4_factOfTable_159 rfl 0 rfl ?_
      refine h.aload_n (pc := 160) dX4_factOfTable_160 rfl 1 rfl ?_
      refine h.getf (pc := 161) (f := 0) (o := 0) (i := 0) (ci := 4) (C := RX4) (T := TX4) (N := 8) (j := 0) (v := .ref (gA G (1, 0, 0))) (k_1 1 (by decide) (by decide)) rfl rfl (by decide) inX4_factOfTable_RX4 kX4_factOfTable_12 rfl dX4_factOfTable_161 ?_
      refine h.cVi (pc := 164) [.ref (gA G (1, 0, 0))] (3, r4, 0) [] (m_X0_notesElsewhere hG h5_4 (by decide) hw) gX4_factOfTable_X0_notesElsewhere rfl hd_X0_notesElsewhere (by decide) (k_1 5 (by decide) h5_4) rfl rfl rfl rfl rfl (Nat.le_of_ble_eq_true rfl) dX4_factOfTable_164 (fun r164 M164 hw => ?_)
      refine h.goto (pc := 167) 171 dX4_factOfTable_167 (by decide) ?_
      exact hr _ _ _ _ dX4_factOfTable_171 hw
  replace hw := hw.2
  replace hw := hw s9_0 s9_1 s9_2 s9_3 s9_4 s9_5 s9_6 s9_7
  refine h.tsd (pc := 9) 172 dX4_factOfTable_9 (tsw_out (lo := 0) (hi := 7) (fun z h1 h2 e => by
      rcases (show z = 0 ∨ z = 1 ∨ z = 2 ∨ z = 3 ∨ z = 4 ∨ z = 5 ∨ z = 6 ∨ z = 7 by omega) with rfl | rfl | rfl | rfl | rfl | rfl | rfl | rfl <;> first | exact s9_0 (Int32.toInt_inj.mp (e.trans (by decide))) | exact s9_1 (Int32.toInt_inj.mp (e.trans (by decide))) | exact s9_2 (Int32.toInt_inj.mp (e.trans (by decide))) | exact s9_3 (Int32.toInt_inj.mp (e.trans (by decide))) | exact s9_4 (Int32.toInt_inj.mp (e.trans (by decide))) | exact s9_5 (Int32.toInt_inj.mp (e.trans (by decide))) | exact s9_6 (Int32.toInt_inj.mp (e.trans (by decide))) | exact s9_7 (Int32.toInt_inj.mp (e.trans (by decide))))) (by decide) ?_
  refine h.iconst (pc := 172) (v := (-1)) dX4_factOfTable_172 (by decide) ?_
  exact hr _ _ _ _ dX4_factOfTable_173 hw
-- X4_factOfColumn
theorem inX4_factOfColumn_RX0 : ∀ w ∈ u_ws RX0 TX0 14, w ∈ wsX4_factOfColumn := by decide +kernel
theorem inX4_factOfColumn_RX3 : ∀ w ∈ u_ws RX3 TX3 9, w ∈ wsX4_factOfColumn := by decide +kernel
theorem inX4_factOfColumn_RX4 : ∀ w ∈ u_ws RX4 TX4 8, w ∈ wsX4_factOfColumn := by decide +kernel
theorem kX4_factOfColumn_19 : Cond.fieldLink RX4 19 (TX4 1).1 (TX4 1).2.1 (TX4 1).2.2.1 ∈ wsX4_factOfColumn := by decide +kernel
theorem kX4_factOfColumn_12 : Cond.fieldLink RX4 12 (TX4 0).1 (TX4 0).2.1 (TX4 0).2.2.1 ∈ wsX4_factOfColumn := by decide +kernel
abbrev F_X4_factOfColumn : Nat := 1
abbrev L_X4_factOfColumn : Nat := 22
theorem hd_X4_factOfColumn : yX4_factOfColumn.cls = RX4 ∧ yX4_factOfColumn.cls ≠ "java/lang/invoke/MethodHandle" ∧ yX4_factOfColumn.cls ≠ "java/lang/invoke/VarHandle" ∧ (parseMethodDescriptor yX4_factOfColumn.desc).map (fun d => d.parameters.length) = some 2 := by decide +kernel
def wp_X4_factOfColumn (v1 : Int32) (v2 : Int32) (M : Mem) (Q : Int32 → Mem → Prop) : Prop := (wp_X2_chosen 0 M (fun r4 M4 => ((v2 = 0 → (vp_in v1 6 ∧ Q (M4 5 0 0 v1.toNatClampNeg) M4)) ∧ (v2 = 1 → (vp_in v1 6 ∧ Q (M4 9 0 0 v1.toNatClampNeg) M4)) ∧ (v2 = 2 → (vp_in v1 6 ∧ Q (M4 10 0 0 v1.toNatClampNeg) M4)) ∧ (v2 = 3 → (((M4 3 r4 0 0) = 0 → Q (-1) M4) ∧ (¬ ((M4 3 r4 0 0) = 0) → (vp_in v1 6 ∧ Q (M4 18 r4 0 v1.toNatClampNeg) M4)))) ∧ (v2 = 4 → (wp_X3_sumUpTo 0 ((M4 1 0 0 5) - 1) v1 M4 (fun r106 M106 => Q r106 M106))) ∧ (¬ v2 = 0 → ¬ v2 = 1 → ¬ v2 = 2 → ¬ v2 = 3 → ¬ v2 = 4 → Q (-1) M4))))
set_option maxHeartbeats 4000000 in
set_option maxRecDepth 100000 in
theorem m_X4_factOfColumn {l : Launch} {G : GG} (hG : GoodG G) {v1 : Int32} {v2 : Int32}  {M : Mem} {Q : Int32 → Mem → Prop}  (hw : wp_X4_factOfColumn v1 v2 M Q) : CTi l G yX4_factOfColumn wsX4_factOfColumn F_X4_factOfColumn L_X4_factOfColumn [.ref (gA G (0, 0, 0)), .int v1, .int v2] M Q := by
  refine CTi_mk hG (by decide +kernel) rfl (Nat.le_of_ble_eq_true rfl) (fun Z (h : AX l G cX4_factOfColumn 4 RX4 wsX4_factOfColumn F_X4_factOfColumn L_X4_factOfColumn Z) hr => ?_)
  show Z 0 [(0, .ref (gA G (0, 0, 0))), (1, .int v1), (2, .int v2)] [] M
  unfold wp_X4_factOfColumn at hw
  refine h.aload_n (pc := 0) dX4_factOfColumn_0 rfl 0 rfl ?_
  refine h.getf (pc := 1) (f := 0) (o := 0) (i := 0) (ci := 4) (C := RX4) (T := TX4) (N := 8) (j := 1) (v := .ref (gA G (2, 0, 0))) (k_1 1 (by decide) (by decide)) rfl rfl (by decide) inX4_factOfColumn_RX4 kX4_factOfColumn_19 rfl dX4_factOfColumn_1 ?_
  refine h.cVr (pc := 4) [] (2, 0, 0) [] (m_X2_chosen hG (by decide) hw) gX4_factOfColumn_X2_chosen rfl hd_X2_chosen (by decide) (k_1 2 (by decide) (by decide)) rfl rfl rfl rfl rfl (Nat.le_of_ble_eq_true rfl) dX4_factOfColumn_4 (fun r4 M4 h5_4 hw => ?_)
  refine h.astore_n (pc := 7) [(3, .ref (gA G (3, r4, 0))), (0, .ref (gA G (0, 0, 0))), (1, .int v1), (2, .int v2)] dX4_factOfColumn_7 rfl (by decide) rfl ?_
  refine h.iload_n (pc := 8) dX4_factOfColumn_8 rfl 3 rfl ?_
  by_cases s9_0 : v2 = 0
  · replace hw := hw.1 s9_0
    refine h.tsw (pc := 9) (o := 35) 44 dX4_factOfColumn_9 (by rw [s9_0]; decide) (by rw [s9_0]; decide) (by rw [s9_0]; rfl) (by decide) ?_
    refine h.aload_n (pc := 44) dX4_factOfColumn_44 rfl 1 rfl ?_
    refine h.getf (pc := 45) (f := 0) (o := 0) (i := 0) (ci := 4) (C := RX4) (T := TX4) (N := 8) (j := 0) (v := .ref (gA G (1, 0, 0))) (k_1 1 (by decide) (by decide)) rfl rfl (by decide) inX4_factOfColumn_RX4 kX4_factOfColumn_12 rfl dX4_factOfColumn_45 ?_
    refine h.getN (pc := 48) (f := 1) (o := 0) (i := 0) (ci := 3) (C := RX3) (T := TX3) (N := 9) (j := 1) (v := .ref (gA G (5, 0, 0))) (k_1 2 (by decide) (by decide)) rfl rfl (by decide) inX4_factOfColumn_RX3 (own0 := RX4) (host := "TableWright") rfl nw_21 rfl dX4_factOfColumn_48 ?_
    refine h.iload_n (pc := 51) dX4_factOfColumn_51 rfl 2 rfl ?_
    obtain ⟨hj52, hw⟩ := hw
    refine h.iald (pc := 52) (f := 5) (o := 0) (i := 0) (n := 6) (k_1 2 (by decide) (by decide)) (fun _ => rfl) hj52 dX4_factOfColumn_52 ?_
    exact hr _ _ _ _ dX4_factOfColumn_53 hw
  replace hw := hw.2
  by_cases s9_1 : v2 = 1
  · replace hw := hw.1 s9_1
    refine h.tsw (pc := 9) (o := 45) 54 dX4_factOfColumn_9 (by rw [s9_1]; decide) (by rw [s9_1]; decide) (by rw [s9_1]; rfl) (by decide) ?_
    refine h.aload_n (pc := 54) dX4_factOfColumn_54 rfl 1 rfl ?_
    refine h.getf (pc := 55) (f := 0) (o := 0) (i := 0) (ci := 4) (C := RX4) (T := TX4) (N := 8) (j := 0) (v := .ref (gA G (1, 0, 0))) (k_1 1 (by decide) (by decide)) rfl rfl (by decide) inX4_factOfColumn_RX4 kX4_factOfColumn_12 rfl dX4_factOfColumn_55 ?_
    refine h.getN (pc := 58) (f := 1) (o := 0) (i := 0) (ci := 3) (C := RX3) (T := TX3) (N := 9) (j := 7) (v := .ref (gA G (9, 0, 0))) (k_1 2 (by decide) (by decide)) rfl rfl (by decide) inX4_factOfColumn_RX3 (own0 := RX4) (host := "TableWright") rfl nw_27 rfl dX4_factOfColumn_58 ?_
    refine h.iload_n (pc := 61) dX4_factOfColumn_61 rfl 2 rfl ?_
    obtain ⟨hj62, hw⟩ := hw
    refine h.iald (pc := 62) (f := 9) (o := 0) (i := 0) (n := 6) (k_1 2 (by decide) (by decide)) (fun _ => rfl) hj62 dX4_factOfColumn_62 ?_
    exact hr _ _ _ _ dX4_factOfColumn_63 hw
  replace hw := hw.2
  by_cases s9_2 : v2 = 2
  · replace hw := hw.1 s9_2
    refine h.tsw (pc := 9) (o := 55) 64 dX4_factOfColumn_9 (by rw [s9_2]; decide) (by rw [s9_2]; decide) (by rw [s9_2]; rfl) (by decide) ?_
    refine h.aload_n (pc := 64) dX4_factOfColumn_64 rfl 1 rfl ?_
    refine h.getf (pc := 65) (f := 0) (o := 0) (i := 0) (ci := 4) (C := RX4) (T := TX4) (N := 8) (j := 0) (v := .ref (gA G (1, 0, 0))) (k_1 1 (by decide) (by decide)) rfl rfl (by decide) inX4_factOfColumn_RX4 kX4_factOfColumn_12 rfl dX4_factOfColumn_65 ?_
    refine h.getN (pc := 68) (f := 1) (o := 0) (i := 0) (ci := 3) (C := RX3) (T := TX3) (N := 9) (j := 8) (v := .ref (gA G (10, 0, 0))) (k_1 2 (by decide) (by decide)) rfl rfl (by decide) inX4_factOfColumn_RX3 (own0 := RX4) (host := "TableWright") rfl nw_29 rfl dX4_factOfColumn_68 ?_
    refine h.iload_n (pc := 71) dX4_factOfColumn_71 rfl 2 rfl ?_
    obtain ⟨hj72, hw⟩ := hw
    refine h.iald (pc := 72) (f := 10) (o := 0) (i := 0) (n := 6) (k_1 2 (by decide) (by decide)) (fun _ => rfl) hj72 dX4_factOfColumn_72 ?_
    exact hr _ _ _ _ dX4_factOfColumn_73 hw
  replace hw := hw.2
  by_cases s9_3 : v2 = 3
  · replace hw := hw.1 s9_3
    refine h.tsw (pc := 9) (o := 65) 74 dX4_factOfColumn_9 (by rw [s9_3]; decide) (by rw [s9_3]; decide) (by rw [s9_3]; rfl) (by decide) ?_
    refine h.aload_n (pc := 74) dX4_factOfColumn_74 rfl 0 rfl ?_
    refine h.getN (pc := 75) (f := 3) (o := r4) (i := 0) (ci := 0) (C := RX0) (T := TX0) (N := 14) (j := 0) (v := .int (M4 3 r4 0 0)) (k_1 5 (by decide) h5_4) rfl rfl (by decide) inX4_factOfColumn_RX0 (own0 := RX4) (host := "TableWright") rfl nw_31 rfl dX4_factOfColumn_75 ?_
    refine h.if_eq (pc := 78) 90 dX4_factOfColumn_78 (by decide) (fun c78 => ?_) (fun c78 => ?_)
    · replace hw := hw.1 c78
      refine h.iconst (pc := 90) (v := (-1)) dX4_factOfColumn_90 (by decide) ?_
      exact hr _ _ _ _ dX4_factOfColumn_91 hw
    · replace hw := hw.2 c78
      refine h.aload_n (pc := 81) dX4_factOfColumn_81 rfl 0 rfl ?_
      refine h.getN (pc := 82) (f := 3) (o := r4) (i := 0) (ci := 0) (C := RX0) (T := TX0) (N := 14) (j := 2) (v := .ref (gA G (18, r4, 0))) (k_1 5 (by decide) h5_4) rfl rfl (by decide) inX4_factOfColumn_RX0 (own0 := RX4) (host := "TableWright") rfl nw_32 rfl dX4_factOfColumn_82 ?_
      refine h.iload_n (pc := 85) dX4_factOfColumn_85 rfl 2 rfl ?_
      obtain ⟨hj86, hw⟩ := hw
      refine h.iald (pc := 86) (f := 18) (o := r4) (i := 0) (n := 6) (k_1 5 (by decide) h5_4) (fun _ => rfl) hj86 dX4_factOfColumn_86 ?_
      refine h.goto (pc := 87) 91 dX4_factOfColumn_87 (by decide) ?_
      exact hr _ _ _ _ dX4_factOfColumn_91 hw
  replace hw := hw.2
  by_cases s9_4 : v2 = 4
  · replace hw := hw.1 s9_4
    refine h.tsw (pc := 9) (o := 83) 92 dX4_factOfColumn_9 (by rw [s9_4]; decide) (by rw [s9_4]; decide) (by rw [s9_4]; rfl) (by decide) ?_
    refine h.aload_n (pc := 92) dX4_factOfColumn_92 rfl 1 rfl ?_
    refine h.getf (pc := 93) (f := 0) (o := 0) (i := 0) (ci := 4) (C := RX4) (T := TX4) (N := 8) (j := 0) (v := .ref (gA G (1, 0, 0))) (k_1 1 (by decide) (by decide)) rfl rfl (by decide) inX4_factOfColumn_RX4 kX4_factOfColumn_12 rfl dX4_factOfColumn_93 ?_
    refine h.aload_n (pc := 96) dX4_factOfColumn_96 rfl 1 rfl ?_
    refine h.getf (pc := 97) (f := 0) (o := 0) (i := 0) (ci := 4) (C := RX4) (T := TX4) (N := 8) (j := 0) (v := .ref (gA G (1, 0, 0))) (k_1 1 (by decide) (by decide)) rfl rfl (by decide) inX4_factOfColumn_RX4 kX4_factOfColumn_12 rfl dX4_factOfColumn_97 ?_
    refine h.getN (pc := 100) (f := 1) (o := 0) (i := 0) (ci := 3) (C := RX3) (T := TX3) (N := 9) (j := 5) (v := .int (M4 1 0 0 5)) (k_1 2 (by decide) (by decide)) rfl rfl (by decide) inX4_factOfColumn_RX3 (own0 := RX4) (host := "TableWright") rfl nw_23 rfl dX4_factOfColumn_100 ?_
    refine h.iconst (pc := 103) (v := 1) dX4_factOfColumn_103 (by decide) ?_
    refine h.isub (pc := 104) dX4_factOfColumn_104 ?_
    refine h.iload_n (pc := 105) dX4_factOfColumn_105 rfl 2 rfl ?_
    refine h.cVi (pc := 106) [.int ((M4 1 0 0 5) - 1), .int v1] (1, 0, 0) [] (m_X3_sumUpTo hG (by decide) hw) gX4_factOfColumn_X3_sumUpTo rfl hd_X3_sumUpTo (by decide) (k_1 2 (by decide) (by decide)) rfl rfl rfl rfl rfl (Nat.le_of_ble_eq_true rfl) dX4_factOfColumn_106 (fun r106 M106 hw => ?_)
    exact hr _ _ _ _ dX4_factOfColumn_109 hw
  replace hw := hw.2
  replace hw := hw s9_0 s9_1 s9_2 s9_3 s9_4
  refine h.tsd (pc := 9) 110 dX4_factOfColumn_9 (tsw_out (lo := 0) (hi := 4) (fun z h1 h2 e => by
      rcases (show z = 0 ∨ z = 1 ∨ z = 2 ∨ z = 3 ∨ z = 4 by omega) with rfl | rfl | rfl | rfl | rfl <;> first | exact s9_0 (Int32.toInt_inj.mp (e.trans (by decide))) | exact s9_1 (Int32.toInt_inj.mp (e.trans (by decide))) | exact s9_2 (Int32.toInt_inj.mp (e.trans (by decide))) | exact s9_3 (Int32.toInt_inj.mp (e.trans (by decide))) | exact s9_4 (Int32.toInt_inj.mp (e.trans (by decide))))) (by decide) ?_
  refine h.iconst (pc := 110) (v := (-1)) dX4_factOfColumn_110 (by decide) ?_
  exact hr _ _ _ _ dX4_factOfColumn_111 hw
-- X4_factOfRow
theorem inX4_factOfRow_RX0 : ∀ w ∈ u_ws RX0 TX0 14, w ∈ wsX4_factOfRow := by decide +kernel
theorem inX4_factOfRow_RX4 : ∀ w ∈ u_ws RX4 TX4 8, w ∈ wsX4_factOfRow := by decide +kernel
theorem kX4_factOfRow_19 : Cond.fieldLink RX4 19 (TX4 1).1 (TX4 1).2.1 (TX4 1).2.2.1 ∈ wsX4_factOfRow := by decide +kernel
abbrev F_X4_factOfRow : Nat := 1
abbrev L_X4_factOfRow : Nat := 20
theorem hd_X4_factOfRow : yX4_factOfRow.cls = RX4 ∧ yX4_factOfRow.cls ≠ "java/lang/invoke/MethodHandle" ∧ yX4_factOfRow.cls ≠ "java/lang/invoke/VarHandle" ∧ (parseMethodDescriptor yX4_factOfRow.desc).map (fun d => d.parameters.length) = some 2 := by decide +kernel
def wp_X4_factOfRow (v1 : Int32) (v2 : Int32) (M : Mem) (Q : Int32 → Mem → Prop) : Prop := (wp_X2_chosen 0 M (fun r4 M4 => (((M4 3 r4 0 0) = 0 → Q (-1) M4) ∧ (¬ ((M4 3 r4 0 0) = 0) → ((v2 = 0 → (vp_in v1 30 ∧ Q (M4 19 r4 0 v1.toNatClampNeg) M4)) ∧ (v2 = 1 → (vp_in v1 30 ∧ Q (M4 20 r4 0 v1.toNatClampNeg) M4)) ∧ (v2 = 2 → (vp_in v1 30 ∧ Q (M4 21 r4 0 v1.toNatClampNeg) M4)) ∧ (¬ v2 = 0 → ¬ v2 = 1 → ¬ v2 = 2 → Q (-1) M4))))))
set_option maxHeartbeats 4000000 in
set_option maxRecDepth 100000 in
theorem m_X4_factOfRow {l : Launch} {G : GG} (hG : GoodG G) {v1 : Int32} {v2 : Int32}  {M : Mem} {Q : Int32 → Mem → Prop}  (hw : wp_X4_factOfRow v1 v2 M Q) : CTi l G yX4_factOfRow wsX4_factOfRow F_X4_factOfRow L_X4_factOfRow [.ref (gA G (0, 0, 0)), .int v1, .int v2] M Q := by
  refine CTi_mk hG (by decide +kernel) rfl (Nat.le_of_ble_eq_true rfl) (fun Z (h : AX l G cX4_factOfRow 4 RX4 wsX4_factOfRow F_X4_factOfRow L_X4_factOfRow Z) hr => ?_)
  show Z 0 [(0, .ref (gA G (0, 0, 0))), (1, .int v1), (2, .int v2)] [] M
  unfold wp_X4_factOfRow at hw
  refine h.aload_n (pc := 0) dX4_factOfRow_0 rfl 0 rfl ?_
  refine h.getf (pc := 1) (f := 0) (o := 0) (i := 0) (ci := 4) (C := RX4) (T := TX4) (N := 8) (j := 1) (v := .ref (gA G (2, 0, 0))) (k_1 1 (by decide) (by decide)) rfl rfl (by decide) inX4_factOfRow_RX4 kX4_factOfRow_19 rfl dX4_factOfRow_1 ?_
  refine h.cVr (pc := 4) [] (2, 0, 0) [] (m_X2_chosen hG (by decide) hw) gX4_factOfRow_X2_chosen rfl hd_X2_chosen (by decide) (k_1 2 (by decide) (by decide)) rfl rfl rfl rfl rfl (Nat.le_of_ble_eq_true rfl) dX4_factOfRow_4 (fun r4 M4 h5_4 hw => ?_)
  refine h.astore_n (pc := 7) [(3, .ref (gA G (3, r4, 0))), (0, .ref (gA G (0, 0, 0))), (1, .int v1), (2, .int v2)] dX4_factOfRow_7 rfl (by decide) rfl ?_
  refine h.aload_n (pc := 8) dX4_factOfRow_8 rfl 0 rfl ?_
  refine h.getN (pc := 9) (f := 3) (o := r4) (i := 0) (ci := 0) (C := RX0) (T := TX0) (N := 14) (j := 0) (v := .int (M4 3 r4 0 0)) (k_1 5 (by decide) h5_4) rfl rfl (by decide) inX4_factOfRow_RX0 (own0 := RX4) (host := "TableWright") rfl nw_31 rfl dX4_factOfRow_9 ?_
  refine h.if_ne (pc := 12) 17 dX4_factOfRow_12 (by decide) (fun c12 => ?_) (fun c12 => ?_)
  · replace hw := hw.2 c12
    refine h.iload_n (pc := 17) dX4_factOfRow_17 rfl 3 rfl ?_
    by_cases s18_0 : v2 = 0
    · replace hw := hw.1 s18_0
      refine h.tsw (pc := 18) (o := 26) 44 dX4_factOfRow_18 (by rw [s18_0]; decide) (by rw [s18_0]; decide) (by rw [s18_0]; rfl) (by decide) ?_
      refine h.aload_n (pc := 44) dX4_factOfRow_44 rfl 0 rfl ?_
      refine h.getN (pc := 45) (f := 3) (o := r4) (i := 0) (ci := 0) (C := RX0) (T := TX0) (N := 14) (j := 3) (v := .ref (gA G (19, r4, 0))) (k_1 5 (by decide) h5_4) rfl rfl (by decide) inX4_factOfRow_RX0 (own0 := RX4) (host := "TableWright") rfl nw_33 rfl dX4_factOfRow_45 ?_
      refine h.iload_n (pc := 48) dX4_factOfRow_48 rfl 2 rfl ?_
      obtain ⟨hj49, hw⟩ := hw
      refine h.iald (pc := 49) (f := 19) (o := r4) (i := 0) (n := 30) (k_1 5 (by decide) h5_4) (fun _ => rfl) hj49 dX4_factOfRow_49 ?_
      exact hr _ _ _ _ dX4_factOfRow_50 hw
    replace hw := hw.2
    by_cases s18_1 : v2 = 1
    · replace hw := hw.1 s18_1
      refine h.tsw (pc := 18) (o := 33) 51 dX4_factOfRow_18 (by rw [s18_1]; decide) (by rw [s18_1]; decide) (by rw [s18_1]; rfl) (by decide) ?_
      refine h.aload_n (pc := 51) dX4_factOfRow_51 rfl 0 rfl ?_
      refine h.getN (pc := 52) (f := 3) (o := r4) (i := 0) (ci := 0) (C := RX0) (T := TX0) (N := 14) (j := 4) (v := .ref (gA G (20, r4, 0))) (k_1 5 (by decide) h5_4) rfl rfl (by decide) inX4_factOfRow_RX0 (own0 := RX4) (host := "TableWright") rfl nw_34 rfl dX4_factOfRow_52 ?_
      refine h.iload_n (pc := 55) dX4_factOfRow_55 rfl 2 rfl ?_
      obtain ⟨hj56, hw⟩ := hw
      refine h.iald (pc := 56) (f := 20) (o := r4) (i := 0) (n := 30) (k_1 5 (by decide) h5_4) (fun _ => rfl) hj56 dX4_factOfRow_56 ?_
      exact hr _ _ _ _ dX4_factOfRow_57 hw
    replace hw := hw.2
    by_cases s18_2 : v2 = 2
    · replace hw := hw.1 s18_2
      refine h.tsw (pc := 18) (o := 40) 58 dX4_factOfRow_18 (by rw [s18_2]; decide) (by rw [s18_2]; decide) (by rw [s18_2]; rfl) (by decide) ?_
      refine h.aload_n (pc := 58) dX4_factOfRow_58 rfl 0 rfl ?_
      refine h.getN (pc := 59) (f := 3) (o := r4) (i := 0) (ci := 0) (C := RX0) (T := TX0) (N := 14) (j := 5) (v := .ref (gA G (21, r4, 0))) (k_1 5 (by decide) h5_4) rfl rfl (by decide) inX4_factOfRow_RX0 (own0 := RX4) (host := "TableWright") rfl nw_35 rfl dX4_factOfRow_59 ?_
      refine h.iload_n (pc := 62) dX4_factOfRow_62 rfl 2 rfl ?_
      obtain ⟨hj63, hw⟩ := hw
      refine h.iald (pc := 63) (f := 21) (o := r4) (i := 0) (n := 30) (k_1 5 (by decide) h5_4) (fun _ => rfl) hj63 dX4_factOfRow_63 ?_
      exact hr _ _ _ _ dX4_factOfRow_64 hw
    replace hw := hw.2
    replace hw := hw s18_0 s18_1 s18_2
    refine h.tsd (pc := 18) 65 dX4_factOfRow_18 (tsw_out (lo := 0) (hi := 2) (fun z h1 h2 e => by
        rcases (show z = 0 ∨ z = 1 ∨ z = 2 by omega) with rfl | rfl | rfl <;> first | exact s18_0 (Int32.toInt_inj.mp (e.trans (by decide))) | exact s18_1 (Int32.toInt_inj.mp (e.trans (by decide))) | exact s18_2 (Int32.toInt_inj.mp (e.trans (by decide))))) (by decide) ?_
    refine h.iconst (pc := 65) (v := (-1)) dX4_factOfRow_65 (by decide) ?_
    exact hr _ _ _ _ dX4_factOfRow_66 hw
  · replace hw := hw.1 c12
    refine h.iconst (pc := 15) (v := (-1)) dX4_factOfRow_15 (by decide) ?_
    exact hr _ _ _ _ dX4_factOfRow_16 hw
-- X4_factOfCell
theorem inX4_factOfCell_RX0 : ∀ w ∈ u_ws RX0 TX0 14, w ∈ wsX4_factOfCell := by decide +kernel
theorem inX4_factOfCell_RX1 : ∀ w ∈ u_ws RX1 TX1 8, w ∈ wsX4_factOfCell := by decide +kernel
theorem inX4_factOfCell_RX3 : ∀ w ∈ u_ws RX3 TX3 9, w ∈ wsX4_factOfCell := by decide +kernel
theorem inX4_factOfCell_RX4 : ∀ w ∈ u_ws RX4 TX4 8, w ∈ wsX4_factOfCell := by decide +kernel
theorem kX4_factOfCell_19 : Cond.fieldLink RX4 19 (TX4 1).1 (TX4 1).2.1 (TX4 1).2.2.1 ∈ wsX4_factOfCell := by decide +kernel
theorem kX4_factOfCell_12 : Cond.fieldLink RX4 12 (TX4 0).1 (TX4 0).2.1 (TX4 0).2.2.1 ∈ wsX4_factOfCell := by decide +kernel
abbrev F_X4_factOfCell : Nat := 2
abbrev L_X4_factOfCell : Nat := 47
theorem hd_X4_factOfCell : yX4_factOfCell.cls = RX4 ∧ yX4_factOfCell.cls ≠ "java/lang/invoke/MethodHandle" ∧ yX4_factOfCell.cls ≠ "java/lang/invoke/VarHandle" ∧ (parseMethodDescriptor yX4_factOfCell.desc).map (fun d => d.parameters.length) = some 3 := by decide +kernel
def wp_X4_factOfCell (v1 : Int32) (v2 : Int32) (v3 : Int32) (M : Mem) (Q : Int32 → Mem → Prop) : Prop := (wp_X2_chosen 0 M (fun r4 M4 => (vp_in v1 30 ∧ ((v3 = 0 → (vp_in v2 6 ∧ (((M4 5 0 0 v2.toNatClampNeg) = 1 → (vp_in v2 6 ∧ Q (M4 13 0 (v1.toNatClampNeg) v2.toNatClampNeg) M4)) ∧ (¬ ((M4 5 0 0 v2.toNatClampNeg) = 1) → (vp_in v2 6 ∧ Q (M4 12 0 (v1.toNatClampNeg) v2.toNatClampNeg) M4))))) ∧ (v3 = 1 → (((M4 3 r4 0 0) = 0 → Q (-1) M4) ∧ (¬ ((M4 3 r4 0 0) = 0) → (wp_X0_heightOfCell r4 0 v1 v2 M4 (fun r99 M99 => Q r99 M99))))) ∧ (v3 = 2 → (vp_in v2 6 ∧ (((M4 17 0 (v1.toNatClampNeg) v2.toNatClampNeg) = 0 → Q 0 M4) ∧ (¬ ((M4 17 0 (v1.toNatClampNeg) v2.toNatClampNeg) = 0) → Q 1 M4)))) ∧ (v3 = 3 → (wp_X3_sumUpTo 0 v1 v2 M4 (fun r129 M129 => Q r129 M129))) ∧ (¬ v3 = 0 → ¬ v3 = 1 → ¬ v3 = 2 → ¬ v3 = 3 → Q (-1) M4)))))
set_option maxHeartbeats 4000000 in
set_option maxRecDepth 100000 in
theorem m_X4_factOfCell {l : Launch} {G : GG} (hG : GoodG G) {v1 : Int32} {v2 : Int32} {v3 : Int32}  {M : Mem} {Q : Int32 → Mem → Prop}  (hw : wp_X4_factOfCell v1 v2 v3 M Q) : CTi l G yX4_factOfCell wsX4_factOfCell F_X4_factOfCell L_X4_factOfCell [.ref (gA G (0, 0, 0)), .int v1, .int v2, .int v3] M Q := by
  refine CTi_mk hG (by decide +kernel) rfl (Nat.le_of_ble_eq_true rfl) (fun Z (h : AX l G cX4_factOfCell 6 RX4 wsX4_factOfCell F_X4_factOfCell L_X4_factOfCell Z) hr => ?_)
  show Z 0 [(0, .ref (gA G (0, 0, 0))), (1, .int v1), (2, .int v2), (3, .int v3)] [] M
  unfold wp_X4_factOfCell at hw
  refine h.aload_n (pc := 0) dX4_factOfCell_0 rfl 0 rfl ?_
  refine h.getf (pc := 1) (f := 0) (o := 0) (i := 0) (ci := 4) (C := RX4) (T := TX4) (N := 8) (j := 1) (v := .ref (gA G (2, 0, 0))) (k_1 1 (by decide) (by decide)) rfl rfl (by decide) inX4_factOfCell_RX4 kX4_factOfCell_19 rfl dX4_factOfCell_1 ?_
  refine h.cVr (pc := 4) [] (2, 0, 0) [] (m_X2_chosen hG (by decide) hw) gX4_factOfCell_X2_chosen rfl hd_X2_chosen (by decide) (k_1 2 (by decide) (by decide)) rfl rfl rfl rfl rfl (Nat.le_of_ble_eq_true rfl) dX4_factOfCell_4 (fun r4 M4 h5_4 hw => ?_)
  refine h.astore (pc := 7) [(4, .ref (gA G (3, r4, 0))), (0, .ref (gA G (0, 0, 0))), (1, .int v1), (2, .int v2), (3, .int v3)] dX4_factOfCell_7 (by decide) rfl ?_
  refine h.aload_n (pc := 9) dX4_factOfCell_9 rfl 1 rfl ?_
  refine h.getf (pc := 10) (f := 0) (o := 0) (i := 0) (ci := 4) (C := RX4) (T := TX4) (N := 8) (j := 0) (v := .ref (gA G (1, 0, 0))) (k_1 1 (by decide) (by decide)) rfl rfl (by decide) inX4_factOfCell_RX4 kX4_factOfCell_12 rfl dX4_factOfCell_10 ?_
  refine h.getN (pc := 13) (f := 1) (o := 0) (i := 0) (ci := 3) (C := RX3) (T := TX3) (N := 9) (j := 6) (v := .ref (gA G (11, 0, 0))) (k_1 2 (by decide) (by decide)) rfl rfl (by decide) inX4_factOfCell_RX3 (own0 := RX4) (host := "TableWright") rfl nw_24 rfl dX4_factOfCell_13 ?_
  refine h.iload_n (pc := 16) dX4_factOfCell_16 rfl 2 rfl ?_
  obtain ⟨hj17, hw⟩ := hw
  refine h.aald (pc := 17) (o := 0) (ix := v1) (by decide) hj17 dX4_factOfCell_17 ?_
  refine h.astore (pc := 18) [(5, .ref (gA G (4, 0, v1.toNatClampNeg))), (4, .ref (gA G (3, r4, 0))), (0, .ref (gA G (0, 0, 0))), (1, .int v1), (2, .int v2), (3, .int v3)] dX4_factOfCell_18 (by decide) rfl ?_
  refine h.iload_n (pc := 20) dX4_factOfCell_20 rfl 5 rfl ?_
  by_cases s21_0 : v3 = 0
  · replace hw := hw.1 s21_0
    refine h.tsw (pc := 21) (o := 31) 52 dX4_factOfCell_21 (by rw [s21_0]; decide) (by rw [s21_0]; decide) (by rw [s21_0]; rfl) (by decide) ?_
    refine h.aload_n (pc := 52) dX4_factOfCell_52 rfl 2 rfl ?_
    refine h.getf (pc := 53) (f := 0) (o := 0) (i := 0) (ci := 4) (C := RX4) (T := TX4) (N := 8) (j := 0) (v := .ref (gA G (1, 0, 0))) (k_1 1 (by decide) (by decide)) rfl rfl (by decide) inX4_factOfCell_RX4 kX4_factOfCell_12 rfl dX4_factOfCell_53 ?_
    refine h.getN (pc := 56) (f := 1) (o := 0) (i := 0) (ci := 3) (C := RX3) (T := TX3) (N := 9) (j := 1) (v := .ref (gA G (5, 0, 0))) (k_1 2 (by decide) (by decide)) rfl rfl (by decide) inX4_factOfCell_RX3 (own0 := RX4) (host := "TableWright") rfl nw_21 rfl dX4_factOfCell_56 ?_
    refine h.iload_n (pc := 59) dX4_factOfCell_59 rfl 4 rfl ?_
    obtain ⟨hj60, hw⟩ := hw
    refine h.iald (pc := 60) (f := 5) (o := 0) (i := 0) (n := 6) (k_1 2 (by decide) (by decide)) (fun _ => rfl) hj60 dX4_factOfCell_60 ?_
    refine h.iconst (pc := 61) (v := 1) dX4_factOfCell_61 (by decide) ?_
    refine h.icmp_ne (pc := 62) 75 dX4_factOfCell_62 (by decide) (fun c62 => ?_) (fun c62 => ?_)
    · replace hw := hw.2 c62
      refine h.aload (pc := 75) dX4_factOfCell_75 0 rfl ?_
      refine h.getN (pc := 77) (f := 4) (o := 0) (i := v1.toNatClampNeg) (ci := 1) (C := RX1) (T := TX1) (N := 8) (j := 0) (v := .ref (gA G (12, 0, v1.toNatClampNeg))) (k_2 (by decide) (by decide) (vin_lt hj17)) rfl rfl (by decide) inX4_factOfCell_RX1 (own0 := RX4) (host := "TableWright") rfl nw_0 rfl dX4_factOfCell_77 ?_
      refine h.iload_n (pc := 80) dX4_factOfCell_80 rfl 4 rfl ?_
      obtain ⟨hj81, hw⟩ := hw
      refine h.iald (pc := 81) (f := 12) (o := 0) (i := v1.toNatClampNeg) (n := 6) (k_2 (by decide) (by decide) (vin_lt hj17)) (fun _ => rfl) hj81 dX4_factOfCell_81 ?_
      exact hr _ _ _ _ dX4_factOfCell_82 hw
    · replace hw := hw.1 c62
      refine h.aload (pc := 65) dX4_factOfCell_65 0 rfl ?_
      refine h.getN (pc := 67) (f := 4) (o := 0) (i := v1.toNatClampNeg) (ci := 1) (C := RX1) (T := TX1) (N := 8) (j := 1) (v := .ref (gA G (13, 0, v1.toNatClampNeg))) (k_2 (by decide) (by decide) (vin_lt hj17)) rfl rfl (by decide) inX4_factOfCell_RX1 (own0 := RX4) (host := "TableWright") rfl nw_2 rfl dX4_factOfCell_67 ?_
      refine h.iload_n (pc := 70) dX4_factOfCell_70 rfl 4 rfl ?_
      obtain ⟨hj71, hw⟩ := hw
      refine h.iald (pc := 71) (f := 13) (o := 0) (i := v1.toNatClampNeg) (n := 6) (k_2 (by decide) (by decide) (vin_lt hj17)) (fun _ => rfl) hj71 dX4_factOfCell_71 ?_
      refine h.goto (pc := 72) 82 dX4_factOfCell_72 (by decide) ?_
      exact hr _ _ _ _ dX4_factOfCell_82 hw
  replace hw := hw.2
  by_cases s21_1 : v3 = 1
  · replace hw := hw.1 s21_1
    refine h.tsw (pc := 21) (o := 62) 83 dX4_factOfCell_21 (by rw [s21_1]; decide) (by rw [s21_1]; decide) (by rw [s21_1]; rfl) (by decide) ?_
    refine h.aload (pc := 83) dX4_factOfCell_83 1 rfl ?_
    refine h.getN (pc := 85) (f := 3) (o := r4) (i := 0) (ci := 0) (C := RX0) (T := TX0) (N := 14) (j := 0) (v := .int (M4 3 r4 0 0)) (k_1 5 (by decide) h5_4) rfl rfl (by decide) inX4_factOfCell_RX0 (own0 := RX4) (host := "TableWright") rfl nw_31 rfl dX4_factOfCell_85 ?_
    refine h.if_eq (pc := 88) 105 dX4_factOfCell_88 (by decide) (fun c88 => ?_) (fun c88 => ?_)
    · replace hw := hw.1 c88
      refine h.iconst (pc := 105) (v := (-1)) dX4_factOfCell_105 (by decide) ?_
      exact hr _ _ _ _ dX4_factOfCell_106 hw
    · replace hw := hw.2 c88
      refine h.aload (pc := 91) dX4_factOfCell_91 1 rfl ?_
      refine h.aload_n (pc := 93) dX4_factOfCell_93 rfl 2 rfl ?_
      refine h.getf (pc := 94) (f := 0) (o := 0) (i := 0) (ci := 4) (C := RX4) (T := TX4) (N := 8) (j := 0) (v := .ref (gA G (1, 0, 0))) (k_1 1 (by decide) (by decide)) rfl rfl (by decide) inX4_factOfCell_RX4 kX4_factOfCell_12 rfl dX4_factOfCell_94 ?_
      refine h.iload_n (pc := 97) dX4_factOfCell_97 rfl 3 rfl ?_
      refine h.iload_n (pc := 98) dX4_factOfCell_98 rfl 4 rfl ?_
      refine h.cVi (pc := 99) [.ref (gA G (1, 0, 0)), .int v1, .int v2] (3, r4, 0) [] (m_X0_heightOfCell hG h5_4 (by decide) hw) gX4_factOfCell_X0_heightOfCell rfl hd_X0_heightOfCell (by decide) (k_1 5 (by decide) h5_4) rfl rfl rfl rfl rfl (Nat.le_of_ble_eq_true rfl) dX4_factOfCell_99 (fun r99 M99 hw => ?_)
      refine h.goto (pc := 102) 106 dX4_factOfCell_102 (by decide) ?_
      exact hr _ _ _ _ dX4_factOfCell_106 hw
  replace hw := hw.2
  by_cases s21_2 : v3 = 2
  · replace hw := hw.1 s21_2
    refine h.tsw (pc := 21) (o := 86) 107 dX4_factOfCell_21 (by rw [s21_2]; decide) (by rw [s21_2]; decide) (by rw [s21_2]; rfl) (by decide) ?_
    refine h.aload (pc := 107) dX4_factOfCell_107 0 rfl ?_
    refine h.getN (pc := 109) (f := 4) (o := 0) (i := v1.toNatClampNeg) (ci := 1) (C := RX1) (T := TX1) (N := 8) (j := 7) (v := .ref (gA G (17, 0, v1.toNatClampNeg))) (k_2 (by decide) (by decide) (vin_lt hj17)) rfl rfl (by decide) inX4_factOfCell_RX1 (own0 := RX4) (host := "TableWright") rfl nw_16 rfl dX4_factOfCell_109 ?_
    refine h.iload_n (pc := 112) dX4_factOfCell_112 rfl 4 rfl ?_
    obtain ⟨hj113, hw⟩ := hw
    refine h.zald (pc := 113) (f := 17) (o := 0) (i := v1.toNatClampNeg) (n := 6) (k_2 (by decide) (by decide) (vin_lt hj17)) (fun _ => rfl) hj113 dX4_factOfCell_113 ?_
    refine h.if_eq (pc := 114) 121 dX4_factOfCell_114 (by decide) (fun c114 => ?_) (fun c114 => ?_)
    · replace hw := hw.1 c114
      refine h.iconst (pc := 121) (v := 0) dX4_factOfCell_121 (by decide) ?_
      exact hr _ _ _ _ dX4_factOfCell_122 hw
    · replace hw := hw.2 c114
      refine h.iconst (pc := 117) (v := 1) dX4_factOfCell_117 (by decide) ?_
      refine h.goto (pc := 118) 122 dX4_factOfCell_118 (by decide) ?_
      exact hr _ _ _ _ dX4_factOfCell_122 hw
  replace hw := hw.2
  by_cases s21_3 : v3 = 3
  · replace hw := hw.1 s21_3
    refine h.tsw (pc := 21) (o := 102) 123 dX4_factOfCell_21 (by rw [s21_3]; decide) (by rw [s21_3]; decide) (by rw [s21_3]; rfl) (by decide) ?_
    refine h.aload_n (pc := 123) dX4_factOfCell_123 rfl 2 rfl ?_
    refine h.getf (pc := 124) (f := 0) (o := 0) (i := 0) (ci := 4) (C := RX4) (T := TX4) (N := 8) (j := 0) (v := .ref (gA G (1, 0, 0))) (k_1 1 (by decide) (by decide)) rfl rfl (by decide) inX4_factOfCell_RX4 kX4_factOfCell_12 rfl dX4_factOfCell_124 ?_
    refine h.iload_n (pc := 127) dX4_factOfCell_127 rfl 3 rfl ?_
    refine h.iload_n (pc := 128) dX4_factOfCell_128 rfl 4 rfl ?_
    refine h.cVi (pc := 129) [.int v1, .int v2] (1, 0, 0) [] (m_X3_sumUpTo hG (by decide) hw) gX4_factOfCell_X3_sumUpTo rfl hd_X3_sumUpTo (by decide) (k_1 2 (by decide) (by decide)) rfl rfl rfl rfl rfl (Nat.le_of_ble_eq_true rfl) dX4_factOfCell_129 (fun r129 M129 hw => ?_)
    exact hr _ _ _ _ dX4_factOfCell_132 hw
  replace hw := hw.2
  replace hw := hw s21_0 s21_1 s21_2 s21_3
  refine h.tsd (pc := 21) 133 dX4_factOfCell_21 (tsw_out (lo := 0) (hi := 3) (fun z h1 h2 e => by
      rcases (show z = 0 ∨ z = 1 ∨ z = 2 ∨ z = 3 by omega) with rfl | rfl | rfl | rfl <;> first | exact s21_0 (Int32.toInt_inj.mp (e.trans (by decide))) | exact s21_1 (Int32.toInt_inj.mp (e.trans (by decide))) | exact s21_2 (Int32.toInt_inj.mp (e.trans (by decide))) | exact s21_3 (Int32.toInt_inj.mp (e.trans (by decide))))) (by decide) ?_
  refine h.iconst (pc := 133) (v := (-1)) dX4_factOfCell_133 (by decide) ?_
  exact hr _ _ _ _ dX4_factOfCell_134 hw
-- X4_factOfPage
theorem inX4_factOfPage_RX0 : ∀ w ∈ u_ws RX0 TX0 14, w ∈ wsX4_factOfPage := by decide +kernel
theorem inX4_factOfPage_RX4 : ∀ w ∈ u_ws RX4 TX4 8, w ∈ wsX4_factOfPage := by decide +kernel
theorem kX4_factOfPage_19 : Cond.fieldLink RX4 19 (TX4 1).1 (TX4 1).2.1 (TX4 1).2.2.1 ∈ wsX4_factOfPage := by decide +kernel
theorem kX4_factOfPage_12 : Cond.fieldLink RX4 12 (TX4 0).1 (TX4 0).2.1 (TX4 0).2.2.1 ∈ wsX4_factOfPage := by decide +kernel
abbrev F_X4_factOfPage : Nat := 2
abbrev L_X4_factOfPage : Nat := 47
theorem hd_X4_factOfPage : yX4_factOfPage.cls = RX4 ∧ yX4_factOfPage.cls ≠ "java/lang/invoke/MethodHandle" ∧ yX4_factOfPage.cls ≠ "java/lang/invoke/VarHandle" ∧ (parseMethodDescriptor yX4_factOfPage.desc).map (fun d => d.parameters.length) = some 2 := by decide +kernel
def wp_X4_factOfPage (v1 : Int32) (v2 : Int32) (M : Mem) (Q : Int32 → Mem → Prop) : Prop := (wp_X2_chosen 0 M (fun r4 M4 => ((v2 = 0 → (vp_in v1 60 ∧ Q (M4 22 r4 0 v1.toNatClampNeg) M4)) ∧ (v2 = 1 → (vp_in v1 60 ∧ Q (M4 23 r4 0 v1.toNatClampNeg) M4)) ∧ (v2 = 2 → (vp_in v1 60 ∧ Q (M4 24 r4 0 v1.toNatClampNeg) M4)) ∧ (v2 = 3 → (vp_in v1 60 ∧ Q (M4 25 r4 0 v1.toNatClampNeg) M4)) ∧ (v2 = 4 → (wp_X0_readAloud r4 0 v1 M4 (fun r78 M78 => Q r78 M78))) ∧ (¬ v2 = 0 → ¬ v2 = 1 → ¬ v2 = 2 → ¬ v2 = 3 → ¬ v2 = 4 → Q (-1) M4))))
set_option maxHeartbeats 4000000 in
set_option maxRecDepth 100000 in
theorem m_X4_factOfPage {l : Launch} {G : GG} (hG : GoodG G) {v1 : Int32} {v2 : Int32}  {M : Mem} {Q : Int32 → Mem → Prop}  (hw : wp_X4_factOfPage v1 v2 M Q) : CTi l G yX4_factOfPage wsX4_factOfPage F_X4_factOfPage L_X4_factOfPage [.ref (gA G (0, 0, 0)), .int v1, .int v2] M Q := by
  refine CTi_mk hG (by decide +kernel) rfl (Nat.le_of_ble_eq_true rfl) (fun Z (h : AX l G cX4_factOfPage 4 RX4 wsX4_factOfPage F_X4_factOfPage L_X4_factOfPage Z) hr => ?_)
  show Z 0 [(0, .ref (gA G (0, 0, 0))), (1, .int v1), (2, .int v2)] [] M
  unfold wp_X4_factOfPage at hw
  refine h.aload_n (pc := 0) dX4_factOfPage_0 rfl 0 rfl ?_
  refine h.getf (pc := 1) (f := 0) (o := 0) (i := 0) (ci := 4) (C := RX4) (T := TX4) (N := 8) (j := 1) (v := .ref (gA G (2, 0, 0))) (k_1 1 (by decide) (by decide)) rfl rfl (by decide) inX4_factOfPage_RX4 kX4_factOfPage_19 rfl dX4_factOfPage_1 ?_
  refine h.cVr (pc := 4) [] (2, 0, 0) [] (m_X2_chosen hG (by decide) hw) gX4_factOfPage_X2_chosen rfl hd_X2_chosen (by decide) (k_1 2 (by decide) (by decide)) rfl rfl rfl rfl rfl (Nat.le_of_ble_eq_true rfl) dX4_factOfPage_4 (fun r4 M4 h5_4 hw => ?_)
  refine h.astore_n (pc := 7) [(3, .ref (gA G (3, r4, 0))), (0, .ref (gA G (0, 0, 0))), (1, .int v1), (2, .int v2)] dX4_factOfPage_7 rfl (by decide) rfl ?_
  refine h.iload_n (pc := 8) dX4_factOfPage_8 rfl 3 rfl ?_
  by_cases s9_0 : v2 = 0
  · replace hw := hw.1 s9_0
    refine h.tsw (pc := 9) (o := 35) 44 dX4_factOfPage_9 (by rw [s9_0]; decide) (by rw [s9_0]; decide) (by rw [s9_0]; rfl) (by decide) ?_
    refine h.aload_n (pc := 44) dX4_factOfPage_44 rfl 0 rfl ?_
    refine h.getN (pc := 45) (f := 3) (o := r4) (i := 0) (ci := 0) (C := RX0) (T := TX0) (N := 14) (j := 7) (v := .ref (gA G (22, r4, 0))) (k_1 5 (by decide) h5_4) rfl rfl (by decide) inX4_factOfPage_RX0 (own0 := RX4) (host := "TableWright") rfl nw_38 rfl dX4_factOfPage_45 ?_
    refine h.iload_n (pc := 48) dX4_factOfPage_48 rfl 2 rfl ?_
    obtain ⟨hj49, hw⟩ := hw
    refine h.iald (pc := 49) (f := 22) (o := r4) (i := 0) (n := 60) (k_1 5 (by decide) h5_4) (fun _ => rfl) hj49 dX4_factOfPage_49 ?_
    exact hr _ _ _ _ dX4_factOfPage_50 hw
  replace hw := hw.2
  by_cases s9_1 : v2 = 1
  · replace hw := hw.1 s9_1
    refine h.tsw (pc := 9) (o := 42) 51 dX4_factOfPage_9 (by rw [s9_1]; decide) (by rw [s9_1]; decide) (by rw [s9_1]; rfl) (by decide) ?_
    refine h.aload_n (pc := 51) dX4_factOfPage_51 rfl 0 rfl ?_
    refine h.getN (pc := 52) (f := 3) (o := r4) (i := 0) (ci := 0) (C := RX0) (T := TX0) (N := 14) (j := 8) (v := .ref (gA G (23, r4, 0))) (k_1 5 (by decide) h5_4) rfl rfl (by decide) inX4_factOfPage_RX0 (own0 := RX4) (host := "TableWright") rfl nw_39 rfl dX4_factOfPage_52 ?_
    refine h.iload_n (pc := 55) dX4_factOfPage_55 rfl 2 rfl ?_
    obtain ⟨hj56, hw⟩ := hw
    refine h.iald (pc := 56) (f := 23) (o := r4) (i := 0) (n := 60) (k_1 5 (by decide) h5_4) (fun _ => rfl) hj56 dX4_factOfPage_56 ?_
    exact hr _ _ _ _ dX4_factOfPage_57 hw
  replace hw := hw.2
  by_cases s9_2 : v2 = 2
  · replace hw := hw.1 s9_2
    refine h.tsw (pc := 9) (o := 49) 58 dX4_factOfPage_9 (by rw [s9_2]; decide) (by rw [s9_2]; decide) (by rw [s9_2]; rfl) (by decide) ?_
    refine h.aload_n (pc := 58) dX4_factOfPage_58 rfl 0 rfl ?_
    refine h.getN (pc := 59) (f := 3) (o := r4) (i := 0) (ci := 0) (C := RX0) (T := TX0) (N := 14) (j := 9) (v := .ref (gA G (24, r4, 0))) (k_1 5 (by decide) h5_4) rfl rfl (by decide) inX4_factOfPage_RX0 (own0 := RX4) (host := "TableWright") rfl nw_40 rfl dX4_factOfPage_59 ?_
    refine h.iload_n (pc := 62) dX4_factOfPage_62 rfl 2 rfl ?_
    obtain ⟨hj63, hw⟩ := hw
    refine h.iald (pc := 63) (f := 24) (o := r4) (i := 0) (n := 60) (k_1 5 (by decide) h5_4) (fun _ => rfl) hj63 dX4_factOfPage_63 ?_
    exact hr _ _ _ _ dX4_factOfPage_64 hw
  replace hw := hw.2
  by_cases s9_3 : v2 = 3
  · replace hw := hw.1 s9_3
    refine h.tsw (pc := 9) (o := 56) 65 dX4_factOfPage_9 (by rw [s9_3]; decide) (by rw [s9_3]; decide) (by rw [s9_3]; rfl) (by decide) ?_
    refine h.aload_n (pc := 65) dX4_factOfPage_65 rfl 0 rfl ?_
    refine h.getN (pc := 66) (f := 3) (o := r4) (i := 0) (ci := 0) (C := RX0) (T := TX0) (N := 14) (j := 10) (v := .ref (gA G (25, r4, 0))) (k_1 5 (by decide) h5_4) rfl rfl (by decide) inX4_factOfPage_RX0 (own0 := RX4) (host := "TableWright") rfl nw_41 rfl dX4_factOfPage_66 ?_
    refine h.iload_n (pc := 69) dX4_factOfPage_69 rfl 2 rfl ?_
    obtain ⟨hj70, hw⟩ := hw
    refine h.iald (pc := 70) (f := 25) (o := r4) (i := 0) (n := 60) (k_1 5 (by decide) h5_4) (fun _ => rfl) hj70 dX4_factOfPage_70 ?_
    exact hr _ _ _ _ dX4_factOfPage_71 hw
  replace hw := hw.2
  by_cases s9_4 : v2 = 4
  · replace hw := hw.1 s9_4
    refine h.tsw (pc := 9) (o := 63) 72 dX4_factOfPage_9 (by rw [s9_4]; decide) (by rw [s9_4]; decide) (by rw [s9_4]; rfl) (by decide) ?_
    refine h.aload_n (pc := 72) dX4_factOfPage_72 rfl 0 rfl ?_
    refine h.aload_n (pc := 73) dX4_factOfPage_73 rfl 1 rfl ?_
    refine h.getf (pc := 74) (f := 0) (o := 0) (i := 0) (ci := 4) (C := RX4) (T := TX4) (N := 8) (j := 0) (v := .ref (gA G (1, 0, 0))) (k_1 1 (by decide) (by decide)) rfl rfl (by decide) inX4_factOfPage_RX4 kX4_factOfPage_12 rfl dX4_factOfPage_74 ?_
    refine h.iload_n (pc := 77) dX4_factOfPage_77 rfl 2 rfl ?_
    refine h.cVi (pc := 78) [.ref (gA G (1, 0, 0)), .int v1] (3, r4, 0) [] (m_X0_readAloud hG h5_4 (by decide) hw) gX4_factOfPage_X0_readAloud rfl hd_X0_readAloud (by decide) (k_1 5 (by decide) h5_4) rfl rfl rfl rfl rfl (Nat.le_of_ble_eq_true rfl) dX4_factOfPage_78 (fun r78 M78 hw => ?_)
    exact hr _ _ _ _ dX4_factOfPage_81 hw
  replace hw := hw.2
  replace hw := hw s9_0 s9_1 s9_2 s9_3 s9_4
  refine h.tsd (pc := 9) 82 dX4_factOfPage_9 (tsw_out (lo := 0) (hi := 4) (fun z h1 h2 e => by
      rcases (show z = 0 ∨ z = 1 ∨ z = 2 ∨ z = 3 ∨ z = 4 by omega) with rfl | rfl | rfl | rfl | rfl <;> first | exact s9_0 (Int32.toInt_inj.mp (e.trans (by decide))) | exact s9_1 (Int32.toInt_inj.mp (e.trans (by decide))) | exact s9_2 (Int32.toInt_inj.mp (e.trans (by decide))) | exact s9_3 (Int32.toInt_inj.mp (e.trans (by decide))) | exact s9_4 (Int32.toInt_inj.mp (e.trans (by decide))))) (by decide) ?_
  refine h.iconst (pc := 82) (v := (-1)) dX4_factOfPage_82 (by decide) ?_
  exact hr _ _ _ _ dX4_factOfPage_83 hw
-- X4_digestWith
abbrev F_X4_digestWith : Nat := 0
abbrev L_X4_digestWith : Nat := 0
theorem hd_X4_digestWith : yX4_digestWith.cls ≠ "java/lang/invoke/MethodHandle" ∧ yX4_digestWith.cls ≠ "java/lang/invoke/VarHandle" ∧ (parseMethodDescriptor yX4_digestWith.desc).map (fun d => d.parameters.length) = some 2 := by decide +kernel
def wp_X4_digestWith (v0 : Int64) (v2 : Int32) (M : Mem) (Q : Int64 → Mem → Prop) : Prop := Q ((v0 * 31) + (v2).toInt64) M
set_option maxHeartbeats 4000000 in
set_option maxRecDepth 100000 in
theorem m_X4_digestWith {l : Launch} {G : GG} (hG : GoodG G) {v0 : Int64} {v2 : Int32}  {M : Mem} {Q : Int64 → Mem → Prop}  (hw : wp_X4_digestWith v0 v2 M Q) : CTl l G yX4_digestWith wsX4_digestWith F_X4_digestWith L_X4_digestWith [.long v0, .int v2] M Q := by
  refine CTl_mk hG (by decide +kernel) rfl (Nat.le_of_ble_eq_true rfl) (fun Z (h : AX l G cX4_digestWith 3 RX4 wsX4_digestWith F_X4_digestWith L_X4_digestWith Z) hr => ?_)
  show Z 0 [(0, .long v0), (2, .int v2)] [] M
  unfold wp_X4_digestWith at hw
  refine h.lload_n (pc := 0) dX4_digestWith_0 rfl 0 rfl ?_
  refine h.ldc2 (pc := 1) (v := 31) dX4_digestWith_1 (by decide +kernel) ?_
  refine h.lmul (pc := 4) dX4_digestWith_4 ?_
  refine h.iload_n (pc := 5) dX4_digestWith_5 rfl 1 rfl ?_
  refine h.i2l (pc := 6) dX4_digestWith_6 ?_
  refine h.ladd (pc := 7) dX4_digestWith_7 ?_
  exact hr _ _ _ _ dX4_digestWith_8 hw
-- X4_digestWithRow
theorem inX4_digestWithRow_RX3 : ∀ w ∈ u_ws RX3 TX3 9, w ∈ wsX4_digestWithRow := by decide +kernel
theorem inX4_digestWithRow_RX4 : ∀ w ∈ u_ws RX4 TX4 8, w ∈ wsX4_digestWithRow := by decide +kernel
theorem kX4_digestWithRow_12 : Cond.fieldLink RX4 12 (TX4 0).1 (TX4 0).2.1 (TX4 0).2.2.1 ∈ wsX4_digestWithRow := by decide +kernel
abbrev F_X4_digestWithRow : Nat := 3
abbrev L_X4_digestWithRow : Nat := 72
theorem hd_X4_digestWithRow : yX4_digestWithRow.cls = RX4 ∧ yX4_digestWithRow.cls ≠ "java/lang/invoke/MethodHandle" ∧ yX4_digestWithRow.cls ≠ "java/lang/invoke/VarHandle" ∧ (parseMethodDescriptor yX4_digestWithRow.desc).map (fun d => d.parameters.length) = some 2 := by decide +kernel
def wp_X4_digestWithRow_L6 (v1 : Int64) (v3 : Int32)  (X : Int64 → Mem → Prop) (Q : Int64 → Mem → Prop) : Nat → Int64 → Int32 → Mem → Prop
  | 0, _, _, _ => False
  | n + 1, v4, v6, M => ((2 < v6 → X v4 M) ∧ (¬ (2 < v6) → (wp_X4_factOfRow v3 v6 M (fun r18 M18 => (wp_X4_digestWith v4 r18 M18 (fun r21 M21 => (wp_X4_digestWithRow_L6 v1 v3 X Q n) r21 (v6 + 1) M21))))))
set_option maxHeartbeats 4000000 in
set_option maxRecDepth 100000 in
theorem l_X4_digestWithRow_L6 {l : Launch} {G : GG} {Z : ZT} (h : AX l G cX4_digestWithRow 8 RX4 wsX4_digestWithRow F_X4_digestWithRow L_X4_digestWithRow Z) (hG : GoodG G) {Q : Int64 → Mem → Prop} (hr : RETl cX4_digestWithRow Q Z) (v1 : Int64) (v3 : Int32)    (X : Int64 → Mem → Prop) (hX : ∀ (v4 : Int64) (M : Mem), X v4 M → Z 32 [(0, .ref (gA G (0, 0, 0))), (3, .int v3), (4, .long v4)] [] M) : ∀ (n : Nat) (v4 : Int64) (v6 : Int32) (M : Mem), wp_X4_digestWithRow_L6 v1 v3 X Q n v4 v6 M → Z 6 [(0, .ref (gA G (0, 0, 0))), (3, .int v3), (4, .long v4), (6, .int v6)] [] M := by
  intro n
  induction n with
  | zero => intro v4 v6 M hw; exact hw.elim
  | succ n ih =>
    intro v4 v6 M hw
    unfold wp_X4_digestWithRow_L6 at hw
    refine h.iload (pc := 6) dX4_digestWithRow_6 3 rfl ?_
    refine h.iconst (pc := 8) (v := 2) dX4_digestWithRow_8 (by decide) ?_
    refine h.icmp_gt (pc := 9) 32 dX4_digestWithRow_9 (by decide) (fun c9 => ?_) (fun c9 => ?_)
    · replace hw := hw.1 c9
      refine h.sub (pc := 32) [0, 1, 2] (lv' := [(0, .ref (gA G (0, 0, 0))), (3, .int v3), (4, .long v4)]) rfl ?_
      exact hX v4 M hw
    · replace hw := hw.2 c9
      refine h.lload (pc := 12) dX4_digestWithRow_12 2 rfl ?_
      refine h.aload_n (pc := 14) dX4_digestWithRow_14 rfl 0 rfl ?_
      refine h.iload_n (pc := 15) dX4_digestWithRow_15 rfl 1 rfl ?_
      refine h.iload (pc := 16) dX4_digestWithRow_16 3 rfl ?_
      refine h.cVi (pc := 18) [.int v3, .int v6] (0, 0, 0) [.long v4] (m_X4_factOfRow hG  hw) gX4_digestWithRow_X4_factOfRow rfl hd_X4_factOfRow (by decide) (k_1 1 (by decide) (by decide)) rfl rfl rfl rfl rfl (Nat.le_of_ble_eq_true rfl) dX4_digestWithRow_18 (fun r18 M18 hw => ?_)
      refine h.cSl (pc := 21) [.long v4, .int r18] [] (m_X4_digestWith hG  hw) gX4_digestWithRow_X4_digestWith rfl hd_X4_digestWith (by decide) rfl rfl (Nat.le_of_ble_eq_true rfl) dX4_digestWithRow_21 (fun r21 M21 hw => ?_)
      refine h.lstore (pc := 24) [(4, .long r21), (0, .ref (gA G (0, 0, 0))), (3, .int v3), (6, .int v6)] dX4_digestWithRow_24 (by decide) rfl ?_
      refine h.iinc (pc := 26) [(6, .int (v6 + 1)), (4, .long r21), (0, .ref (gA G (0, 0, 0))), (3, .int v3)] dX4_digestWithRow_26 3 rfl (inc_ (by decide)) (by decide) rfl ?_
      refine h.goto (pc := 29) 6 dX4_digestWithRow_29 (by decide) ?_
      refine h.sub (pc := 6) [2, 3, 1, 0] (lv' := [(0, .ref (gA G (0, 0, 0))), (3, .int v3), (4, .long r21), (6, .int (v6 + 1))]) rfl ?_
      exact ih r21 (v6 + 1) M21 hw
def wp_X4_digestWithRow_L50 (v1 : Int64) (v3 : Int32) (v6 : Int32) (X : Int64 → Mem → Prop) (Q : Int64 → Mem → Prop) : Nat → Int64 → Int32 → Mem → Prop
  | 0, _, _, _ => False
  | n + 1, v4, v7, M => ((3 < v7 → X v4 M) ∧ (¬ (3 < v7) → (wp_X4_factOfCell v3 v6 v7 M (fun r64 M64 => (wp_X4_digestWith v4 r64 M64 (fun r67 M67 => (wp_X4_digestWithRow_L50 v1 v3 v6 X Q n) r67 (v7 + 1) M67))))))
set_option maxHeartbeats 4000000 in
set_option maxRecDepth 100000 in
theorem l_X4_digestWithRow_L50 {l : Launch} {G : GG} {Z : ZT} (h : AX l G cX4_digestWithRow 8 RX4 wsX4_digestWithRow F_X4_digestWithRow L_X4_digestWithRow Z) (hG : GoodG G) {Q : Int64 → Mem → Prop} (hr : RETl cX4_digestWithRow Q Z) (v1 : Int64) (v3 : Int32)  (v6 : Int32)  (X : Int64 → Mem → Prop) (hX : ∀ (v4 : Int64) (M : Mem), X v4 M → Z 78 [(0, .ref (gA G (0, 0, 0))), (3, .int v3), (4, .long v4), (6, .int v6)] [] M) : ∀ (n : Nat) (v4 : Int64) (v7 : Int32) (M : Mem), wp_X4_digestWithRow_L50 v1 v3 v6 X Q n v4 v7 M → Z 50 [(0, .ref (gA G (0, 0, 0))), (3, .int v3), (4, .long v4), (6, .int v6), (7, .int v7)] [] M := by
  intro n
  induction n with
  | zero => intro v4 v7 M hw; exact hw.elim
  | succ n ih =>
    intro v4 v7 M hw
    unfold wp_X4_digestWithRow_L50 at hw
    refine h.iload (pc := 50) dX4_digestWithRow_50 4 rfl ?_
    refine h.iconst (pc := 52) (v := 3) dX4_digestWithRow_52 (by decide) ?_
    refine h.icmp_gt (pc := 53) 78 dX4_digestWithRow_53 (by decide) (fun c53 => ?_) (fun c53 => ?_)
    · replace hw := hw.1 c53
      refine h.sub (pc := 78) [0, 1, 2, 3] (lv' := [(0, .ref (gA G (0, 0, 0))), (3, .int v3), (4, .long v4), (6, .int v6)]) rfl ?_
      exact hX v4 M hw
    · replace hw := hw.2 c53
      refine h.lload (pc := 56) dX4_digestWithRow_56 2 rfl ?_
      refine h.aload_n (pc := 58) dX4_digestWithRow_58 rfl 0 rfl ?_
      refine h.iload_n (pc := 59) dX4_digestWithRow_59 rfl 1 rfl ?_
      refine h.iload (pc := 60) dX4_digestWithRow_60 3 rfl ?_
      refine h.iload (pc := 62) dX4_digestWithRow_62 4 rfl ?_
      refine h.cVi (pc := 64) [.int v3, .int v6, .int v7] (0, 0, 0) [.long v4] (m_X4_factOfCell hG  hw) gX4_digestWithRow_X4_factOfCell rfl hd_X4_factOfCell (by decide) (k_1 1 (by decide) (by decide)) rfl rfl rfl rfl rfl (Nat.le_of_ble_eq_true rfl) dX4_digestWithRow_64 (fun r64 M64 hw => ?_)
      refine h.cSl (pc := 67) [.long v4, .int r64] [] (m_X4_digestWith hG  hw) gX4_digestWithRow_X4_digestWith rfl hd_X4_digestWith (by decide) rfl rfl (Nat.le_of_ble_eq_true rfl) dX4_digestWithRow_67 (fun r67 M67 hw => ?_)
      refine h.lstore (pc := 70) [(4, .long r67), (0, .ref (gA G (0, 0, 0))), (3, .int v3), (6, .int v6), (7, .int v7)] dX4_digestWithRow_70 (by decide) rfl ?_
      refine h.iinc (pc := 72) [(7, .int (v7 + 1)), (4, .long r67), (0, .ref (gA G (0, 0, 0))), (3, .int v3), (6, .int v6)] dX4_digestWithRow_72 4 rfl (inc_ (by decide)) (by decide) rfl ?_
      refine h.goto (pc := 75) 50 dX4_digestWithRow_75 (by decide) ?_
      refine h.sub (pc := 50) [2, 3, 1, 4, 0] (lv' := [(0, .ref (gA G (0, 0, 0))), (3, .int v3), (4, .long r67), (6, .int v6), (7, .int (v7 + 1))]) rfl ?_
      exact ih r67 (v7 + 1) M67 hw
def wp_X4_digestWithRow_L78 (v1 : Int64) (v3 : Int32) (B : Int64 → Int32 → Mem → Prop) (X : Int64 → Mem → Prop) (Q : Int64 → Mem → Prop) (v4 : Int64) (v6 : Int32) (M : Mem) : Prop := B v4 (v6 + 1) M
set_option maxHeartbeats 4000000 in
set_option maxRecDepth 100000 in
theorem l_X4_digestWithRow_L78 {l : Launch} {G : GG} {Z : ZT} (h : AX l G cX4_digestWithRow 8 RX4 wsX4_digestWithRow F_X4_digestWithRow L_X4_digestWithRow Z) (hG : GoodG G) {Q : Int64 → Mem → Prop} (hr : RETl cX4_digestWithRow Q Z) (v1 : Int64) (v3 : Int32)  (v4 : Int64) (v6 : Int32)  {B : Int64 → Int32 → Mem → Prop} (hB : ∀ (v4 : Int64) (v6 : Int32) (M : Mem), B v4 v6 M → Z 35 [(0, .ref (gA G (0, 0, 0))), (3, .int v3), (4, .long v4), (6, .int v6)] [] M) {X : Int64 → Mem → Prop} (hX : ∀ (v4 : Int64) (M : Mem), X v4 M → Z 84 [(4, .long v4)] [] M) (M : Mem) (hw : wp_X4_digestWithRow_L78 v1 v3 B X Q v4 v6 M) : Z 78 [(0, .ref (gA G (0, 0, 0))), (3, .int v3), (4, .long v4), (6, .int v6)] [] M := by
  unfold wp_X4_digestWithRow_L78 at hw
  refine h.iinc (pc := 78) [(6, .int (v6 + 1)), (0, .ref (gA G (0, 0, 0))), (3, .int v3), (4, .long v4)] dX4_digestWithRow_78 3 rfl (inc_ (by decide)) (by decide) rfl ?_
  refine h.goto (pc := 81) 35 dX4_digestWithRow_81 (by decide) ?_
  refine h.sub (pc := 35) [1, 2, 3, 0] (lv' := [(0, .ref (gA G (0, 0, 0))), (3, .int v3), (4, .long v4), (6, .int (v6 + 1))]) rfl ?_
  exact hB v4 (v6 + 1) M hw
def wp_X4_digestWithRow_L35 (v1 : Int64) (v3 : Int32)  (X : Int64 → Mem → Prop) (Q : Int64 → Mem → Prop) : Nat → Int64 → Int32 → Mem → Prop
  | 0, _, _, _ => False
  | n + 1, v4, v6, M => (((M 1 0 0 0) ≤ v6 → X v4 M) ∧ (¬ ((M 1 0 0 0) ≤ v6) → ∃ n50, wp_X4_digestWithRow_L50 v1 v3 v6 (fun v4 M => wp_X4_digestWithRow_L78 v1 v3 (wp_X4_digestWithRow_L35 v1 v3 X Q n) X Q v4 v6 M) Q n50 v4 0 M))
set_option maxHeartbeats 4000000 in
set_option maxRecDepth 100000 in
theorem l_X4_digestWithRow_L35 {l : Launch} {G : GG} {Z : ZT} (h : AX l G cX4_digestWithRow 8 RX4 wsX4_digestWithRow F_X4_digestWithRow L_X4_digestWithRow Z) (hG : GoodG G) {Q : Int64 → Mem → Prop} (hr : RETl cX4_digestWithRow Q Z) (v1 : Int64) (v3 : Int32)    (X : Int64 → Mem → Prop) (hX : ∀ (v4 : Int64) (M : Mem), X v4 M → Z 84 [(4, .long v4)] [] M) : ∀ (n : Nat) (v4 : Int64) (v6 : Int32) (M : Mem), wp_X4_digestWithRow_L35 v1 v3 X Q n v4 v6 M → Z 35 [(0, .ref (gA G (0, 0, 0))), (3, .int v3), (4, .long v4), (6, .int v6)] [] M := by
  intro n
  induction n with
  | zero => intro v4 v6 M hw; exact hw.elim
  | succ n ih =>
    intro v4 v6 M hw
    unfold wp_X4_digestWithRow_L35 at hw
    refine h.iload (pc := 35) dX4_digestWithRow_35 3 rfl ?_
    refine h.aload_n (pc := 37) dX4_digestWithRow_37 rfl 0 rfl ?_
    refine h.getf (pc := 38) (f := 0) (o := 0) (i := 0) (ci := 4) (C := RX4) (T := TX4) (N := 8) (j := 0) (v := .ref (gA G (1, 0, 0))) (k_1 1 (by decide) (by decide)) rfl rfl (by decide) inX4_digestWithRow_RX4 kX4_digestWithRow_12 rfl dX4_digestWithRow_38 ?_
    refine h.getN (pc := 41) (f := 1) (o := 0) (i := 0) (ci := 3) (C := RX3) (T := TX3) (N := 9) (j := 0) (v := .int (M 1 0 0 0)) (k_1 2 (by decide) (by decide)) rfl rfl (by decide) inX4_digestWithRow_RX3 (own0 := RX4) (host := "TableWright") rfl nw_19 rfl dX4_digestWithRow_41 ?_
    refine h.icmp_ge (pc := 44) 84 dX4_digestWithRow_44 (by decide) (fun c44 => ?_) (fun c44 => ?_)
    · replace hw := hw.1 c44
      refine h.sub (pc := 84) [2] (lv' := [(4, .long v4)]) rfl ?_
      exact hX v4 M hw
    · replace hw := hw.2 c44
      refine h.iconst (pc := 47) (v := 0) dX4_digestWithRow_47 (by decide) ?_
      refine h.istore (pc := 48) [(7, .int 0), (0, .ref (gA G (0, 0, 0))), (3, .int v3), (4, .long v4), (6, .int v6)] dX4_digestWithRow_48 (by decide) rfl ?_
      refine h.sub (pc := 50) [1, 2, 3, 4, 0] (lv' := [(0, .ref (gA G (0, 0, 0))), (3, .int v3), (4, .long v4), (6, .int v6), (7, .int 0)]) rfl ?_
      obtain ⟨n50, hw⟩ := hw
      exact l_X4_digestWithRow_L50 h hG hr v1 v3 v6 _ (fun v4 M hw => by
          exact l_X4_digestWithRow_L78 h hG hr v1 v3 v4 v6 ih hX M hw) n50 v4 0 M hw
def wp_X4_digestWithRow_L32 (v1 : Int64) (v3 : Int32)  (Q : Int64 → Mem → Prop) (v4 : Int64) (M : Mem) : Prop := ∃ n35, wp_X4_digestWithRow_L35 v1 v3 (fun v4 M => Q v4 M) Q n35 v4 0 M
set_option maxHeartbeats 4000000 in
set_option maxRecDepth 100000 in
theorem l_X4_digestWithRow_L32 {l : Launch} {G : GG} {Z : ZT} (h : AX l G cX4_digestWithRow 8 RX4 wsX4_digestWithRow F_X4_digestWithRow L_X4_digestWithRow Z) (hG : GoodG G) {Q : Int64 → Mem → Prop} (hr : RETl cX4_digestWithRow Q Z) (v1 : Int64) (v3 : Int32)  (v4 : Int64)  (M : Mem) (hw : wp_X4_digestWithRow_L32 v1 v3 Q v4 M) : Z 32 [(0, .ref (gA G (0, 0, 0))), (3, .int v3), (4, .long v4)] [] M := by
  unfold wp_X4_digestWithRow_L32 at hw
  refine h.iconst (pc := 32) (v := 0) dX4_digestWithRow_32 (by decide) ?_
  refine h.istore (pc := 33) [(6, .int 0), (0, .ref (gA G (0, 0, 0))), (3, .int v3), (4, .long v4)] dX4_digestWithRow_33 (by decide) rfl ?_
  refine h.sub (pc := 35) [1, 2, 3, 0] (lv' := [(0, .ref (gA G (0, 0, 0))), (3, .int v3), (4, .long v4), (6, .int 0)]) rfl ?_
  obtain ⟨n35, hw⟩ := hw
  exact l_X4_digestWithRow_L35 h hG hr v1 v3 _ (fun v4 M hw => by
      refine h.lload (pc := 84) dX4_digestWithRow_84 0 rfl ?_
      exact hr _ _ _ _ dX4_digestWithRow_86 hw) n35 v4 0 M hw
def wp_X4_digestWithRow (v1 : Int64) (v3 : Int32) (M : Mem) (Q : Int64 → Mem → Prop) : Prop := ∃ n6, wp_X4_digestWithRow_L6 v1 v3 (fun v4 M => wp_X4_digestWithRow_L32 v1 v3 Q v4 M) Q n6 v1 0 M
set_option maxHeartbeats 4000000 in
set_option maxRecDepth 100000 in
theorem m_X4_digestWithRow {l : Launch} {G : GG} (hG : GoodG G) {v1 : Int64} {v3 : Int32}  {M : Mem} {Q : Int64 → Mem → Prop}  (hw : wp_X4_digestWithRow v1 v3 M Q) : CTl l G yX4_digestWithRow wsX4_digestWithRow F_X4_digestWithRow L_X4_digestWithRow [.ref (gA G (0, 0, 0)), .long v1, .int v3] M Q := by
  refine CTl_mk hG (by decide +kernel) rfl (Nat.le_of_ble_eq_true rfl) (fun Z (h : AX l G cX4_digestWithRow 8 RX4 wsX4_digestWithRow F_X4_digestWithRow L_X4_digestWithRow Z) hr => ?_)
  show Z 0 [(0, .ref (gA G (0, 0, 0))), (1, .long v1), (3, .int v3)] [] M
  unfold wp_X4_digestWithRow at hw
  refine h.lload_n (pc := 0) dX4_digestWithRow_0 rfl 1 rfl ?_
  refine h.lstore (pc := 1) [(4, .long v1), (0, .ref (gA G (0, 0, 0))), (1, .long v1), (3, .int v3)] dX4_digestWithRow_1 (by decide) rfl ?_
  refine h.iconst (pc := 3) (v := 0) dX4_digestWithRow_3 (by decide) ?_
  refine h.istore (pc := 4) [(6, .int 0), (4, .long v1), (0, .ref (gA G (0, 0, 0))), (1, .long v1), (3, .int v3)] dX4_digestWithRow_4 (by decide) rfl ?_
  refine h.sub (pc := 6) [2, 4, 1, 0] (lv' := [(0, .ref (gA G (0, 0, 0))), (3, .int v3), (4, .long v1), (6, .int 0)]) rfl ?_
  obtain ⟨n6, hw⟩ := hw
  exact l_X4_digestWithRow_L6 h hG hr v1 v3 _ (fun v4 M hw => by
      exact l_X4_digestWithRow_L32 h hG hr v1 v3 v4 M hw) n6 v1 0 M hw
-- X4_digestWithPage
theorem inX4_digestWithPage_RX3 : ∀ w ∈ u_ws RX3 TX3 9, w ∈ wsX4_digestWithPage := by decide +kernel
theorem inX4_digestWithPage_RX4 : ∀ w ∈ u_ws RX4 TX4 8, w ∈ wsX4_digestWithPage := by decide +kernel
theorem kX4_digestWithPage_12 : Cond.fieldLink RX4 12 (TX4 0).1 (TX4 0).2.1 (TX4 0).2.2.1 ∈ wsX4_digestWithPage := by decide +kernel
theorem kX4_digestWithPage_19 : Cond.fieldLink RX4 19 (TX4 1).1 (TX4 1).2.1 (TX4 1).2.2.1 ∈ wsX4_digestWithPage := by decide +kernel
abbrev F_X4_digestWithPage : Nat := 3
abbrev L_X4_digestWithPage : Nat := 70
theorem hd_X4_digestWithPage : yX4_digestWithPage.cls = RX4 ∧ yX4_digestWithPage.cls ≠ "java/lang/invoke/MethodHandle" ∧ yX4_digestWithPage.cls ≠ "java/lang/invoke/VarHandle" ∧ (parseMethodDescriptor yX4_digestWithPage.desc).map (fun d => d.parameters.length) = some 2 := by decide +kernel
def wp_X4_digestWithPage_L6 (v1 : Int64) (v3 : Int32)  (X : Int64 → Mem → Prop) (Q : Int64 → Mem → Prop) : Nat → Int64 → Int32 → Mem → Prop
  | 0, _, _, _ => False
  | n + 1, v4, v6, M => ((4 < v6 → X v4 M) ∧ (¬ (4 < v6) → (wp_X4_factOfPage v3 v6 M (fun r18 M18 => (wp_X4_digestWith v4 r18 M18 (fun r21 M21 => (wp_X4_digestWithPage_L6 v1 v3 X Q n) r21 (v6 + 1) M21))))))
set_option maxHeartbeats 4000000 in
set_option maxRecDepth 100000 in
theorem l_X4_digestWithPage_L6 {l : Launch} {G : GG} {Z : ZT} (h : AX l G cX4_digestWithPage 7 RX4 wsX4_digestWithPage F_X4_digestWithPage L_X4_digestWithPage Z) (hG : GoodG G) {Q : Int64 → Mem → Prop} (hr : RETl cX4_digestWithPage Q Z) (v1 : Int64) (v3 : Int32)    (X : Int64 → Mem → Prop) (hX : ∀ (v4 : Int64) (M : Mem), X v4 M → Z 32 [(0, .ref (gA G (0, 0, 0))), (3, .int v3), (4, .long v4)] [] M) : ∀ (n : Nat) (v4 : Int64) (v6 : Int32) (M : Mem), wp_X4_digestWithPage_L6 v1 v3 X Q n v4 v6 M → Z 6 [(0, .ref (gA G (0, 0, 0))), (3, .int v3), (4, .long v4), (6, .int v6)] [] M := by
  intro n
  induction n with
  | zero => intro v4 v6 M hw; exact hw.elim
  | succ n ih =>
    intro v4 v6 M hw
    unfold wp_X4_digestWithPage_L6 at hw
    refine h.iload (pc := 6) dX4_digestWithPage_6 3 rfl ?_
    refine h.iconst (pc := 8) (v := 4) dX4_digestWithPage_8 (by decide) ?_
    refine h.icmp_gt (pc := 9) 32 dX4_digestWithPage_9 (by decide) (fun c9 => ?_) (fun c9 => ?_)
    · replace hw := hw.1 c9
      refine h.sub (pc := 32) [0, 1, 2] (lv' := [(0, .ref (gA G (0, 0, 0))), (3, .int v3), (4, .long v4)]) rfl ?_
      exact hX v4 M hw
    · replace hw := hw.2 c9
      refine h.lload (pc := 12) dX4_digestWithPage_12 2 rfl ?_
      refine h.aload_n (pc := 14) dX4_digestWithPage_14 rfl 0 rfl ?_
      refine h.iload_n (pc := 15) dX4_digestWithPage_15 rfl 1 rfl ?_
      refine h.iload (pc := 16) dX4_digestWithPage_16 3 rfl ?_
      refine h.cVi (pc := 18) [.int v3, .int v6] (0, 0, 0) [.long v4] (m_X4_factOfPage hG  hw) gX4_digestWithPage_X4_factOfPage rfl hd_X4_factOfPage (by decide) (k_1 1 (by decide) (by decide)) rfl rfl rfl rfl rfl (Nat.le_of_ble_eq_true rfl) dX4_digestWithPage_18 (fun r18 M18 hw => ?_)
      refine h.cSl (pc := 21) [.long v4, .int r18] [] (m_X4_digestWith hG  hw) gX4_digestWithPage_X4_digestWith rfl hd_X4_digestWith (by decide) rfl rfl (Nat.le_of_ble_eq_true rfl) dX4_digestWithPage_21 (fun r21 M21 hw => ?_)
      refine h.lstore (pc := 24) [(4, .long r21), (0, .ref (gA G (0, 0, 0))), (3, .int v3), (6, .int v6)] dX4_digestWithPage_24 (by decide) rfl ?_
      refine h.iinc (pc := 26) [(6, .int (v6 + 1)), (4, .long r21), (0, .ref (gA G (0, 0, 0))), (3, .int v3)] dX4_digestWithPage_26 3 rfl (inc_ (by decide)) (by decide) rfl ?_
      refine h.goto (pc := 29) 6 dX4_digestWithPage_29 (by decide) ?_
      refine h.sub (pc := 6) [2, 3, 1, 0] (lv' := [(0, .ref (gA G (0, 0, 0))), (3, .int v3), (4, .long r21), (6, .int (v6 + 1))]) rfl ?_
      exact ih r21 (v6 + 1) M21 hw
def wp_X4_digestWithPage_L35 (v1 : Int64) (v3 : Int32)  (X : Int64 → Mem → Prop) (Q : Int64 → Mem → Prop) : Nat → Int64 → Int32 → Mem → Prop
  | 0, _, _, _ => False
  | n + 1, v4, v6, M => (((M 1 0 0 0) ≤ v6 → X v4 M) ∧ (¬ ((M 1 0 0 0) ≤ v6) → (wp_X2_chosen 0 M (fun r53 M53 => (wp_X0_carriedOn r53 0 v3 v6 M53 (fun r63 M63 => (wp_X4_digestWith v4 r63 M63 (fun r66 M66 => (wp_X4_digestWithPage_L35 v1 v3 X Q n) r66 (v6 + 1) M66))))))))
set_option maxHeartbeats 4000000 in
set_option maxRecDepth 100000 in
theorem l_X4_digestWithPage_L35 {l : Launch} {G : GG} {Z : ZT} (h : AX l G cX4_digestWithPage 7 RX4 wsX4_digestWithPage F_X4_digestWithPage L_X4_digestWithPage Z) (hG : GoodG G) {Q : Int64 → Mem → Prop} (hr : RETl cX4_digestWithPage Q Z) (v1 : Int64) (v3 : Int32)    (X : Int64 → Mem → Prop) (hX : ∀ (v4 : Int64) (M : Mem), X v4 M → Z 77 [(4, .long v4)] [] M) : ∀ (n : Nat) (v4 : Int64) (v6 : Int32) (M : Mem), wp_X4_digestWithPage_L35 v1 v3 X Q n v4 v6 M → Z 35 [(0, .ref (gA G (0, 0, 0))), (3, .int v3), (4, .long v4), (6, .int v6)] [] M := by
  intro n
  induction n with
  | zero => intro v4 v6 M hw; exact hw.elim
  | succ n ih =>
    intro v4 v6 M hw
    unfold wp_X4_digestWithPage_L35 at hw
    refine h.iload (pc := 35) dX4_digestWithPage_35 3 rfl ?_
    refine h.aload_n (pc := 37) dX4_digestWithPage_37 rfl 0 rfl ?_
    refine h.getf (pc := 38) (f := 0) (o := 0) (i := 0) (ci := 4) (C := RX4) (T := TX4) (N := 8) (j := 0) (v := .ref (gA G (1, 0, 0))) (k_1 1 (by decide) (by decide)) rfl rfl (by decide) inX4_digestWithPage_RX4 kX4_digestWithPage_12 rfl dX4_digestWithPage_38 ?_
    refine h.getN (pc := 41) (f := 1) (o := 0) (i := 0) (ci := 3) (C := RX3) (T := TX3) (N := 9) (j := 0) (v := .int (M 1 0 0 0)) (k_1 2 (by decide) (by decide)) rfl rfl (by decide) inX4_digestWithPage_RX3 (own0 := RX4) (host := "TableWright") rfl nw_19 rfl dX4_digestWithPage_41 ?_
    refine h.icmp_ge (pc := 44) 77 dX4_digestWithPage_44 (by decide) (fun c44 => ?_) (fun c44 => ?_)
    · replace hw := hw.1 c44
      refine h.sub (pc := 77) [2] (lv' := [(4, .long v4)]) rfl ?_
      exact hX v4 M hw
    · replace hw := hw.2 c44
      refine h.lload (pc := 47) dX4_digestWithPage_47 2 rfl ?_
      refine h.aload_n (pc := 49) dX4_digestWithPage_49 rfl 0 rfl ?_
      refine h.getf (pc := 50) (f := 0) (o := 0) (i := 0) (ci := 4) (C := RX4) (T := TX4) (N := 8) (j := 1) (v := .ref (gA G (2, 0, 0))) (k_1 1 (by decide) (by decide)) rfl rfl (by decide) inX4_digestWithPage_RX4 kX4_digestWithPage_19 rfl dX4_digestWithPage_50 ?_
      refine h.cVr (pc := 53) [] (2, 0, 0) [.long v4] (m_X2_chosen hG (by decide) hw) gX4_digestWithPage_X2_chosen rfl hd_X2_chosen (by decide) (k_1 2 (by decide) (by decide)) rfl rfl rfl rfl rfl (Nat.le_of_ble_eq_true rfl) dX4_digestWithPage_53 (fun r53 M53 h5_53 hw => ?_)
      refine h.aload_n (pc := 56) dX4_digestWithPage_56 rfl 0 rfl ?_
      refine h.getf (pc := 57) (f := 0) (o := 0) (i := 0) (ci := 4) (C := RX4) (T := TX4) (N := 8) (j := 0) (v := .ref (gA G (1, 0, 0))) (k_1 1 (by decide) (by decide)) rfl rfl (by decide) inX4_digestWithPage_RX4 kX4_digestWithPage_12 rfl dX4_digestWithPage_57 ?_
      refine h.iload_n (pc := 60) dX4_digestWithPage_60 rfl 1 rfl ?_
      refine h.iload (pc := 61) dX4_digestWithPage_61 3 rfl ?_
      refine h.cVi (pc := 63) [.ref (gA G (1, 0, 0)), .int v3, .int v6] (3, r53, 0) [.long v4] (m_X0_carriedOn hG h5_53 (by decide) hw) gX4_digestWithPage_X0_carriedOn rfl hd_X0_carriedOn (by decide) (k_1 5 (by decide) h5_53) rfl rfl rfl rfl rfl (Nat.le_of_ble_eq_true rfl) dX4_digestWithPage_63 (fun r63 M63 hw => ?_)
      refine h.cSl (pc := 66) [.long v4, .int r63] [] (m_X4_digestWith hG  hw) gX4_digestWithPage_X4_digestWith rfl hd_X4_digestWith (by decide) rfl rfl (Nat.le_of_ble_eq_true rfl) dX4_digestWithPage_66 (fun r66 M66 hw => ?_)
      refine h.lstore (pc := 69) [(4, .long r66), (0, .ref (gA G (0, 0, 0))), (3, .int v3), (6, .int v6)] dX4_digestWithPage_69 (by decide) rfl ?_
      refine h.iinc (pc := 71) [(6, .int (v6 + 1)), (4, .long r66), (0, .ref (gA G (0, 0, 0))), (3, .int v3)] dX4_digestWithPage_71 3 rfl (inc_ (by decide)) (by decide) rfl ?_
      refine h.goto (pc := 74) 35 dX4_digestWithPage_74 (by decide) ?_
      refine h.sub (pc := 35) [2, 3, 1, 0] (lv' := [(0, .ref (gA G (0, 0, 0))), (3, .int v3), (4, .long r66), (6, .int (v6 + 1))]) rfl ?_
      exact ih r66 (v6 + 1) M66 hw
def wp_X4_digestWithPage_L32 (v1 : Int64) (v3 : Int32)  (Q : Int64 → Mem → Prop) (v4 : Int64) (M : Mem) : Prop := ∃ n35, wp_X4_digestWithPage_L35 v1 v3 (fun v4 M => Q v4 M) Q n35 v4 0 M
set_option maxHeartbeats 4000000 in
set_option maxRecDepth 100000 in
theorem l_X4_digestWithPage_L32 {l : Launch} {G : GG} {Z : ZT} (h : AX l G cX4_digestWithPage 7 RX4 wsX4_digestWithPage F_X4_digestWithPage L_X4_digestWithPage Z) (hG : GoodG G) {Q : Int64 → Mem → Prop} (hr : RETl cX4_digestWithPage Q Z) (v1 : Int64) (v3 : Int32)  (v4 : Int64)  (M : Mem) (hw : wp_X4_digestWithPage_L32 v1 v3 Q v4 M) : Z 32 [(0, .ref (gA G (0, 0, 0))), (3, .int v3), (4, .long v4)] [] M := by
  unfold wp_X4_digestWithPage_L32 at hw
  refine h.iconst (pc := 32) (v := 0) dX4_digestWithPage_32 (by decide) ?_
  refine h.istore (pc := 33) [(6, .int 0), (0, .ref (gA G (0, 0, 0))), (3, .int v3), (4, .long v4)] dX4_digestWithPage_33 (by decide) rfl ?_
  refine h.sub (pc := 35) [1, 2, 3, 0] (lv' := [(0, .ref (gA G (0, 0, 0))), (3, .int v3), (4, .long v4), (6, .int 0)]) rfl ?_
  obtain ⟨n35, hw⟩ := hw
  exact l_X4_digestWithPage_L35 h hG hr v1 v3 _ (fun v4 M hw => by
      refine h.lload (pc := 77) dX4_digestWithPage_77 0 rfl ?_
      exact hr _ _ _ _ dX4_digestWithPage_79 hw) n35 v4 0 M hw
def wp_X4_digestWithPage (v1 : Int64) (v3 : Int32) (M : Mem) (Q : Int64 → Mem → Prop) : Prop := ∃ n6, wp_X4_digestWithPage_L6 v1 v3 (fun v4 M => wp_X4_digestWithPage_L32 v1 v3 Q v4 M) Q n6 v1 0 M
set_option maxHeartbeats 4000000 in
set_option maxRecDepth 100000 in
theorem m_X4_digestWithPage {l : Launch} {G : GG} (hG : GoodG G) {v1 : Int64} {v3 : Int32}  {M : Mem} {Q : Int64 → Mem → Prop}  (hw : wp_X4_digestWithPage v1 v3 M Q) : CTl l G yX4_digestWithPage wsX4_digestWithPage F_X4_digestWithPage L_X4_digestWithPage [.ref (gA G (0, 0, 0)), .long v1, .int v3] M Q := by
  refine CTl_mk hG (by decide +kernel) rfl (Nat.le_of_ble_eq_true rfl) (fun Z (h : AX l G cX4_digestWithPage 7 RX4 wsX4_digestWithPage F_X4_digestWithPage L_X4_digestWithPage Z) hr => ?_)
  show Z 0 [(0, .ref (gA G (0, 0, 0))), (1, .long v1), (3, .int v3)] [] M
  unfold wp_X4_digestWithPage at hw
  refine h.lload_n (pc := 0) dX4_digestWithPage_0 rfl 1 rfl ?_
  refine h.lstore (pc := 1) [(4, .long v1), (0, .ref (gA G (0, 0, 0))), (1, .long v1), (3, .int v3)] dX4_digestWithPage_1 (by decide) rfl ?_
  refine h.iconst (pc := 3) (v := 0) dX4_digestWithPage_3 (by decide) ?_
  refine h.istore (pc := 4) [(6, .int 0), (4, .long v1), (0, .ref (gA G (0, 0, 0))), (1, .long v1), (3, .int v3)] dX4_digestWithPage_4 (by decide) rfl ?_
  refine h.sub (pc := 6) [2, 4, 1, 0] (lv' := [(0, .ref (gA G (0, 0, 0))), (3, .int v3), (4, .long v1), (6, .int 0)]) rfl ?_
  obtain ⟨n6, hw⟩ := hw
  exact l_X4_digestWithPage_L6 h hG hr v1 v3 _ (fun v4 M hw => by
      exact l_X4_digestWithPage_L32 h hG hr v1 v3 v4 M hw) n6 v1 0 M hw
