def scv (G : GG) (k : Int32) : Int32 := if k < nI (gL G) then gS G k.toNatClampNeg else 790386105 * (k + 3)
def wp_L_cell (sc : Int32 → Int32) (v1 : Int32) (M : Mem) (Q : Int32 → Mem → Prop) : Prop := 0 ≤ v1 ∧ Q (sc v1) M
theorem hd_L_cell : yL_cell.cls ≠ "java/lang/invoke/MethodHandle" ∧ yL_cell.cls ≠ "java/lang/invoke/VarHandle" ∧ (parseMethodDescriptor yL_cell.desc).map (fun d => d.parameters.length) = some 2 := by decide +kernel
set_option maxHeartbeats 4000000 in
set_option maxRecDepth 100000 in
theorem m_L_cell {l : Launch} {G : GG} (hG : GoodG G) {sc : Int32 → Int32} {v1 : Int32} {M : Mem} {Q : Int32 → Mem → Prop} (hsc : sc = scv G) (hgL : gL G < 2 ^ 31) (hw : wp_L_cell sc v1 M Q) : CTi l G yL_cell wsL_cell 0 0 [.ref (gB G), .int v1] M Q := by
  refine CTi_mk hG (by decide +kernel) rfl (Nat.le_of_ble_eq_true rfl) (fun Z (h : AX l G cL_cell 2 RL wsL_cell 0 0 Z) hr => ?_)
  show Z 0 [(0, .ref (gB G)), (1, .int v1)] [] M
  obtain ⟨h0, hw⟩ := hw
  subst hsc
  unfold scv at hw
  refine h.iload_n (pc := 0) dL_cell_0 rfl 1 rfl ?_
  refine h.aload_n (pc := 1) dL_cell_1 rfl 0 rfl ?_
  refine h.slen (pc := 2) dL_cell_2 ?_
  refine h.icmp_ge (pc := 3) 12 dL_cell_3 (by decide) (fun c => ?_) (fun c => ?_)
  · rw [if_neg (Int32.not_lt.mpr c)] at hw
    refine h.ldc (pc := 12) (v := 790386105) dL_cell_12 (by decide +kernel) ?_
    refine h.iload_n (pc := 14) dL_cell_14 rfl 1 rfl ?_
    refine h.iconst (pc := 15) (v := 3) dL_cell_15 (by decide) ?_
    refine h.iadd (pc := 16) dL_cell_16 ?_
    refine h.imul (pc := 17) dL_cell_17 ?_
    exact hr _ _ _ _ dL_cell_18 hw
  · rw [if_pos (Int32.not_le.mp c)] at hw
    have hin : vp_in v1 (gL G) := by
      obtain ⟨j, hj, rfl⟩ := nI_of (x := v1) (Int32.not_lt.mpr h0)
      refine vp_in_nI ?_ hgL
      rcases Nat.lt_or_ge j (gL G) with q | q
      · exact q
      · exact absurd (nI_le q hj) c
    refine h.aload_n (pc := 6) dL_cell_6 rfl 0 rfl ?_
    refine h.iload_n (pc := 7) dL_cell_7 rfl 1 rfl ?_
    refine h.sld (pc := 8) hin dL_cell_8 ?_
    refine h.goto (pc := 9) 18 dL_cell_9 (by decide) ?_
    exact hr _ _ _ _ dL_cell_18 hw
abbrev F_L_law : Nat := 12
abbrev L_L_law : Nat := 468
def wp_L_lawA_L54 (nT : Nat) (sc : Int32 → Int32) (v2 : Int32) (B : Int32 → Mem → Prop) (X : Mem → Prop) (Q : Int32 → Mem → Prop) (v4 : Int32) (t0 : Int32) (t1 : Int32) (M : Mem) : Prop := (vp_in t1 nT ∧ (zb t0 ∧ (∀ M54 : Mem, M54 = sM M 27 0 0 t1.toNatClampNeg t0 → (vp_in v4 nT ∧ (wp_L_cell sc v4 M54 (fun r64 M64 => (wp_L_below (r64 >>> (3 &&& 31)) 12 M64 (fun r71 M71 => (wp_X4_column (M54 27 0 0 v4.toNatClampNeg) (1 + r71) M71 (fun r75 M75 => ((r75 = v4 → B (v4 + 1) M75) ∧ (¬ (r75 = v4) → Q 0 M75))))))))))))
set_option maxHeartbeats 4000000 in
set_option maxRecDepth 100000 in
theorem l_L_lawA_L54 {l : Launch} {G : GG} {Z : ZT} (h : AX l G cL_law 17 RL wsL_law F_L_law L_L_law Z) (hG : GoodG G) {Q : Int32 → Mem → Prop} (hr : RETz cL_law Q Z) (nT : Nat) (sc : Int32 → Int32) (v2 : Int32) (hn27 : ∀ v, ctv G 27 0 0 v = .inl (gZ G, nT, .inl v)) (hk27 : (27, 0, 0) ∈ KS G) (hsc : sc = scv G) (hgL : gL G < 2 ^ 31) (v4 : Int32) (t0 : Int32) (t1 : Int32)  {B : Int32 → Mem → Prop} (hB : ∀ (v4 : Int32) (M : Mem), B v4 M → Z 27 [(0, .ref (gB G)), (1, .ref (gA G (0, 0, 0))), (2, .int v2), (3, .ref (gA G (27, 0, 0))), (4, .int v4)] [] M) {X : Mem → Prop} (hX : ∀  (M : Mem), X  M → Z 91 [(0, .ref (gB G)), (1, .ref (gA G (0, 0, 0))), (2, .int v2), (3, .ref (gA G (27, 0, 0)))] [] M) (M : Mem) (hw : wp_L_lawA_L54 nT sc v2 B X Q v4 t0 t1 M) : Z 54 [(0, .ref (gB G)), (1, .ref (gA G (0, 0, 0))), (2, .int v2), (3, .ref (gA G (27, 0, 0))), (4, .int v4)] [.int t0, .int t1, .ref (gA G (27, 0, 0))] M := by
  unfold wp_L_lawA_L54 at hw
  obtain ⟨hj54, hw⟩ := hw
  obtain ⟨hb54, hw⟩ := hw
  refine h.zast (pc := 54) (f := 27) (o := 0) (i := 0) (n := nT) (ix := t1) (x := t0) hk27 hn27 hj54 hb54 dL_law_54 (fun M54 e54 => ?_)
  replace hw := hw M54 e54
  refine h.aload_n (pc := 55) dL_law_55 rfl 1 rfl ?_
  refine h.aload_n (pc := 56) dL_law_56 rfl 3 rfl ?_
  refine h.iload (pc := 57) dL_law_57 4 rfl ?_
  obtain ⟨hj59, hw⟩ := hw
  refine h.zald (pc := 59) (f := 27) (o := 0) (i := 0) (n := nT) hk27 hn27 hj59 dL_law_59 ?_
  refine h.iconst (pc := 60) (v := 1) dL_law_60 (by decide) ?_
  refine h.aload_n (pc := 61) dL_law_61 rfl 0 rfl ?_
  refine h.iload (pc := 62) dL_law_62 4 rfl ?_
  refine h.cSi (pc := 64) [.ref (gB G), .int v4] [.int 1, .int (M54 27 0 0 v4.toNatClampNeg), .ref (gA G (0, 0, 0))] (m_L_cell hG hsc hgL hw) gL_law_L_cell rfl hd_L_cell (by decide) rfl rfl (Nat.le_of_ble_eq_true rfl) dL_law_64 (fun r64 M64 hw => ?_)
  refine h.iconst (pc := 67) (v := 3) dL_law_67 (by decide) ?_
  refine h.ishr (pc := 68) dL_law_68 ?_
  refine h.bipush (pc := 69) (v := 12) dL_law_69 (by decide) ?_
  refine h.cSi (pc := 71) [.int (r64 >>> (3 &&& 31)), .int 12] [.int 1, .int (M54 27 0 0 v4.toNatClampNeg), .ref (gA G (0, 0, 0))] (m_L_below hG  hw) gL_law_L_below rfl hd_L_below (by decide) rfl rfl (Nat.le_of_ble_eq_true rfl) dL_law_71 (fun r71 M71 hw => ?_)
  refine h.iadd (pc := 74) dL_law_74 ?_
  refine h.cVi (pc := 75) [.int (M54 27 0 0 v4.toNatClampNeg), .int (1 + r71)] (0, 0, 0) [] (m_X4_column hG  hw) gL_law_X4_column rfl hd_X4_column (by decide) (k_1 1 (by decide) (by decide)) rfl rfl rfl rfl rfl (Nat.le_of_ble_eq_true rfl) dL_law_75 (fun r75 M75 hw => ?_)
  refine h.iload (pc := 78) dL_law_78 4 rfl ?_
  refine h.icmp_eq (pc := 80) 85 dL_law_80 (by decide) (fun c80 => ?_) (fun c80 => ?_)
  · replace hw := hw.1 c80
    refine h.iinc (pc := 85) [(4, .int (v4 + 1)), (0, .ref (gB G)), (1, .ref (gA G (0, 0, 0))), (2, .int v2), (3, .ref (gA G (27, 0, 0)))] dL_law_85 4 rfl (inc_ (by decide)) (by decide) rfl ?_
    refine h.goto (pc := 88) 27 dL_law_88 (by decide) ?_
    refine h.sub (pc := 27) [1, 2, 3, 4, 0] (lv' := [(0, .ref (gB G)), (1, .ref (gA G (0, 0, 0))), (2, .int v2), (3, .ref (gA G (27, 0, 0))), (4, .int (v4 + 1))]) rfl ?_
    exact hB (v4 + 1) M75 hw
  · replace hw := hw.2 c80
    refine h.iconst (pc := 83) (v := 0) dL_law_83 (by decide) ?_
    exact hr _ _ _ _ dL_law_84 zb_0 hw
def wp_L_lawA_L27 (nT : Nat) (sc : Int32 → Int32) (v2 : Int32)  (X : Mem → Prop) (Q : Int32 → Mem → Prop) : Nat → Int32 → Mem → Prop
  | 0, _, _ => False
  | n + 1, v4, M => ((v2 ≤ v4 → X M) ∧ (¬ (v2 ≤ v4) → (wp_L_cell sc v4 M (fun r39 M39 => (wp_L_below r39 3 M39 (fun r43 M43 => ((r43 ≤ 0 → wp_L_lawA_L54 nT sc v2 (wp_L_lawA_L27 nT sc v2 X Q n) X Q v4 0 v4 M43) ∧ (¬ (r43 ≤ 0) → wp_L_lawA_L54 nT sc v2 (wp_L_lawA_L27 nT sc v2 X Q n) X Q v4 1 v4 M43))))))))
set_option maxHeartbeats 4000000 in
set_option maxRecDepth 100000 in
theorem l_L_lawA_L27 {l : Launch} {G : GG} {Z : ZT} (h : AX l G cL_law 17 RL wsL_law F_L_law L_L_law Z) (hG : GoodG G) {Q : Int32 → Mem → Prop} (hr : RETz cL_law Q Z) (nT : Nat) (sc : Int32 → Int32) (v2 : Int32) (hn27 : ∀ v, ctv G 27 0 0 v = .inl (gZ G, nT, .inl v)) (hk27 : (27, 0, 0) ∈ KS G) (hsc : sc = scv G) (hgL : gL G < 2 ^ 31)   (X : Mem → Prop) (hX : ∀  (M : Mem), X  M → Z 91 [(0, .ref (gB G)), (1, .ref (gA G (0, 0, 0))), (2, .int v2), (3, .ref (gA G (27, 0, 0)))] [] M) : ∀ (n : Nat) (v4 : Int32) (M : Mem), wp_L_lawA_L27 nT sc v2 X Q n v4 M → Z 27 [(0, .ref (gB G)), (1, .ref (gA G (0, 0, 0))), (2, .int v2), (3, .ref (gA G (27, 0, 0))), (4, .int v4)] [] M := by
  intro n
  induction n with
  | zero => intro v4 M hw; exact hw.elim
  | succ n ih =>
    intro v4 M hw
    unfold wp_L_lawA_L27 at hw
    refine h.iload (pc := 27) dL_law_27 4 rfl ?_
    refine h.iload_n (pc := 29) dL_law_29 rfl 2 rfl ?_
    refine h.icmp_ge (pc := 30) 91 dL_law_30 (by decide) (fun c30 => ?_) (fun c30 => ?_)
    · replace hw := hw.1 c30
      refine h.sub (pc := 91) [0, 1, 2, 3] (lv' := [(0, .ref (gB G)), (1, .ref (gA G (0, 0, 0))), (2, .int v2), (3, .ref (gA G (27, 0, 0)))]) rfl ?_
      exact hX M hw
    · replace hw := hw.2 c30
      refine h.aload_n (pc := 33) dL_law_33 rfl 3 rfl ?_
      refine h.iload (pc := 34) dL_law_34 4 rfl ?_
      refine h.aload_n (pc := 36) dL_law_36 rfl 0 rfl ?_
      refine h.iload (pc := 37) dL_law_37 4 rfl ?_
      refine h.cSi (pc := 39) [.ref (gB G), .int v4] [.int v4, .ref (gA G (27, 0, 0))] (m_L_cell hG hsc hgL hw) gL_law_L_cell rfl hd_L_cell (by decide) rfl rfl (Nat.le_of_ble_eq_true rfl) dL_law_39 (fun r39 M39 hw => ?_)
      refine h.iconst (pc := 42) (v := 3) dL_law_42 (by decide) ?_
      refine h.cSi (pc := 43) [.int r39, .int 3] [.int v4, .ref (gA G (27, 0, 0))] (m_L_below hG  hw) gL_law_L_below rfl hd_L_below (by decide) rfl rfl (Nat.le_of_ble_eq_true rfl) dL_law_43 (fun r43 M43 hw => ?_)
      refine h.if_le (pc := 46) 53 dL_law_46 (by decide) (fun c46 => ?_) (fun c46 => ?_)
      · replace hw := hw.1 c46
        refine h.iconst (pc := 53) (v := 0) dL_law_53 (by decide) ?_
        exact l_L_lawA_L54 h hG hr nT sc v2 hn27 hk27 hsc hgL v4 0 v4 ih hX M43 hw
      · replace hw := hw.2 c46
        refine h.iconst (pc := 49) (v := 1) dL_law_49 (by decide) ?_
        refine h.goto (pc := 50) 54 dL_law_50 (by decide) ?_
        exact l_L_lawA_L54 h hG hr nT sc v2 hn27 hk27 hsc hgL v4 1 v4 ih hX M43 hw
theorem kML_law_1_min_45 : Cond.methodLink RL 45 Lib.Math.min.name ∈ wsL_law := by decide +kernel
theorem kML_law_2_min : Cond.static Lib.Math.min.name ∈ wsL_law := by decide +kernel
theorem kML_law_3 : Cond.initialized "java/lang/Math" ∈ wsL_law := by decide +kernel
theorem kML_law_4_min : Cond.code Lib.Math.min.name Lib.Math.min.code 2 (some .int) ∈ wsL_law := by decide +kernel
def wp_L_lawB_L647 (nT : Nat) (sc : Int32 → Int32) (v2 : Int32) (B : Int32 → Mem → Prop) (X : Mem → Prop) (Q : Int32 → Mem → Prop) (v6 : Int32) (M : Mem) : Prop := B (v6 + 1) M
set_option maxHeartbeats 4000000 in
set_option maxRecDepth 100000 in
theorem l_L_lawB_L647 {l : Launch} {G : GG} {Z : ZT} (h : AX l G cL_law 17 RL wsL_law F_L_law L_L_law Z) (hG : GoodG G) {Q : Int32 → Mem → Prop} (hr : RETz cL_law Q Z) (nT : Nat) (sc : Int32 → Int32) (v2 : Int32) (hn27 : ∀ v, ctv G 27 0 0 v = .inl (gZ G, nT, .inl v)) (hk27 : (27, 0, 0) ∈ KS G) (hsc : sc = scv G) (hgL : gL G < 2 ^ 31) (hk28 : (28, 0, 0) ∈ KS G) (hk29 : (29, 0, 0) ∈ KS G) (v6 : Int32)  {B : Int32 → Mem → Prop} (hB : ∀ (v6 : Int32) (M : Mem), B v6 M → Z 106 [(0, .ref (gB G)), (1, .ref (gA G (0, 0, 0))), (2, .int v2), (3, .ref (gA G (27, 0, 0))), (4, .ref (gA G (28, 0, 0))), (5, .ref (gA G (29, 0, 0))), (6, .int v6)] [] M) {X : Mem → Prop} (hX : ∀  (M : Mem), X  M → Z 653 [(1, .ref (gA G (0, 0, 0))), (2, .int v2), (3, .ref (gA G (27, 0, 0)))] [] M) (M : Mem) (hw : wp_L_lawB_L647 nT sc v2 B X Q v6 M) : Z 647 [(0, .ref (gB G)), (1, .ref (gA G (0, 0, 0))), (2, .int v2), (3, .ref (gA G (27, 0, 0))), (4, .ref (gA G (28, 0, 0))), (5, .ref (gA G (29, 0, 0))), (6, .int v6)] [] M := by
  unfold wp_L_lawB_L647 at hw
  refine h.iinc (pc := 647) [(6, .int (v6 + 1)), (0, .ref (gB G)), (1, .ref (gA G (0, 0, 0))), (2, .int v2), (3, .ref (gA G (27, 0, 0))), (4, .ref (gA G (28, 0, 0))), (5, .ref (gA G (29, 0, 0)))] dL_law_647 6 rfl (inc_ (by decide)) (by decide) rfl ?_
  refine h.goto (pc := 650) 106 dL_law_650 (by decide) ?_
  refine h.sub (pc := 106) [1, 2, 3, 4, 5, 6, 0] (lv' := [(0, .ref (gB G)), (1, .ref (gA G (0, 0, 0))), (2, .int v2), (3, .ref (gA G (27, 0, 0))), (4, .ref (gA G (28, 0, 0))), (5, .ref (gA G (29, 0, 0))), (6, .int (v6 + 1))]) rfl ?_
  exact hB (v6 + 1) M hw
def wp_L_lawB_L633 (nT : Nat) (sc : Int32 → Int32) (v2 : Int32) (B : Int32 → Mem → Prop) (X : Mem → Prop) (Q : Int32 → Mem → Prop) (v6 : Int32) (t0 : Int32) (t1 : Int32) (M : Mem) : Prop := (wp_L_isLaid t1 (t0 - 3) M (fun r639 M639 => ((r639 = 0 → Q 0 M639) ∧ (¬ (r639 = 0) → wp_L_lawB_L647 nT sc v2 B X Q v6 M639))))
set_option maxHeartbeats 4000000 in
set_option maxRecDepth 100000 in
theorem l_L_lawB_L633 {l : Launch} {G : GG} {Z : ZT} (h : AX l G cL_law 17 RL wsL_law F_L_law L_L_law Z) (hG : GoodG G) {Q : Int32 → Mem → Prop} (hr : RETz cL_law Q Z) (nT : Nat) (sc : Int32 → Int32) (v2 : Int32) (hn27 : ∀ v, ctv G 27 0 0 v = .inl (gZ G, nT, .inl v)) (hk27 : (27, 0, 0) ∈ KS G) (hsc : sc = scv G) (hgL : gL G < 2 ^ 31) (hk28 : (28, 0, 0) ∈ KS G) (hk29 : (29, 0, 0) ∈ KS G) (v6 : Int32) (t0 : Int32) (t1 : Int32)  {B : Int32 → Mem → Prop} (hB : ∀ (v6 : Int32) (M : Mem), B v6 M → Z 106 [(0, .ref (gB G)), (1, .ref (gA G (0, 0, 0))), (2, .int v2), (3, .ref (gA G (27, 0, 0))), (4, .ref (gA G (28, 0, 0))), (5, .ref (gA G (29, 0, 0))), (6, .int v6)] [] M) {X : Mem → Prop} (hX : ∀  (M : Mem), X  M → Z 653 [(1, .ref (gA G (0, 0, 0))), (2, .int v2), (3, .ref (gA G (27, 0, 0)))] [] M) (M : Mem) (hw : wp_L_lawB_L633 nT sc v2 B X Q v6 t0 t1 M) : Z 633 [(0, .ref (gB G)), (1, .ref (gA G (0, 0, 0))), (2, .int v2), (3, .ref (gA G (27, 0, 0))), (4, .ref (gA G (28, 0, 0))), (5, .ref (gA G (29, 0, 0))), (6, .int v6)] [.int t0, .int t1, .ref (gA G (0, 0, 0))] M := by
  unfold wp_L_lawB_L633 at hw
  refine h.iconst (pc := 633) (v := 3) dL_law_633 (by decide) ?_
  refine h.isub (pc := 634) dL_law_634 ?_
  refine h.aload (pc := 635) dL_law_635 4 rfl ?_
  refine h.aload (pc := 637) dL_law_637 5 rfl ?_
  refine h.cSi (pc := 639) [.ref (gA G (0, 0, 0)), .int t1, .int (t0 - 3), .ref (gA G (28, 0, 0)), .ref (gA G (29, 0, 0))] [] (m_L_isLaid hG hk28 hk29 hw) gL_law_L_isLaid rfl hd_L_isLaid (by decide) rfl rfl (Nat.le_of_ble_eq_true rfl) dL_law_639 (fun r639 M639 hw => ?_)
  refine h.if_ne (pc := 642) 647 dL_law_642 (by decide) (fun c642 => ?_) (fun c642 => ?_)
  · replace hw := hw.2 c642
    exact l_L_lawB_L647 h hG hr nT sc v2 hn27 hk27 hsc hgL hk28 hk29 v6 hB hX M639 hw
  · replace hw := hw.1 c642
    refine h.iconst (pc := 645) (v := 0) dL_law_645 (by decide) ?_
    exact hr _ _ _ _ dL_law_646 zb_0 hw
def wp_L_lawB_L621 (nT : Nat) (sc : Int32 → Int32) (v2 : Int32) (B : Int32 → Mem → Prop) (X : Mem → Prop) (Q : Int32 → Mem → Prop) (v6 : Int32) (v11 : Int32) (v12 : Int32) (v16 : Int32) (t0 : Int32) (M : Mem) : Prop := ((v16 = 0 → wp_L_lawB_L633 nT sc v2 B X Q v6 v11 t0 M) ∧ (¬ (v16 = 0) → wp_L_lawB_L633 nT sc v2 B X Q v6 v12 t0 M))
set_option maxHeartbeats 4000000 in
set_option maxRecDepth 100000 in
theorem l_L_lawB_L621 {l : Launch} {G : GG} {Z : ZT} (h : AX l G cL_law 17 RL wsL_law F_L_law L_L_law Z) (hG : GoodG G) {Q : Int32 → Mem → Prop} (hr : RETz cL_law Q Z) (nT : Nat) (sc : Int32 → Int32) (v2 : Int32) (hn27 : ∀ v, ctv G 27 0 0 v = .inl (gZ G, nT, .inl v)) (hk27 : (27, 0, 0) ∈ KS G) (hsc : sc = scv G) (hgL : gL G < 2 ^ 31) (hk28 : (28, 0, 0) ∈ KS G) (hk29 : (29, 0, 0) ∈ KS G) (v6 : Int32) (v11 : Int32) (v12 : Int32) (v16 : Int32) (t0 : Int32)  {B : Int32 → Mem → Prop} (hB : ∀ (v6 : Int32) (M : Mem), B v6 M → Z 106 [(0, .ref (gB G)), (1, .ref (gA G (0, 0, 0))), (2, .int v2), (3, .ref (gA G (27, 0, 0))), (4, .ref (gA G (28, 0, 0))), (5, .ref (gA G (29, 0, 0))), (6, .int v6)] [] M) {X : Mem → Prop} (hX : ∀  (M : Mem), X  M → Z 653 [(1, .ref (gA G (0, 0, 0))), (2, .int v2), (3, .ref (gA G (27, 0, 0)))] [] M) (M : Mem) (hw : wp_L_lawB_L621 nT sc v2 B X Q v6 v11 v12 v16 t0 M) : Z 621 [(0, .ref (gB G)), (1, .ref (gA G (0, 0, 0))), (2, .int v2), (3, .ref (gA G (27, 0, 0))), (4, .ref (gA G (28, 0, 0))), (5, .ref (gA G (29, 0, 0))), (6, .int v6), (11, .int v11), (12, .int v12), (16, .int v16)] [.int t0, .ref (gA G (0, 0, 0))] M := by
  unfold wp_L_lawB_L621 at hw
  refine h.iload (pc := 621) dL_law_621 9 rfl ?_
  refine h.if_eq (pc := 623) 631 dL_law_623 (by decide) (fun c623 => ?_) (fun c623 => ?_)
  · replace hw := hw.1 c623
    refine h.iload (pc := 631) dL_law_631 7 rfl ?_
    refine h.sub (pc := 633) [0, 1, 2, 3, 4, 5, 6] (lv' := [(0, .ref (gB G)), (1, .ref (gA G (0, 0, 0))), (2, .int v2), (3, .ref (gA G (27, 0, 0))), (4, .ref (gA G (28, 0, 0))), (5, .ref (gA G (29, 0, 0))), (6, .int v6)]) rfl ?_
    exact l_L_lawB_L633 h hG hr nT sc v2 hn27 hk27 hsc hgL hk28 hk29 v6 v11 t0 hB hX M hw
  · replace hw := hw.2 c623
    refine h.iload (pc := 626) dL_law_626 8 rfl ?_
    refine h.goto (pc := 628) 633 dL_law_628 (by decide) ?_
    refine h.sub (pc := 633) [0, 1, 2, 3, 4, 5, 6] (lv' := [(0, .ref (gB G)), (1, .ref (gA G (0, 0, 0))), (2, .int v2), (3, .ref (gA G (27, 0, 0))), (4, .ref (gA G (28, 0, 0))), (5, .ref (gA G (29, 0, 0))), (6, .int v6)]) rfl ?_
    exact l_L_lawB_L633 h hG hr nT sc v2 hn27 hk27 hsc hgL hk28 hk29 v6 v12 t0 hB hX M hw
def wp_L_lawB_L598 (nT : Nat) (sc : Int32 → Int32) (v2 : Int32) (B : Int32 → Mem → Prop) (X : Mem → Prop) (Q : Int32 → Mem → Prop) (v6 : Int32) (v11 : Int32) (v12 : Int32) (v13 : Int32) (v16 : Int32) (t0 : Int32) (t1 : Int32) (M : Mem) : Prop := ((t1 = t0 → ((v13 < 0 → wp_L_lawB_L647 nT sc v2 B X Q v6 M) ∧ (¬ (v13 < 0) → ((v16 = 0 → wp_L_lawB_L621 nT sc v2 B X Q v6 v11 v12 v16 v12 M) ∧ (¬ (v16 = 0) → wp_L_lawB_L621 nT sc v2 B X Q v6 v11 v12 v16 v11 M))))) ∧ (¬ (t1 = t0) → Q 0 M))
set_option maxHeartbeats 4000000 in
set_option maxRecDepth 100000 in
theorem l_L_lawB_L598 {l : Launch} {G : GG} {Z : ZT} (h : AX l G cL_law 17 RL wsL_law F_L_law L_L_law Z) (hG : GoodG G) {Q : Int32 → Mem → Prop} (hr : RETz cL_law Q Z) (nT : Nat) (sc : Int32 → Int32) (v2 : Int32) (hn27 : ∀ v, ctv G 27 0 0 v = .inl (gZ G, nT, .inl v)) (hk27 : (27, 0, 0) ∈ KS G) (hsc : sc = scv G) (hgL : gL G < 2 ^ 31) (hk28 : (28, 0, 0) ∈ KS G) (hk29 : (29, 0, 0) ∈ KS G) (v6 : Int32) (v11 : Int32) (v12 : Int32) (v13 : Int32) (v16 : Int32) (t0 : Int32) (t1 : Int32)  {B : Int32 → Mem → Prop} (hB : ∀ (v6 : Int32) (M : Mem), B v6 M → Z 106 [(0, .ref (gB G)), (1, .ref (gA G (0, 0, 0))), (2, .int v2), (3, .ref (gA G (27, 0, 0))), (4, .ref (gA G (28, 0, 0))), (5, .ref (gA G (29, 0, 0))), (6, .int v6)] [] M) {X : Mem → Prop} (hX : ∀  (M : Mem), X  M → Z 653 [(1, .ref (gA G (0, 0, 0))), (2, .int v2), (3, .ref (gA G (27, 0, 0)))] [] M) (M : Mem) (hw : wp_L_lawB_L598 nT sc v2 B X Q v6 v11 v12 v13 v16 t0 t1 M) : Z 598 [(0, .ref (gB G)), (1, .ref (gA G (0, 0, 0))), (2, .int v2), (3, .ref (gA G (27, 0, 0))), (4, .ref (gA G (28, 0, 0))), (5, .ref (gA G (29, 0, 0))), (6, .int v6), (11, .int v11), (12, .int v12), (13, .int v13), (16, .int v16)] [.int t0, .int t1] M := by
  unfold wp_L_lawB_L598 at hw
  refine h.icmp_eq (pc := 598) 603 dL_law_598 (by decide) (fun c598 => ?_) (fun c598 => ?_)
  · replace hw := hw.1 c598
    refine h.iload (pc := 603) dL_law_603 9 rfl ?_
    refine h.if_lt (pc := 605) 647 dL_law_605 (by decide) (fun c605 => ?_) (fun c605 => ?_)
    · replace hw := hw.1 c605
      refine h.sub (pc := 647) [0, 1, 2, 3, 4, 5, 6] (lv' := [(0, .ref (gB G)), (1, .ref (gA G (0, 0, 0))), (2, .int v2), (3, .ref (gA G (27, 0, 0))), (4, .ref (gA G (28, 0, 0))), (5, .ref (gA G (29, 0, 0))), (6, .int v6)]) rfl ?_
      exact l_L_lawB_L647 h hG hr nT sc v2 hn27 hk27 hsc hgL hk28 hk29 v6 hB hX M hw
    · replace hw := hw.2 c605
      refine h.aload_n (pc := 608) dL_law_608 rfl 1 rfl ?_
      refine h.iload (pc := 609) dL_law_609 10 rfl ?_
      refine h.if_eq (pc := 611) 619 dL_law_611 (by decide) (fun c611 => ?_) (fun c611 => ?_)
      · replace hw := hw.1 c611
        refine h.iload (pc := 619) dL_law_619 8 rfl ?_
        refine h.sub (pc := 621) [0, 1, 2, 3, 4, 5, 6, 7, 8, 10] (lv' := [(0, .ref (gB G)), (1, .ref (gA G (0, 0, 0))), (2, .int v2), (3, .ref (gA G (27, 0, 0))), (4, .ref (gA G (28, 0, 0))), (5, .ref (gA G (29, 0, 0))), (6, .int v6), (11, .int v11), (12, .int v12), (16, .int v16)]) rfl ?_
        exact l_L_lawB_L621 h hG hr nT sc v2 hn27 hk27 hsc hgL hk28 hk29 v6 v11 v12 v16 v12 hB hX M hw
      · replace hw := hw.2 c611
        refine h.iload (pc := 614) dL_law_614 7 rfl ?_
        refine h.goto (pc := 616) 621 dL_law_616 (by decide) ?_
        refine h.sub (pc := 621) [0, 1, 2, 3, 4, 5, 6, 7, 8, 10] (lv' := [(0, .ref (gB G)), (1, .ref (gA G (0, 0, 0))), (2, .int v2), (3, .ref (gA G (27, 0, 0))), (4, .ref (gA G (28, 0, 0))), (5, .ref (gA G (29, 0, 0))), (6, .int v6), (11, .int v11), (12, .int v12), (16, .int v16)]) rfl ?_
        exact l_L_lawB_L621 h hG hr nT sc v2 hn27 hk27 hsc hgL hk28 hk29 v6 v11 v12 v16 v11 hB hX M hw
  · replace hw := hw.2 c598
    refine h.iconst (pc := 601) (v := 0) dL_law_601 (by decide) ?_
    exact hr _ _ _ _ dL_law_602 zb_0 hw
def wp_L_lawB_L571 (nT : Nat) (sc : Int32 → Int32) (v2 : Int32) (B : Int32 → Mem → Prop) (X : Mem → Prop) (Q : Int32 → Mem → Prop) (v6 : Int32) (v11 : Int32) (v12 : Int32) (v13 : Int32) (v16 : Int32) (t0 : Int32) (t1 : Int32) (M : Mem) : Prop := ((t1 = t0 → (wp_X4_many 3 M (fun r576 M576 => ((0 ≤ v13 → ((v16 = 0 → wp_L_lawB_L598 nT sc v2 B X Q v6 v11 v12 v13 v16 1 r576 M576) ∧ (¬ (v16 = 0) → wp_L_lawB_L598 nT sc v2 B X Q v6 v11 v12 v13 v16 0 r576 M576))) ∧ (¬ (0 ≤ v13) → wp_L_lawB_L598 nT sc v2 B X Q v6 v11 v12 v13 v16 (-1) r576 M576))))) ∧ (¬ (t1 = t0) → Q 0 M))
set_option maxHeartbeats 4000000 in
set_option maxRecDepth 100000 in
theorem l_L_lawB_L571 {l : Launch} {G : GG} {Z : ZT} (h : AX l G cL_law 17 RL wsL_law F_L_law L_L_law Z) (hG : GoodG G) {Q : Int32 → Mem → Prop} (hr : RETz cL_law Q Z) (nT : Nat) (sc : Int32 → Int32) (v2 : Int32) (hn27 : ∀ v, ctv G 27 0 0 v = .inl (gZ G, nT, .inl v)) (hk27 : (27, 0, 0) ∈ KS G) (hsc : sc = scv G) (hgL : gL G < 2 ^ 31) (hk28 : (28, 0, 0) ∈ KS G) (hk29 : (29, 0, 0) ∈ KS G) (v6 : Int32) (v11 : Int32) (v12 : Int32) (v13 : Int32) (v16 : Int32) (t0 : Int32) (t1 : Int32)  {B : Int32 → Mem → Prop} (hB : ∀ (v6 : Int32) (M : Mem), B v6 M → Z 106 [(0, .ref (gB G)), (1, .ref (gA G (0, 0, 0))), (2, .int v2), (3, .ref (gA G (27, 0, 0))), (4, .ref (gA G (28, 0, 0))), (5, .ref (gA G (29, 0, 0))), (6, .int v6)] [] M) {X : Mem → Prop} (hX : ∀  (M : Mem), X  M → Z 653 [(1, .ref (gA G (0, 0, 0))), (2, .int v2), (3, .ref (gA G (27, 0, 0)))] [] M) (M : Mem) (hw : wp_L_lawB_L571 nT sc v2 B X Q v6 v11 v12 v13 v16 t0 t1 M) : Z 571 [(0, .ref (gB G)), (1, .ref (gA G (0, 0, 0))), (2, .int v2), (3, .ref (gA G (27, 0, 0))), (4, .ref (gA G (28, 0, 0))), (5, .ref (gA G (29, 0, 0))), (6, .int v6), (11, .int v11), (12, .int v12), (13, .int v13), (16, .int v16)] [.int t0, .int t1] M := by
  unfold wp_L_lawB_L571 at hw
  refine h.icmp_ne (pc := 571) 601 dL_law_571 (by decide) (fun c571 => ?_) (fun c571 => ?_)
  · replace hw := hw.2 c571
    refine h.iconst (pc := 601) (v := 0) dL_law_601 (by decide) ?_
    exact hr _ _ _ _ dL_law_602 zb_0 hw
  · replace hw := hw.1 c571
    refine h.aload_n (pc := 574) dL_law_574 rfl 1 rfl ?_
    refine h.iconst (pc := 575) (v := 3) dL_law_575 (by decide) ?_
    refine h.cVi (pc := 576) [.int 3] (0, 0, 0) [] (m_X4_many hG  hw) gL_law_X4_many rfl hd_X4_many (by decide) (k_1 1 (by decide) (by decide)) rfl rfl rfl rfl rfl (Nat.le_of_ble_eq_true rfl) dL_law_576 (fun r576 M576 hw => ?_)
    refine h.iload (pc := 579) dL_law_579 9 rfl ?_
    refine h.if_ge (pc := 581) 588 dL_law_581 (by decide) (fun c581 => ?_) (fun c581 => ?_)
    · replace hw := hw.1 c581
      refine h.iload (pc := 588) dL_law_588 10 rfl ?_
      refine h.if_eq (pc := 590) 597 dL_law_590 (by decide) (fun c590 => ?_) (fun c590 => ?_)
      · replace hw := hw.1 c590
        refine h.iconst (pc := 597) (v := 1) dL_law_597 (by decide) ?_
        exact l_L_lawB_L598 h hG hr nT sc v2 hn27 hk27 hsc hgL hk28 hk29 v6 v11 v12 v13 v16 1 r576 hB hX M576 hw
      · replace hw := hw.2 c590
        refine h.iconst (pc := 593) (v := 0) dL_law_593 (by decide) ?_
        refine h.goto (pc := 594) 598 dL_law_594 (by decide) ?_
        exact l_L_lawB_L598 h hG hr nT sc v2 hn27 hk27 hsc hgL hk28 hk29 v6 v11 v12 v13 v16 0 r576 hB hX M576 hw
    · replace hw := hw.2 c581
      refine h.iconst (pc := 584) (v := (-1)) dL_law_584 (by decide) ?_
      refine h.goto (pc := 585) 598 dL_law_585 (by decide) ?_
      exact l_L_lawB_L598 h hG hr nT sc v2 hn27 hk27 hsc hgL hk28 hk29 v6 v11 v12 v13 v16 (-1) r576 hB hX M576 hw
def wp_L_lawB_L545 (nT : Nat) (sc : Int32 → Int32) (v2 : Int32) (B : Int32 → Mem → Prop) (X : Mem → Prop) (Q : Int32 → Mem → Prop) (v6 : Int32) (v11 : Int32) (v12 : Int32) (v13 : Int32) (v14 : Int32) (v15 : Int32) (t0 : Int32) (M : Mem) : Prop := (wp_X4_many 2 M (fun r551 M551 => ((v13 = r551 → ((t0 = 0 → wp_L_lawB_L571 nT sc v2 B X Q v6 v11 v12 v13 t0 v15 v13 M551) ∧ (¬ (t0 = 0) → wp_L_lawB_L571 nT sc v2 B X Q v6 v11 v12 v13 t0 v14 v13 M551))) ∧ (¬ (v13 = r551) → Q 0 M551))))
set_option maxHeartbeats 4000000 in
set_option maxRecDepth 100000 in
theorem l_L_lawB_L545 {l : Launch} {G : GG} {Z : ZT} (h : AX l G cL_law 17 RL wsL_law F_L_law L_L_law Z) (hG : GoodG G) {Q : Int32 → Mem → Prop} (hr : RETz cL_law Q Z) (nT : Nat) (sc : Int32 → Int32) (v2 : Int32) (hn27 : ∀ v, ctv G 27 0 0 v = .inl (gZ G, nT, .inl v)) (hk27 : (27, 0, 0) ∈ KS G) (hsc : sc = scv G) (hgL : gL G < 2 ^ 31) (hk28 : (28, 0, 0) ∈ KS G) (hk29 : (29, 0, 0) ∈ KS G) (v6 : Int32) (v11 : Int32) (v12 : Int32) (v13 : Int32) (v14 : Int32) (v15 : Int32) (t0 : Int32)  {B : Int32 → Mem → Prop} (hB : ∀ (v6 : Int32) (M : Mem), B v6 M → Z 106 [(0, .ref (gB G)), (1, .ref (gA G (0, 0, 0))), (2, .int v2), (3, .ref (gA G (27, 0, 0))), (4, .ref (gA G (28, 0, 0))), (5, .ref (gA G (29, 0, 0))), (6, .int v6)] [] M) {X : Mem → Prop} (hX : ∀  (M : Mem), X  M → Z 653 [(1, .ref (gA G (0, 0, 0))), (2, .int v2), (3, .ref (gA G (27, 0, 0)))] [] M) (M : Mem) (hw : wp_L_lawB_L545 nT sc v2 B X Q v6 v11 v12 v13 v14 v15 t0 M) : Z 545 [(0, .ref (gB G)), (1, .ref (gA G (0, 0, 0))), (2, .int v2), (3, .ref (gA G (27, 0, 0))), (4, .ref (gA G (28, 0, 0))), (5, .ref (gA G (29, 0, 0))), (6, .int v6), (11, .int v11), (12, .int v12), (13, .int v13), (14, .int v14), (15, .int v15)] [.int t0] M := by
  unfold wp_L_lawB_L545 at hw
  refine h.istore (pc := 545) [(16, .int t0), (0, .ref (gB G)), (1, .ref (gA G (0, 0, 0))), (2, .int v2), (3, .ref (gA G (27, 0, 0))), (4, .ref (gA G (28, 0, 0))), (5, .ref (gA G (29, 0, 0))), (6, .int v6), (11, .int v11), (12, .int v12), (13, .int v13), (14, .int v14), (15, .int v15)] dL_law_545 (by decide) rfl ?_
  refine h.iload (pc := 547) dL_law_547 10 rfl ?_
  refine h.aload_n (pc := 549) dL_law_549 rfl 2 rfl ?_
  refine h.iconst (pc := 550) (v := 2) dL_law_550 (by decide) ?_
  refine h.cVi (pc := 551) [.int 2] (0, 0, 0) [.int v13] (m_X4_many hG  hw) gL_law_X4_many rfl hd_X4_many (by decide) (k_1 1 (by decide) (by decide)) rfl rfl rfl rfl rfl (Nat.le_of_ble_eq_true rfl) dL_law_551 (fun r551 M551 hw => ?_)
  refine h.icmp_ne (pc := 554) 601 dL_law_554 (by decide) (fun c554 => ?_) (fun c554 => ?_)
  · replace hw := hw.2 c554
    refine h.iconst (pc := 601) (v := 0) dL_law_601 (by decide) ?_
    exact hr _ _ _ _ dL_law_602 zb_0 hw
  · replace hw := hw.1 c554
    refine h.iload (pc := 557) dL_law_557 10 rfl ?_
    refine h.iload (pc := 559) dL_law_559 0 rfl ?_
    refine h.if_eq (pc := 561) 569 dL_law_561 (by decide) (fun c561 => ?_) (fun c561 => ?_)
    · replace hw := hw.1 c561
      refine h.iload (pc := 569) dL_law_569 12 rfl ?_
      refine h.sub (pc := 571) [1, 2, 3, 4, 5, 6, 7, 8, 9, 10, 0] (lv' := [(0, .ref (gB G)), (1, .ref (gA G (0, 0, 0))), (2, .int v2), (3, .ref (gA G (27, 0, 0))), (4, .ref (gA G (28, 0, 0))), (5, .ref (gA G (29, 0, 0))), (6, .int v6), (11, .int v11), (12, .int v12), (13, .int v13), (16, .int t0)]) rfl ?_
      exact l_L_lawB_L571 h hG hr nT sc v2 hn27 hk27 hsc hgL hk28 hk29 v6 v11 v12 v13 t0 v15 v13 hB hX M551 hw
    · replace hw := hw.2 c561
      refine h.iload (pc := 564) dL_law_564 11 rfl ?_
      refine h.goto (pc := 566) 571 dL_law_566 (by decide) ?_
      refine h.sub (pc := 571) [1, 2, 3, 4, 5, 6, 7, 8, 9, 10, 0] (lv' := [(0, .ref (gB G)), (1, .ref (gA G (0, 0, 0))), (2, .int v2), (3, .ref (gA G (27, 0, 0))), (4, .ref (gA G (28, 0, 0))), (5, .ref (gA G (29, 0, 0))), (6, .int v6), (11, .int v11), (12, .int v12), (13, .int v13), (16, .int t0)]) rfl ?_
      exact l_L_lawB_L571 h hG hr nT sc v2 hn27 hk27 hsc hgL hk28 hk29 v6 v11 v12 v13 t0 v14 v13 hB hX M551 hw
def wp_L_lawB_L544 (nT : Nat) (sc : Int32 → Int32) (v2 : Int32) (B : Int32 → Mem → Prop) (X : Mem → Prop) (Q : Int32 → Mem → Prop) (v6 : Int32) (v11 : Int32) (v12 : Int32) (v13 : Int32) (v14 : Int32) (v15 : Int32) (M : Mem) : Prop := wp_L_lawB_L545 nT sc v2 B X Q v6 v11 v12 v13 v14 v15 0 M
set_option maxHeartbeats 4000000 in
set_option maxRecDepth 100000 in
theorem l_L_lawB_L544 {l : Launch} {G : GG} {Z : ZT} (h : AX l G cL_law 17 RL wsL_law F_L_law L_L_law Z) (hG : GoodG G) {Q : Int32 → Mem → Prop} (hr : RETz cL_law Q Z) (nT : Nat) (sc : Int32 → Int32) (v2 : Int32) (hn27 : ∀ v, ctv G 27 0 0 v = .inl (gZ G, nT, .inl v)) (hk27 : (27, 0, 0) ∈ KS G) (hsc : sc = scv G) (hgL : gL G < 2 ^ 31) (hk28 : (28, 0, 0) ∈ KS G) (hk29 : (29, 0, 0) ∈ KS G) (v6 : Int32) (v11 : Int32) (v12 : Int32) (v13 : Int32) (v14 : Int32) (v15 : Int32)  {B : Int32 → Mem → Prop} (hB : ∀ (v6 : Int32) (M : Mem), B v6 M → Z 106 [(0, .ref (gB G)), (1, .ref (gA G (0, 0, 0))), (2, .int v2), (3, .ref (gA G (27, 0, 0))), (4, .ref (gA G (28, 0, 0))), (5, .ref (gA G (29, 0, 0))), (6, .int v6)] [] M) {X : Mem → Prop} (hX : ∀  (M : Mem), X  M → Z 653 [(1, .ref (gA G (0, 0, 0))), (2, .int v2), (3, .ref (gA G (27, 0, 0)))] [] M) (M : Mem) (hw : wp_L_lawB_L544 nT sc v2 B X Q v6 v11 v12 v13 v14 v15 M) : Z 544 [(0, .ref (gB G)), (1, .ref (gA G (0, 0, 0))), (2, .int v2), (3, .ref (gA G (27, 0, 0))), (4, .ref (gA G (28, 0, 0))), (5, .ref (gA G (29, 0, 0))), (6, .int v6), (11, .int v11), (12, .int v12), (13, .int v13), (14, .int v14), (15, .int v15)] [] M := by
  unfold wp_L_lawB_L544 at hw
  refine h.iconst (pc := 544) (v := 0) dL_law_544 (by decide) ?_
  exact l_L_lawB_L545 h hG hr nT sc v2 hn27 hk27 hsc hgL hk28 hk29 v6 v11 v12 v13 v14 v15 0 hB hX M hw
def wp_L_lawB_L540 (nT : Nat) (sc : Int32 → Int32) (v2 : Int32) (B : Int32 → Mem → Prop) (X : Mem → Prop) (Q : Int32 → Mem → Prop) (v6 : Int32) (v11 : Int32) (v12 : Int32) (v13 : Int32) (v14 : Int32) (v15 : Int32) (M : Mem) : Prop := wp_L_lawB_L545 nT sc v2 B X Q v6 v11 v12 v13 v14 v15 1 M
set_option maxHeartbeats 4000000 in
set_option maxRecDepth 100000 in
theorem l_L_lawB_L540 {l : Launch} {G : GG} {Z : ZT} (h : AX l G cL_law 17 RL wsL_law F_L_law L_L_law Z) (hG : GoodG G) {Q : Int32 → Mem → Prop} (hr : RETz cL_law Q Z) (nT : Nat) (sc : Int32 → Int32) (v2 : Int32) (hn27 : ∀ v, ctv G 27 0 0 v = .inl (gZ G, nT, .inl v)) (hk27 : (27, 0, 0) ∈ KS G) (hsc : sc = scv G) (hgL : gL G < 2 ^ 31) (hk28 : (28, 0, 0) ∈ KS G) (hk29 : (29, 0, 0) ∈ KS G) (v6 : Int32) (v11 : Int32) (v12 : Int32) (v13 : Int32) (v14 : Int32) (v15 : Int32)  {B : Int32 → Mem → Prop} (hB : ∀ (v6 : Int32) (M : Mem), B v6 M → Z 106 [(0, .ref (gB G)), (1, .ref (gA G (0, 0, 0))), (2, .int v2), (3, .ref (gA G (27, 0, 0))), (4, .ref (gA G (28, 0, 0))), (5, .ref (gA G (29, 0, 0))), (6, .int v6)] [] M) {X : Mem → Prop} (hX : ∀  (M : Mem), X  M → Z 653 [(1, .ref (gA G (0, 0, 0))), (2, .int v2), (3, .ref (gA G (27, 0, 0)))] [] M) (M : Mem) (hw : wp_L_lawB_L540 nT sc v2 B X Q v6 v11 v12 v13 v14 v15 M) : Z 540 [(0, .ref (gB G)), (1, .ref (gA G (0, 0, 0))), (2, .int v2), (3, .ref (gA G (27, 0, 0))), (4, .ref (gA G (28, 0, 0))), (5, .ref (gA G (29, 0, 0))), (6, .int v6), (11, .int v11), (12, .int v12), (13, .int v13), (14, .int v14), (15, .int v15)] [] M := by
  unfold wp_L_lawB_L540 at hw
  refine h.iconst (pc := 540) (v := 1) dL_law_540 (by decide) ?_
  refine h.goto (pc := 541) 545 dL_law_541 (by decide) ?_
  exact l_L_lawB_L545 h hG hr nT sc v2 hn27 hk27 hsc hgL hk28 hk29 v6 v11 v12 v13 v14 v15 1 hB hX M hw
def wp_L_lawB_L451 (nT : Nat) (sc : Int32 → Int32) (v2 : Int32) (B : Int32 → Mem → Prop) (X : Mem → Prop) (Q : Int32 → Mem → Prop) (v6 : Int32) (v7 : Int32) (M : Mem) : Prop := (((v6 - v6 / 6 * 6) ≤ 0 → (wp_L_below (v7 >>> (2 &&& 31)) 51 M (fun r470 M470 => (wp_L_below (v7 >>> (6 &&& 31)) 21 M470 (fun r485 M485 => (wp_X4_paper (10 + r470) (10 + r485) M485 (fun r496 M496 => (wp_X4_pagesWith (10 + r470) (10 + r485) 0 M496 (fun r507 M507 => (wp_X4_pagesWith (10 + r470) (10 + r485) 1 M507 (fun r518 M518 => ((r507 < 0 → wp_L_lawB_L544 nT sc v2 B X Q v6 (10 + r470) (10 + r485) r496 r507 r518 M518) ∧ (¬ (r507 < 0) → ((r518 < 0 → wp_L_lawB_L540 nT sc v2 B X Q v6 (10 + r470) (10 + r485) r496 r507 r518 M518) ∧ (¬ (r518 < 0) → ((r518 < r507 → wp_L_lawB_L544 nT sc v2 B X Q v6 (10 + r470) (10 + r485) r496 r507 r518 M518) ∧ (¬ (r518 < r507) → wp_L_lawB_L540 nT sc v2 B X Q v6 (10 + r470) (10 + r485) r496 r507 r518 M518))))))))))))))))) ∧ (¬ ((v6 - v6 / 6 * 6) ≤ 0) → wp_L_lawB_L647 nT sc v2 B X Q v6 M))
set_option maxHeartbeats 4000000 in
set_option maxRecDepth 100000 in
theorem l_L_lawB_L451 {l : Launch} {G : GG} {Z : ZT} (h : AX l G cL_law 17 RL wsL_law F_L_law L_L_law Z) (hG : GoodG G) {Q : Int32 → Mem → Prop} (hr : RETz cL_law Q Z) (nT : Nat) (sc : Int32 → Int32) (v2 : Int32) (hn27 : ∀ v, ctv G 27 0 0 v = .inl (gZ G, nT, .inl v)) (hk27 : (27, 0, 0) ∈ KS G) (hsc : sc = scv G) (hgL : gL G < 2 ^ 31) (hk28 : (28, 0, 0) ∈ KS G) (hk29 : (29, 0, 0) ∈ KS G) (v6 : Int32) (v7 : Int32)  {B : Int32 → Mem → Prop} (hB : ∀ (v6 : Int32) (M : Mem), B v6 M → Z 106 [(0, .ref (gB G)), (1, .ref (gA G (0, 0, 0))), (2, .int v2), (3, .ref (gA G (27, 0, 0))), (4, .ref (gA G (28, 0, 0))), (5, .ref (gA G (29, 0, 0))), (6, .int v6)] [] M) {X : Mem → Prop} (hX : ∀  (M : Mem), X  M → Z 653 [(1, .ref (gA G (0, 0, 0))), (2, .int v2), (3, .ref (gA G (27, 0, 0)))] [] M) (M : Mem) (hw : wp_L_lawB_L451 nT sc v2 B X Q v6 v7 M) : Z 451 [(0, .ref (gB G)), (1, .ref (gA G (0, 0, 0))), (2, .int v2), (3, .ref (gA G (27, 0, 0))), (4, .ref (gA G (28, 0, 0))), (5, .ref (gA G (29, 0, 0))), (6, .int v6), (7, .int v7)] [] M := by
  unfold wp_L_lawB_L451 at hw
  refine h.iload (pc := 451) dL_law_451 6 rfl ?_
  refine h.bipush (pc := 453) (v := 6) dL_law_453 (by decide) ?_
  refine h.irem (pc := 455) dL_law_455 (by decide) ?_
  refine h.if_le (pc := 456) 462 dL_law_456 (by decide) (fun c456 => ?_) (fun c456 => ?_)
  · replace hw := hw.1 c456
    refine h.bipush (pc := 462) (v := 10) dL_law_462 (by decide) ?_
    refine h.iload (pc := 464) dL_law_464 7 rfl ?_
    refine h.iconst (pc := 466) (v := 2) dL_law_466 (by decide) ?_
    refine h.ishr (pc := 467) dL_law_467 ?_
    refine h.bipush (pc := 468) (v := 51) dL_law_468 (by decide) ?_
    refine h.cSi (pc := 470) [.int (v7 >>> (2 &&& 31)), .int 51] [.int 10] (m_L_below hG  hw) gL_law_L_below rfl hd_L_below (by decide) rfl rfl (Nat.le_of_ble_eq_true rfl) dL_law_470 (fun r470 M470 hw => ?_)
    refine h.iadd (pc := 473) dL_law_473 ?_
    refine h.istore (pc := 474) [(11, .int (10 + r470)), (0, .ref (gB G)), (1, .ref (gA G (0, 0, 0))), (2, .int v2), (3, .ref (gA G (27, 0, 0))), (4, .ref (gA G (28, 0, 0))), (5, .ref (gA G (29, 0, 0))), (6, .int v6), (7, .int v7)] dL_law_474 (by decide) rfl ?_
    refine h.bipush (pc := 476) (v := 10) dL_law_476 (by decide) ?_
    refine h.iload (pc := 478) dL_law_478 8 rfl ?_
    refine h.bipush (pc := 480) (v := 6) dL_law_480 (by decide) ?_
    refine h.ishr (pc := 482) dL_law_482 ?_
    refine h.bipush (pc := 483) (v := 21) dL_law_483 (by decide) ?_
    refine h.cSi (pc := 485) [.int (v7 >>> (6 &&& 31)), .int 21] [.int 10] (m_L_below hG  hw) gL_law_L_below rfl hd_L_below (by decide) rfl rfl (Nat.le_of_ble_eq_true rfl) dL_law_485 (fun r485 M485 hw => ?_)
    refine h.iadd (pc := 488) dL_law_488 ?_
    refine h.istore (pc := 489) [(12, .int (10 + r485)), (11, .int (10 + r470)), (0, .ref (gB G)), (1, .ref (gA G (0, 0, 0))), (2, .int v2), (3, .ref (gA G (27, 0, 0))), (4, .ref (gA G (28, 0, 0))), (5, .ref (gA G (29, 0, 0))), (6, .int v6), (7, .int v7)] dL_law_489 (by decide) rfl ?_
    refine h.aload_n (pc := 491) dL_law_491 rfl 3 rfl ?_
    refine h.iload (pc := 492) dL_law_492 1 rfl ?_
    refine h.iload (pc := 494) dL_law_494 0 rfl ?_
    refine h.cVi (pc := 496) [.int (10 + r470), .int (10 + r485)] (0, 0, 0) [] (m_X4_paper hG  hw) gL_law_X4_paper rfl hd_X4_paper (by decide) (k_1 1 (by decide) (by decide)) rfl rfl rfl rfl rfl (Nat.le_of_ble_eq_true rfl) dL_law_496 (fun r496 M496 hw => ?_)
    refine h.istore (pc := 499) [(13, .int r496), (12, .int (10 + r485)), (11, .int (10 + r470)), (0, .ref (gB G)), (1, .ref (gA G (0, 0, 0))), (2, .int v2), (3, .ref (gA G (27, 0, 0))), (4, .ref (gA G (28, 0, 0))), (5, .ref (gA G (29, 0, 0))), (6, .int v6), (7, .int v7)] dL_law_499 (by decide) rfl ?_
    refine h.aload_n (pc := 501) dL_law_501 rfl 4 rfl ?_
    refine h.iload (pc := 502) dL_law_502 2 rfl ?_
    refine h.iload (pc := 504) dL_law_504 1 rfl ?_
    refine h.iconst (pc := 506) (v := 0) dL_law_506 (by decide) ?_
    refine h.cVi (pc := 507) [.int (10 + r470), .int (10 + r485), .int 0] (0, 0, 0) [] (m_X4_pagesWith hG  hw) gL_law_X4_pagesWith rfl hd_X4_pagesWith (by decide) (k_1 1 (by decide) (by decide)) rfl rfl rfl rfl rfl (Nat.le_of_ble_eq_true rfl) dL_law_507 (fun r507 M507 hw => ?_)
    refine h.istore (pc := 510) [(14, .int r507), (13, .int r496), (12, .int (10 + r485)), (11, .int (10 + r470)), (0, .ref (gB G)), (1, .ref (gA G (0, 0, 0))), (2, .int v2), (3, .ref (gA G (27, 0, 0))), (4, .ref (gA G (28, 0, 0))), (5, .ref (gA G (29, 0, 0))), (6, .int v6), (7, .int v7)] dL_law_510 (by decide) rfl ?_
    refine h.aload_n (pc := 512) dL_law_512 rfl 5 rfl ?_
    refine h.iload (pc := 513) dL_law_513 3 rfl ?_
    refine h.iload (pc := 515) dL_law_515 2 rfl ?_
    refine h.iconst (pc := 517) (v := 1) dL_law_517 (by decide) ?_
    refine h.cVi (pc := 518) [.int (10 + r470), .int (10 + r485), .int 1] (0, 0, 0) [] (m_X4_pagesWith hG  hw) gL_law_X4_pagesWith rfl hd_X4_pagesWith (by decide) (k_1 1 (by decide) (by decide)) rfl rfl rfl rfl rfl (Nat.le_of_ble_eq_true rfl) dL_law_518 (fun r518 M518 hw => ?_)
    refine h.istore (pc := 521) [(15, .int r518), (14, .int r507), (13, .int r496), (12, .int (10 + r485)), (11, .int (10 + r470)), (0, .ref (gB G)), (1, .ref (gA G (0, 0, 0))), (2, .int v2), (3, .ref (gA G (27, 0, 0))), (4, .ref (gA G (28, 0, 0))), (5, .ref (gA G (29, 0, 0))), (6, .int v6), (7, .int v7)] dL_law_521 (by decide) rfl ?_
    refine h.iload (pc := 523) dL_law_523 1 rfl ?_
    refine h.if_lt (pc := 525) 544 dL_law_525 (by decide) (fun c525 => ?_) (fun c525 => ?_)
    · replace hw := hw.1 c525
      refine h.sub (pc := 544) [5, 6, 7, 8, 9, 10, 11, 4, 3, 2, 1, 0] (lv' := [(0, .ref (gB G)), (1, .ref (gA G (0, 0, 0))), (2, .int v2), (3, .ref (gA G (27, 0, 0))), (4, .ref (gA G (28, 0, 0))), (5, .ref (gA G (29, 0, 0))), (6, .int v6), (11, .int (10 + r470)), (12, .int (10 + r485)), (13, .int r496), (14, .int r507), (15, .int r518)]) rfl ?_
      exact l_L_lawB_L544 h hG hr nT sc v2 hn27 hk27 hsc hgL hk28 hk29 v6 (10 + r470) (10 + r485) r496 r507 r518 hB hX M518 hw
    · replace hw := hw.2 c525
      refine h.iload (pc := 528) dL_law_528 0 rfl ?_
      refine h.if_lt (pc := 530) 540 dL_law_530 (by decide) (fun c530 => ?_) (fun c530 => ?_)
      · replace hw := hw.1 c530
        refine h.sub (pc := 540) [5, 6, 7, 8, 9, 10, 11, 4, 3, 2, 1, 0] (lv' := [(0, .ref (gB G)), (1, .ref (gA G (0, 0, 0))), (2, .int v2), (3, .ref (gA G (27, 0, 0))), (4, .ref (gA G (28, 0, 0))), (5, .ref (gA G (29, 0, 0))), (6, .int v6), (11, .int (10 + r470)), (12, .int (10 + r485)), (13, .int r496), (14, .int r507), (15, .int r518)]) rfl ?_
        exact l_L_lawB_L540 h hG hr nT sc v2 hn27 hk27 hsc hgL hk28 hk29 v6 (10 + r470) (10 + r485) r496 r507 r518 hB hX M518 hw
      · replace hw := hw.2 c530
        refine h.iload (pc := 533) dL_law_533 1 rfl ?_
        refine h.iload (pc := 535) dL_law_535 0 rfl ?_
        refine h.icmp_gt (pc := 537) 544 dL_law_537 (by decide) (fun c537 => ?_) (fun c537 => ?_)
        · replace hw := hw.1 c537
          refine h.sub (pc := 544) [5, 6, 7, 8, 9, 10, 11, 4, 3, 2, 1, 0] (lv' := [(0, .ref (gB G)), (1, .ref (gA G (0, 0, 0))), (2, .int v2), (3, .ref (gA G (27, 0, 0))), (4, .ref (gA G (28, 0, 0))), (5, .ref (gA G (29, 0, 0))), (6, .int v6), (11, .int (10 + r470)), (12, .int (10 + r485)), (13, .int r496), (14, .int r507), (15, .int r518)]) rfl ?_
          exact l_L_lawB_L544 h hG hr nT sc v2 hn27 hk27 hsc hgL hk28 hk29 v6 (10 + r470) (10 + r485) r496 r507 r518 hB hX M518 hw
        · replace hw := hw.2 c537
          refine h.sub (pc := 540) [5, 6, 7, 8, 9, 10, 11, 4, 3, 2, 1, 0] (lv' := [(0, .ref (gB G)), (1, .ref (gA G (0, 0, 0))), (2, .int v2), (3, .ref (gA G (27, 0, 0))), (4, .ref (gA G (28, 0, 0))), (5, .ref (gA G (29, 0, 0))), (6, .int v6), (11, .int (10 + r470)), (12, .int (10 + r485)), (13, .int r496), (14, .int r507), (15, .int r518)]) rfl ?_
          exact l_L_lawB_L540 h hG hr nT sc v2 hn27 hk27 hsc hgL hk28 hk29 v6 (10 + r470) (10 + r485) r496 r507 r518 hB hX M518 hw
  · replace hw := hw.2 c456
    refine h.goto (pc := 459) 647 dL_law_459 (by decide) ?_
    refine h.sub (pc := 647) [0, 1, 2, 3, 4, 5, 6] (lv' := [(0, .ref (gB G)), (1, .ref (gA G (0, 0, 0))), (2, .int v2), (3, .ref (gA G (27, 0, 0))), (4, .ref (gA G (28, 0, 0))), (5, .ref (gA G (29, 0, 0))), (6, .int v6)]) rfl ?_
    exact l_L_lawB_L647 h hG hr nT sc v2 hn27 hk27 hsc hgL hk28 hk29 v6 hB hX M hw
def wp_L_lawB_L288 (nT : Nat) (sc : Int32 → Int32) (v2 : Int32) (B : Int32 → Mem → Prop) (X : Mem → Prop) (Q : Int32 → Mem → Prop) (v6 : Int32) (v7 : Int32) (v9 : Int32) (t0 : Int32) (M : Mem) : Prop := (wp_X4_keep v9 t0 M (fun r295 M295 => (vp_in v9 30 ∧ ((r295 = (M295 29 0 0 v9.toNatClampNeg) → (vp_in v9 30 ∧ (zb t0 ∧ (∀ M314 : Mem, M314 = sM M295 29 0 0 v9.toNatClampNeg t0 → wp_L_lawB_L451 nT sc v2 B X Q v6 v7 M314)))) ∧ (¬ (r295 = (M295 29 0 0 v9.toNatClampNeg)) → Q 0 M295)))))
set_option maxHeartbeats 4000000 in
set_option maxRecDepth 100000 in
theorem l_L_lawB_L288 {l : Launch} {G : GG} {Z : ZT} (h : AX l G cL_law 17 RL wsL_law F_L_law L_L_law Z) (hG : GoodG G) {Q : Int32 → Mem → Prop} (hr : RETz cL_law Q Z) (nT : Nat) (sc : Int32 → Int32) (v2 : Int32) (hn27 : ∀ v, ctv G 27 0 0 v = .inl (gZ G, nT, .inl v)) (hk27 : (27, 0, 0) ∈ KS G) (hsc : sc = scv G) (hgL : gL G < 2 ^ 31) (hk28 : (28, 0, 0) ∈ KS G) (hk29 : (29, 0, 0) ∈ KS G) (v6 : Int32) (v7 : Int32) (v9 : Int32) (t0 : Int32)  {B : Int32 → Mem → Prop} (hB : ∀ (v6 : Int32) (M : Mem), B v6 M → Z 106 [(0, .ref (gB G)), (1, .ref (gA G (0, 0, 0))), (2, .int v2), (3, .ref (gA G (27, 0, 0))), (4, .ref (gA G (28, 0, 0))), (5, .ref (gA G (29, 0, 0))), (6, .int v6)] [] M) {X : Mem → Prop} (hX : ∀  (M : Mem), X  M → Z 653 [(1, .ref (gA G (0, 0, 0))), (2, .int v2), (3, .ref (gA G (27, 0, 0)))] [] M) (M : Mem) (hw : wp_L_lawB_L288 nT sc v2 B X Q v6 v7 v9 t0 M) : Z 288 [(0, .ref (gB G)), (1, .ref (gA G (0, 0, 0))), (2, .int v2), (3, .ref (gA G (27, 0, 0))), (4, .ref (gA G (28, 0, 0))), (5, .ref (gA G (29, 0, 0))), (6, .int v6), (7, .int v7), (9, .int v9)] [.int t0] M := by
  unfold wp_L_lawB_L288 at hw
  refine h.istore (pc := 288) [(11, .int t0), (0, .ref (gB G)), (1, .ref (gA G (0, 0, 0))), (2, .int v2), (3, .ref (gA G (27, 0, 0))), (4, .ref (gA G (28, 0, 0))), (5, .ref (gA G (29, 0, 0))), (6, .int v6), (7, .int v7), (9, .int v9)] dL_law_288 (by decide) rfl ?_
  refine h.aload_n (pc := 290) dL_law_290 rfl 2 rfl ?_
  refine h.iload (pc := 291) dL_law_291 9 rfl ?_
  refine h.iload (pc := 293) dL_law_293 0 rfl ?_
  refine h.cVi (pc := 295) [.int v9, .int t0] (0, 0, 0) [] (m_X4_keep hG  hw) gL_law_X4_keep rfl hd_X4_keep (by decide) (k_1 1 (by decide) (by decide)) rfl rfl rfl rfl rfl (Nat.le_of_ble_eq_true rfl) dL_law_295 (fun r295 M295 hw => ?_)
  refine h.aload (pc := 298) dL_law_298 6 rfl ?_
  refine h.iload (pc := 300) dL_law_300 9 rfl ?_
  obtain ⟨hj302, hw⟩ := hw
  refine h.zald (pc := 302) (f := 29) (o := 0) (i := 0) (n := 30) hk29 (fun _ => rfl) hj302 dL_law_302 ?_
  refine h.icmp_eq (pc := 303) 308 dL_law_303 (by decide) (fun c303 => ?_) (fun c303 => ?_)
  · replace hw := hw.1 c303
    refine h.aload (pc := 308) dL_law_308 6 rfl ?_
    refine h.iload (pc := 310) dL_law_310 9 rfl ?_
    refine h.iload (pc := 312) dL_law_312 0 rfl ?_
    obtain ⟨hj314, hw⟩ := hw
    obtain ⟨hb314, hw⟩ := hw
    refine h.zast (pc := 314) (f := 29) (o := 0) (i := 0) (n := 30) (ix := v9) (x := t0) hk29 (fun _ => rfl) hj314 hb314 dL_law_314 (fun M314 e314 => ?_)
    replace hw := hw M314 e314
    refine h.goto (pc := 315) 451 dL_law_315 (by decide) ?_
    refine h.sub (pc := 451) [1, 2, 3, 4, 5, 6, 7, 8] (lv' := [(0, .ref (gB G)), (1, .ref (gA G (0, 0, 0))), (2, .int v2), (3, .ref (gA G (27, 0, 0))), (4, .ref (gA G (28, 0, 0))), (5, .ref (gA G (29, 0, 0))), (6, .int v6), (7, .int v7)]) rfl ?_
    exact l_L_lawB_L451 h hG hr nT sc v2 hn27 hk27 hsc hgL hk28 hk29 v6 v7 hB hX M314 hw
  · replace hw := hw.2 c303
    refine h.iconst (pc := 306) (v := 0) dL_law_306 (by decide) ?_
    exact hr _ _ _ _ dL_law_307 zb_0 hw
def wp_L_lawB_L355 (nT : Nat) (sc : Int32 → Int32) (v2 : Int32) (B : Int32 → Mem → Prop) (X : Mem → Prop) (Q : Int32 → Mem → Prop) (v6 : Int32) (v7 : Int32) (v10 : Int32) (t0 : Int32) (t1 : Int32) (t2 : Int32) (M : Mem) : Prop := (wp_X4_span t2 t1 t0 M (fun r355 M355 => ((r355 = 0 → wp_L_lawB_L451 nT sc v2 B X Q v6 v7 M355) ∧ (¬ (r355 = 0) → (vp_in (v10 + 1) nT ∧ (((M355 27 0 0 (v10 + 1).toNatClampNeg) = 0 → Q 0 M355) ∧ (¬ ((M355 27 0 0 (v10 + 1).toNatClampNeg) = 0) → wp_L_lawB_L451 nT sc v2 B X Q v6 v7 M355)))))))
set_option maxHeartbeats 4000000 in
set_option maxRecDepth 100000 in
theorem l_L_lawB_L355 {l : Launch} {G : GG} {Z : ZT} (h : AX l G cL_law 17 RL wsL_law F_L_law L_L_law Z) (hG : GoodG G) {Q : Int32 → Mem → Prop} (hr : RETz cL_law Q Z) (nT : Nat) (sc : Int32 → Int32) (v2 : Int32) (hn27 : ∀ v, ctv G 27 0 0 v = .inl (gZ G, nT, .inl v)) (hk27 : (27, 0, 0) ∈ KS G) (hsc : sc = scv G) (hgL : gL G < 2 ^ 31) (hk28 : (28, 0, 0) ∈ KS G) (hk29 : (29, 0, 0) ∈ KS G) (v6 : Int32) (v7 : Int32) (v10 : Int32) (t0 : Int32) (t1 : Int32) (t2 : Int32)  {B : Int32 → Mem → Prop} (hB : ∀ (v6 : Int32) (M : Mem), B v6 M → Z 106 [(0, .ref (gB G)), (1, .ref (gA G (0, 0, 0))), (2, .int v2), (3, .ref (gA G (27, 0, 0))), (4, .ref (gA G (28, 0, 0))), (5, .ref (gA G (29, 0, 0))), (6, .int v6)] [] M) {X : Mem → Prop} (hX : ∀  (M : Mem), X  M → Z 653 [(1, .ref (gA G (0, 0, 0))), (2, .int v2), (3, .ref (gA G (27, 0, 0)))] [] M) (M : Mem) (hw : wp_L_lawB_L355 nT sc v2 B X Q v6 v7 v10 t0 t1 t2 M) : Z 355 [(0, .ref (gB G)), (1, .ref (gA G (0, 0, 0))), (2, .int v2), (3, .ref (gA G (27, 0, 0))), (4, .ref (gA G (28, 0, 0))), (5, .ref (gA G (29, 0, 0))), (6, .int v6), (7, .int v7), (10, .int v10)] [.int t0, .int t1, .int t2, .ref (gA G (0, 0, 0))] M := by
  unfold wp_L_lawB_L355 at hw
  refine h.cVi (pc := 355) [.int t2, .int t1, .int t0] (0, 0, 0) [] (m_X4_span hG  hw) gL_law_X4_span rfl hd_X4_span (by decide) (k_1 1 (by decide) (by decide)) rfl rfl rfl rfl rfl (Nat.le_of_ble_eq_true rfl) dL_law_355 (fun r355 M355 hw => ?_)
  refine h.if_eq (pc := 358) 451 dL_law_358 (by decide) (fun c358 => ?_) (fun c358 => ?_)
  · replace hw := hw.1 c358
    refine h.sub (pc := 451) [0, 1, 2, 3, 4, 5, 6, 7] (lv' := [(0, .ref (gB G)), (1, .ref (gA G (0, 0, 0))), (2, .int v2), (3, .ref (gA G (27, 0, 0))), (4, .ref (gA G (28, 0, 0))), (5, .ref (gA G (29, 0, 0))), (6, .int v6), (7, .int v7)]) rfl ?_
    exact l_L_lawB_L451 h hG hr nT sc v2 hn27 hk27 hsc hgL hk28 hk29 v6 v7 hB hX M355 hw
  · replace hw := hw.2 c358
    refine h.aload_n (pc := 361) dL_law_361 rfl 3 rfl ?_
    refine h.iload (pc := 362) dL_law_362 8 rfl ?_
    refine h.iconst (pc := 364) (v := 1) dL_law_364 (by decide) ?_
    refine h.iadd (pc := 365) dL_law_365 ?_
    obtain ⟨hj366, hw⟩ := hw
    refine h.zald (pc := 366) (f := 27) (o := 0) (i := 0) (n := nT) hk27 hn27 hj366 dL_law_366 ?_
    refine h.if_ne (pc := 367) 451 dL_law_367 (by decide) (fun c367 => ?_) (fun c367 => ?_)
    · replace hw := hw.2 c367
      refine h.sub (pc := 451) [0, 1, 2, 3, 4, 5, 6, 7] (lv' := [(0, .ref (gB G)), (1, .ref (gA G (0, 0, 0))), (2, .int v2), (3, .ref (gA G (27, 0, 0))), (4, .ref (gA G (28, 0, 0))), (5, .ref (gA G (29, 0, 0))), (6, .int v6), (7, .int v7)]) rfl ?_
      exact l_L_lawB_L451 h hG hr nT sc v2 hn27 hk27 hsc hgL hk28 hk29 v6 v7 hB hX M355 hw
    · replace hw := hw.1 c367
      refine h.iconst (pc := 370) (v := 0) dL_law_370 (by decide) ?_
      exact hr _ _ _ _ dL_law_371 zb_0 hw
def wp_L_lawB_L192 (nT : Nat) (sc : Int32 → Int32) (v2 : Int32) (B : Int32 → Mem → Prop) (X : Mem → Prop) (Q : Int32 → Mem → Prop) (v6 : Int32) (v7 : Int32) (v8 : Int32) (v9 : Int32) (v10 : Int32) (t0 : Int32) (M : Mem) : Prop := ((t0 = 0 → ((30 ≤ v8 → wp_L_lawB_L451 nT sc v2 B X Q v6 v7 M) ∧ (¬ (30 ≤ v8) → (wp_X4_row M (fun r232 M232 => ((r232 = v8 → wp_L_lawB_L451 nT sc v2 B X Q v6 v7 M232) ∧ (¬ (r232 = v8) → Q 0 M232))))))) ∧ (t0 = 1 → (wp_L_below (v7 >>> (4 &&& 31)) 6 M (fun r252 M252 => (vp_in v9 30 ∧ (∀ M255 : Mem, M255 = sM M252 28 0 0 v9.toNatClampNeg r252 → (vp_in v9 30 ∧ (wp_X4_note v9 (M255 28 0 0 v9.toNatClampNeg) M255 (fun r264 M264 => ((0 ≤ r264 → wp_L_lawB_L451 nT sc v2 B X Q v6 v7 M264) ∧ (¬ (0 ≤ r264) → Q 0 M264)))))))))) ∧ (t0 = 2 → (wp_L_below (v7 >>> (4 &&& 31)) 2 M (fun r277 M277 => ((r277 = 0 → wp_L_lawB_L288 nT sc v2 B X Q v6 v7 v9 1 M277) ∧ (¬ (r277 = 0) → wp_L_lawB_L288 nT sc v2 B X Q v6 v7 v9 0 M277))))) ∧ (t0 = 3 → (vp_in v10 nT ∧ (((M 27 0 0 v10.toNatClampNeg) = 0 → wp_L_lawB_L451 nT sc v2 B X Q v6 v7 M) ∧ (¬ ((M 27 0 0 v10.toNatClampNeg) = 0) → ((v2 ≤ (v10 + 1) → wp_L_lawB_L451 nT sc v2 B X Q v6 v7 M) ∧ (¬ (v2 ≤ (v10 + 1)) → (wp_L_below (v7 >>> (6 &&& 31)) 2 M (fun r344 M344 => ((r344 = 0 → wp_L_lawB_L355 nT sc v2 B X Q v6 v7 v10 1 v10 v9 M344) ∧ (¬ (r344 = 0) → wp_L_lawB_L355 nT sc v2 B X Q v6 v7 v10 0 v10 v9 M344)))))))))) ∧ (¬ t0 = 0 → ¬ t0 = 1 → ¬ t0 = 2 → ¬ t0 = 3 → (wp_L_below (v7 >>> (4 &&& 31)) 90 M (fun r378 M378 => (vp_in v10 nT ∧ (((M378 27 0 0 v10.toNatClampNeg) = 0 → (wp_L_below (v7 >>> (4 &&& 31)) 3000 M378 (fun r433 M433 => (wp_X4_number v9 v10 (r433 - 1000) M433 (fun r440 M440 => (((-9999) ≤ r440 → wp_L_lawB_L451 nT sc v2 B X Q v6 v7 M440) ∧ (¬ ((-9999) ≤ r440) → Q 0 M440))))))) ∧ (¬ ((M378 27 0 0 v10.toNatClampNeg) = 0) → (wp_L_below (v7 >>> (6 &&& 31)) 13 M378 (fun r406 M406 => (wp_X4_text v9 v10 r378 (if r406 < r378 then r406 else r378) M406 (fun r412 M412 => ((0 ≤ r412 → wp_L_lawB_L451 nT sc v2 B X Q v6 v7 M412) ∧ (¬ (0 ≤ r412) → Q 0 M412)))))))))))))
set_option maxHeartbeats 4000000 in
set_option maxRecDepth 100000 in
theorem l_L_lawB_L192 {l : Launch} {G : GG} {Z : ZT} (h : AX l G cL_law 17 RL wsL_law F_L_law L_L_law Z) (hG : GoodG G) {Q : Int32 → Mem → Prop} (hr : RETz cL_law Q Z) (nT : Nat) (sc : Int32 → Int32) (v2 : Int32) (hn27 : ∀ v, ctv G 27 0 0 v = .inl (gZ G, nT, .inl v)) (hk27 : (27, 0, 0) ∈ KS G) (hsc : sc = scv G) (hgL : gL G < 2 ^ 31) (hk28 : (28, 0, 0) ∈ KS G) (hk29 : (29, 0, 0) ∈ KS G) (v6 : Int32) (v7 : Int32) (v8 : Int32) (v9 : Int32) (v10 : Int32) (t0 : Int32)  {B : Int32 → Mem → Prop} (hB : ∀ (v6 : Int32) (M : Mem), B v6 M → Z 106 [(0, .ref (gB G)), (1, .ref (gA G (0, 0, 0))), (2, .int v2), (3, .ref (gA G (27, 0, 0))), (4, .ref (gA G (28, 0, 0))), (5, .ref (gA G (29, 0, 0))), (6, .int v6)] [] M) {X : Mem → Prop} (hX : ∀  (M : Mem), X  M → Z 653 [(1, .ref (gA G (0, 0, 0))), (2, .int v2), (3, .ref (gA G (27, 0, 0)))] [] M) (M : Mem) (hw : wp_L_lawB_L192 nT sc v2 B X Q v6 v7 v8 v9 v10 t0 M) : Z 192 [(0, .ref (gB G)), (1, .ref (gA G (0, 0, 0))), (2, .int v2), (3, .ref (gA G (27, 0, 0))), (4, .ref (gA G (28, 0, 0))), (5, .ref (gA G (29, 0, 0))), (6, .int v6), (7, .int v7), (8, .int v8), (9, .int v9), (10, .int v10)] [.int t0] M := by
  unfold wp_L_lawB_L192 at hw
  by_cases s192_0 : t0 = 0
  · replace hw := hw.1 s192_0
    refine h.tsw (pc := 192) (o := 32) 224 dL_law_192 (by rw [s192_0]; decide) (by rw [s192_0]; decide) (by rw [s192_0]; rfl) (by decide) ?_
    refine h.iload (pc := 224) dL_law_224 8 rfl ?_
    refine h.bipush (pc := 226) (v := 30) dL_law_226 (by decide) ?_
    refine h.icmp_ge (pc := 228) 451 dL_law_228 (by decide) (fun c228 => ?_) (fun c228 => ?_)
    · replace hw := hw.1 c228
      refine h.sub (pc := 451) [0, 1, 2, 3, 4, 5, 6, 7] (lv' := [(0, .ref (gB G)), (1, .ref (gA G (0, 0, 0))), (2, .int v2), (3, .ref (gA G (27, 0, 0))), (4, .ref (gA G (28, 0, 0))), (5, .ref (gA G (29, 0, 0))), (6, .int v6), (7, .int v7)]) rfl ?_
      exact l_L_lawB_L451 h hG hr nT sc v2 hn27 hk27 hsc hgL hk28 hk29 v6 v7 hB hX M hw
    · replace hw := hw.2 c228
      refine h.aload_n (pc := 231) dL_law_231 rfl 1 rfl ?_
      refine h.cVi (pc := 232) [] (0, 0, 0) [] (m_X4_row hG  hw) gL_law_X4_row rfl hd_X4_row (by decide) (k_1 1 (by decide) (by decide)) rfl rfl rfl rfl rfl (Nat.le_of_ble_eq_true rfl) dL_law_232 (fun r232 M232 hw => ?_)
      refine h.iload (pc := 235) dL_law_235 8 rfl ?_
      refine h.icmp_eq (pc := 237) 451 dL_law_237 (by decide) (fun c237 => ?_) (fun c237 => ?_)
      · replace hw := hw.1 c237
        refine h.sub (pc := 451) [0, 1, 2, 3, 4, 5, 6, 7] (lv' := [(0, .ref (gB G)), (1, .ref (gA G (0, 0, 0))), (2, .int v2), (3, .ref (gA G (27, 0, 0))), (4, .ref (gA G (28, 0, 0))), (5, .ref (gA G (29, 0, 0))), (6, .int v6), (7, .int v7)]) rfl ?_
        exact l_L_lawB_L451 h hG hr nT sc v2 hn27 hk27 hsc hgL hk28 hk29 v6 v7 hB hX M232 hw
      · replace hw := hw.2 c237
        refine h.iconst (pc := 240) (v := 0) dL_law_240 (by decide) ?_
        exact hr _ _ _ _ dL_law_241 zb_0 hw
  replace hw := hw.2
  by_cases s192_1 : t0 = 1
  · replace hw := hw.1 s192_1
    refine h.tsw (pc := 192) (o := 50) 242 dL_law_192 (by rw [s192_1]; decide) (by rw [s192_1]; decide) (by rw [s192_1]; rfl) (by decide) ?_
    refine h.aload (pc := 242) dL_law_242 4 rfl ?_
    refine h.iload (pc := 244) dL_law_244 9 rfl ?_
    refine h.iload (pc := 246) dL_law_246 7 rfl ?_
    refine h.iconst (pc := 248) (v := 4) dL_law_248 (by decide) ?_
    refine h.ishr (pc := 249) dL_law_249 ?_
    refine h.bipush (pc := 250) (v := 6) dL_law_250 (by decide) ?_
    refine h.cSi (pc := 252) [.int (v7 >>> (4 &&& 31)), .int 6] [.int v9, .ref (gA G (28, 0, 0))] (m_L_below hG  hw) gL_law_L_below rfl hd_L_below (by decide) rfl rfl (Nat.le_of_ble_eq_true rfl) dL_law_252 (fun r252 M252 hw => ?_)
    obtain ⟨hj255, hw⟩ := hw
    refine h.iast (pc := 255) (f := 28) (o := 0) (i := 0) (n := 30) (ix := v9) (x := r252) hk28 (fun _ => rfl) hj255 dL_law_255 (fun M255 e255 => ?_)
    replace hw := hw M255 e255
    refine h.aload_n (pc := 256) dL_law_256 rfl 1 rfl ?_
    refine h.iload (pc := 257) dL_law_257 9 rfl ?_
    refine h.aload (pc := 259) dL_law_259 4 rfl ?_
    refine h.iload (pc := 261) dL_law_261 9 rfl ?_
    obtain ⟨hj263, hw⟩ := hw
    refine h.iald (pc := 263) (f := 28) (o := 0) (i := 0) (n := 30) hk28 (fun _ => rfl) hj263 dL_law_263 ?_
    refine h.cVi (pc := 264) [.int v9, .int (M255 28 0 0 v9.toNatClampNeg)] (0, 0, 0) [] (m_X4_note hG  hw) gL_law_X4_note rfl hd_X4_note (by decide) (k_1 1 (by decide) (by decide)) rfl rfl rfl rfl rfl (Nat.le_of_ble_eq_true rfl) dL_law_264 (fun r264 M264 hw => ?_)
    refine h.if_ge (pc := 267) 451 dL_law_267 (by decide) (fun c267 => ?_) (fun c267 => ?_)
    · replace hw := hw.1 c267
      refine h.sub (pc := 451) [0, 1, 2, 3, 4, 5, 6, 7] (lv' := [(0, .ref (gB G)), (1, .ref (gA G (0, 0, 0))), (2, .int v2), (3, .ref (gA G (27, 0, 0))), (4, .ref (gA G (28, 0, 0))), (5, .ref (gA G (29, 0, 0))), (6, .int v6), (7, .int v7)]) rfl ?_
      exact l_L_lawB_L451 h hG hr nT sc v2 hn27 hk27 hsc hgL hk28 hk29 v6 v7 hB hX M264 hw
    · replace hw := hw.2 c267
      refine h.iconst (pc := 270) (v := 0) dL_law_270 (by decide) ?_
      exact hr _ _ _ _ dL_law_271 zb_0 hw
  replace hw := hw.2
  by_cases s192_2 : t0 = 2
  · replace hw := hw.1 s192_2
    refine h.tsw (pc := 192) (o := 80) 272 dL_law_192 (by rw [s192_2]; decide) (by rw [s192_2]; decide) (by rw [s192_2]; rfl) (by decide) ?_
    refine h.iload (pc := 272) dL_law_272 7 rfl ?_
    refine h.iconst (pc := 274) (v := 4) dL_law_274 (by decide) ?_
    refine h.ishr (pc := 275) dL_law_275 ?_
    refine h.iconst (pc := 276) (v := 2) dL_law_276 (by decide) ?_
    refine h.cSi (pc := 277) [.int (v7 >>> (4 &&& 31)), .int 2] [] (m_L_below hG  hw) gL_law_L_below rfl hd_L_below (by decide) rfl rfl (Nat.le_of_ble_eq_true rfl) dL_law_277 (fun r277 M277 hw => ?_)
    refine h.if_ne (pc := 280) 287 dL_law_280 (by decide) (fun c280 => ?_) (fun c280 => ?_)
    · replace hw := hw.2 c280
      refine h.iconst (pc := 287) (v := 0) dL_law_287 (by decide) ?_
      refine h.sub (pc := 288) [0, 1, 2, 3, 4, 5, 6, 7, 9] (lv' := [(0, .ref (gB G)), (1, .ref (gA G (0, 0, 0))), (2, .int v2), (3, .ref (gA G (27, 0, 0))), (4, .ref (gA G (28, 0, 0))), (5, .ref (gA G (29, 0, 0))), (6, .int v6), (7, .int v7), (9, .int v9)]) rfl ?_
      exact l_L_lawB_L288 h hG hr nT sc v2 hn27 hk27 hsc hgL hk28 hk29 v6 v7 v9 0 hB hX M277 hw
    · replace hw := hw.1 c280
      refine h.iconst (pc := 283) (v := 1) dL_law_283 (by decide) ?_
      refine h.goto (pc := 284) 288 dL_law_284 (by decide) ?_
      refine h.sub (pc := 288) [0, 1, 2, 3, 4, 5, 6, 7, 9] (lv' := [(0, .ref (gB G)), (1, .ref (gA G (0, 0, 0))), (2, .int v2), (3, .ref (gA G (27, 0, 0))), (4, .ref (gA G (28, 0, 0))), (5, .ref (gA G (29, 0, 0))), (6, .int v6), (7, .int v7), (9, .int v9)]) rfl ?_
      exact l_L_lawB_L288 h hG hr nT sc v2 hn27 hk27 hsc hgL hk28 hk29 v6 v7 v9 1 hB hX M277 hw
  replace hw := hw.2
  by_cases s192_3 : t0 = 3
  · replace hw := hw.1 s192_3
    refine h.tsw (pc := 192) (o := 126) 318 dL_law_192 (by rw [s192_3]; decide) (by rw [s192_3]; decide) (by rw [s192_3]; rfl) (by decide) ?_
    refine h.aload_n (pc := 318) dL_law_318 rfl 3 rfl ?_
    refine h.iload (pc := 319) dL_law_319 10 rfl ?_
    obtain ⟨hj321, hw⟩ := hw
    refine h.zald (pc := 321) (f := 27) (o := 0) (i := 0) (n := nT) hk27 hn27 hj321 dL_law_321 ?_
    refine h.if_eq (pc := 322) 451 dL_law_322 (by decide) (fun c322 => ?_) (fun c322 => ?_)
    · replace hw := hw.1 c322
      refine h.sub (pc := 451) [0, 1, 2, 3, 4, 5, 6, 7] (lv' := [(0, .ref (gB G)), (1, .ref (gA G (0, 0, 0))), (2, .int v2), (3, .ref (gA G (27, 0, 0))), (4, .ref (gA G (28, 0, 0))), (5, .ref (gA G (29, 0, 0))), (6, .int v6), (7, .int v7)]) rfl ?_
      exact l_L_lawB_L451 h hG hr nT sc v2 hn27 hk27 hsc hgL hk28 hk29 v6 v7 hB hX M hw
    · replace hw := hw.2 c322
      refine h.iload (pc := 325) dL_law_325 10 rfl ?_
      refine h.iconst (pc := 327) (v := 1) dL_law_327 (by decide) ?_
      refine h.iadd (pc := 328) dL_law_328 ?_
      refine h.iload_n (pc := 329) dL_law_329 rfl 2 rfl ?_
      refine h.icmp_ge (pc := 330) 451 dL_law_330 (by decide) (fun c330 => ?_) (fun c330 => ?_)
      · replace hw := hw.1 c330
        refine h.sub (pc := 451) [0, 1, 2, 3, 4, 5, 6, 7] (lv' := [(0, .ref (gB G)), (1, .ref (gA G (0, 0, 0))), (2, .int v2), (3, .ref (gA G (27, 0, 0))), (4, .ref (gA G (28, 0, 0))), (5, .ref (gA G (29, 0, 0))), (6, .int v6), (7, .int v7)]) rfl ?_
        exact l_L_lawB_L451 h hG hr nT sc v2 hn27 hk27 hsc hgL hk28 hk29 v6 v7 hB hX M hw
      · replace hw := hw.2 c330
        refine h.aload_n (pc := 333) dL_law_333 rfl 1 rfl ?_
        refine h.iload (pc := 334) dL_law_334 9 rfl ?_
        refine h.iload (pc := 336) dL_law_336 10 rfl ?_
        refine h.iload (pc := 338) dL_law_338 7 rfl ?_
        refine h.bipush (pc := 340) (v := 6) dL_law_340 (by decide) ?_
        refine h.ishr (pc := 342) dL_law_342 ?_
        refine h.iconst (pc := 343) (v := 2) dL_law_343 (by decide) ?_
        refine h.cSi (pc := 344) [.int (v7 >>> (6 &&& 31)), .int 2] [.int v10, .int v9, .ref (gA G (0, 0, 0))] (m_L_below hG  hw) gL_law_L_below rfl hd_L_below (by decide) rfl rfl (Nat.le_of_ble_eq_true rfl) dL_law_344 (fun r344 M344 hw => ?_)
        refine h.if_ne (pc := 347) 354 dL_law_347 (by decide) (fun c347 => ?_) (fun c347 => ?_)
        · replace hw := hw.2 c347
          refine h.iconst (pc := 354) (v := 0) dL_law_354 (by decide) ?_
          refine h.sub (pc := 355) [0, 1, 2, 3, 4, 5, 6, 7, 10] (lv' := [(0, .ref (gB G)), (1, .ref (gA G (0, 0, 0))), (2, .int v2), (3, .ref (gA G (27, 0, 0))), (4, .ref (gA G (28, 0, 0))), (5, .ref (gA G (29, 0, 0))), (6, .int v6), (7, .int v7), (10, .int v10)]) rfl ?_
          exact l_L_lawB_L355 h hG hr nT sc v2 hn27 hk27 hsc hgL hk28 hk29 v6 v7 v10 0 v10 v9 hB hX M344 hw
        · replace hw := hw.1 c347
          refine h.iconst (pc := 350) (v := 1) dL_law_350 (by decide) ?_
          refine h.goto (pc := 351) 355 dL_law_351 (by decide) ?_
          refine h.sub (pc := 355) [0, 1, 2, 3, 4, 5, 6, 7, 10] (lv' := [(0, .ref (gB G)), (1, .ref (gA G (0, 0, 0))), (2, .int v2), (3, .ref (gA G (27, 0, 0))), (4, .ref (gA G (28, 0, 0))), (5, .ref (gA G (29, 0, 0))), (6, .int v6), (7, .int v7), (10, .int v10)]) rfl ?_
          exact l_L_lawB_L355 h hG hr nT sc v2 hn27 hk27 hsc hgL hk28 hk29 v6 v7 v10 1 v10 v9 hB hX M344 hw
  replace hw := hw.2
  replace hw := hw s192_0 s192_1 s192_2 s192_3
  refine h.tsd (pc := 192) 372 dL_law_192 (tsw_out (lo := 0) (hi := 3) (fun z h1 h2 e => by
      rcases (show z = 0 ∨ z = 1 ∨ z = 2 ∨ z = 3 by omega) with rfl | rfl | rfl | rfl <;> first | exact s192_0 (Int32.toInt_inj.mp (e.trans (by decide))) | exact s192_1 (Int32.toInt_inj.mp (e.trans (by decide))) | exact s192_2 (Int32.toInt_inj.mp (e.trans (by decide))) | exact s192_3 (Int32.toInt_inj.mp (e.trans (by decide))))) (by decide) ?_
  refine h.iload (pc := 372) dL_law_372 7 rfl ?_
  refine h.iconst (pc := 374) (v := 4) dL_law_374 (by decide) ?_
  refine h.ishr (pc := 375) dL_law_375 ?_
  refine h.bipush (pc := 376) (v := 90) dL_law_376 (by decide) ?_
  refine h.cSi (pc := 378) [.int (v7 >>> (4 &&& 31)), .int 90] [] (m_L_below hG  hw) gL_law_L_below rfl hd_L_below (by decide) rfl rfl (Nat.le_of_ble_eq_true rfl) dL_law_378 (fun r378 M378 hw => ?_)
  refine h.istore (pc := 381) [(12, .int r378), (0, .ref (gB G)), (1, .ref (gA G (0, 0, 0))), (2, .int v2), (3, .ref (gA G (27, 0, 0))), (4, .ref (gA G (28, 0, 0))), (5, .ref (gA G (29, 0, 0))), (6, .int v6), (7, .int v7), (8, .int v8), (9, .int v9), (10, .int v10)] dL_law_381 (by decide) rfl ?_
  refine h.aload_n (pc := 383) dL_law_383 rfl 4 rfl ?_
  refine h.iload (pc := 384) dL_law_384 11 rfl ?_
  obtain ⟨hj386, hw⟩ := hw
  refine h.zald (pc := 386) (f := 27) (o := 0) (i := 0) (n := nT) hk27 hn27 hj386 dL_law_386 ?_
  refine h.if_eq (pc := 387) 421 dL_law_387 (by decide) (fun c387 => ?_) (fun c387 => ?_)
  · replace hw := hw.1 c387
    refine h.aload_n (pc := 421) dL_law_421 rfl 2 rfl ?_
    refine h.iload (pc := 422) dL_law_422 10 rfl ?_
    refine h.iload (pc := 424) dL_law_424 11 rfl ?_
    refine h.iload (pc := 426) dL_law_426 8 rfl ?_
    refine h.iconst (pc := 428) (v := 4) dL_law_428 (by decide) ?_
    refine h.ishr (pc := 429) dL_law_429 ?_
    refine h.sipush (pc := 430) (v := 3000) dL_law_430 (by decide) ?_
    refine h.cSi (pc := 433) [.int (v7 >>> (4 &&& 31)), .int 3000] [.int v10, .int v9, .ref (gA G (0, 0, 0))] (m_L_below hG  hw) gL_law_L_below rfl hd_L_below (by decide) rfl rfl (Nat.le_of_ble_eq_true rfl) dL_law_433 (fun r433 M433 hw => ?_)
    refine h.sipush (pc := 436) (v := 1000) dL_law_436 (by decide) ?_
    refine h.isub (pc := 439) dL_law_439 ?_
    refine h.cVi (pc := 440) [.int v9, .int v10, .int (r433 - 1000)] (0, 0, 0) [] (m_X4_number hG  hw) gL_law_X4_number rfl hd_X4_number (by decide) (k_1 1 (by decide) (by decide)) rfl rfl rfl rfl rfl (Nat.le_of_ble_eq_true rfl) dL_law_440 (fun r440 M440 hw => ?_)
    refine h.sipush (pc := 443) (v := (-9999)) dL_law_443 (by decide) ?_
    refine h.icmp_ge (pc := 446) 451 dL_law_446 (by decide) (fun c446 => ?_) (fun c446 => ?_)
    · replace hw := hw.1 c446
      refine h.sub (pc := 451) [1, 2, 3, 4, 5, 6, 7, 8] (lv' := [(0, .ref (gB G)), (1, .ref (gA G (0, 0, 0))), (2, .int v2), (3, .ref (gA G (27, 0, 0))), (4, .ref (gA G (28, 0, 0))), (5, .ref (gA G (29, 0, 0))), (6, .int v6), (7, .int v7)]) rfl ?_
      exact l_L_lawB_L451 h hG hr nT sc v2 hn27 hk27 hsc hgL hk28 hk29 v6 v7 hB hX M440 hw
    · replace hw := hw.2 c446
      refine h.iconst (pc := 449) (v := 0) dL_law_449 (by decide) ?_
      exact hr _ _ _ _ dL_law_450 zb_0 hw
  · replace hw := hw.2 c387
    refine h.aload_n (pc := 390) dL_law_390 rfl 2 rfl ?_
    refine h.iload (pc := 391) dL_law_391 10 rfl ?_
    refine h.iload (pc := 393) dL_law_393 11 rfl ?_
    refine h.iload (pc := 395) dL_law_395 0 rfl ?_
    refine h.iload (pc := 397) dL_law_397 0 rfl ?_
    refine h.iload (pc := 399) dL_law_399 8 rfl ?_
    refine h.bipush (pc := 401) (v := 6) dL_law_401 (by decide) ?_
    refine h.ishr (pc := 403) dL_law_403 ?_
    refine h.bipush (pc := 404) (v := 13) dL_law_404 (by decide) ?_
    refine h.cSi (pc := 406) [.int (v7 >>> (6 &&& 31)), .int 13] [.int r378, .int r378, .int v10, .int v9, .ref (gA G (0, 0, 0))] (m_L_below hG  hw) gL_law_L_below rfl hd_L_below (by decide) rfl rfl (Nat.le_of_ble_eq_true rfl) dL_law_406 (fun r406 M406 hw => ?_)
    refine h.mmin (pc := 409) (st := [.int r378, .int v10, .int v9, .ref (gA G (0, 0, 0))]) kML_law_1_min_45 kML_law_2_min kML_law_3 kML_law_4_min (by decide) (Nat.le_of_ble_eq_true rfl) dL_law_409 ?_
    refine h.cVi (pc := 412) [.int v9, .int v10, .int r378, .int (if r406 < r378 then r406 else r378)] (0, 0, 0) [] (m_X4_text hG  hw) gL_law_X4_text rfl hd_X4_text (by decide) (k_1 1 (by decide) (by decide)) rfl rfl rfl rfl rfl (Nat.le_of_ble_eq_true rfl) dL_law_412 (fun r412 M412 hw => ?_)
    refine h.if_ge (pc := 415) 451 dL_law_415 (by decide) (fun c415 => ?_) (fun c415 => ?_)
    · replace hw := hw.1 c415
      refine h.sub (pc := 451) [1, 2, 3, 4, 5, 6, 7, 8] (lv' := [(0, .ref (gB G)), (1, .ref (gA G (0, 0, 0))), (2, .int v2), (3, .ref (gA G (27, 0, 0))), (4, .ref (gA G (28, 0, 0))), (5, .ref (gA G (29, 0, 0))), (6, .int v6), (7, .int v7)]) rfl ?_
      exact l_L_lawB_L451 h hG hr nT sc v2 hn27 hk27 hsc hgL hk28 hk29 v6 v7 hB hX M412 hw
    · replace hw := hw.2 c415
      refine h.goto (pc := 418) 449 dL_law_418 (by decide) ?_
      refine h.iconst (pc := 449) (v := 0) dL_law_449 (by decide) ?_
      exact hr _ _ _ _ dL_law_450 zb_0 hw
def wp_L_lawB_L163 (nT : Nat) (sc : Int32 → Int32) (v2 : Int32) (B : Int32 → Mem → Prop) (X : Mem → Prop) (Q : Int32 → Mem → Prop) (v6 : Int32) (v7 : Int32) (v8 : Int32) (t0 : Int32) (M : Mem) : Prop := (wp_L_below (v7 >>> (5 &&& 31)) v2 M (fun r170 M170 => ((3 ≤ v8 → (wp_L_below v7 6 M170 (fun r189 M189 => wp_L_lawB_L192 nT sc v2 B X Q v6 v7 v8 t0 r170 r189 M189))) ∧ (¬ (3 ≤ v8) → wp_L_lawB_L192 nT sc v2 B X Q v6 v7 v8 t0 r170 0 M170))))
set_option maxHeartbeats 4000000 in
set_option maxRecDepth 100000 in
theorem l_L_lawB_L163 {l : Launch} {G : GG} {Z : ZT} (h : AX l G cL_law 17 RL wsL_law F_L_law L_L_law Z) (hG : GoodG G) {Q : Int32 → Mem → Prop} (hr : RETz cL_law Q Z) (nT : Nat) (sc : Int32 → Int32) (v2 : Int32) (hn27 : ∀ v, ctv G 27 0 0 v = .inl (gZ G, nT, .inl v)) (hk27 : (27, 0, 0) ∈ KS G) (hsc : sc = scv G) (hgL : gL G < 2 ^ 31) (hk28 : (28, 0, 0) ∈ KS G) (hk29 : (29, 0, 0) ∈ KS G) (v6 : Int32) (v7 : Int32) (v8 : Int32) (t0 : Int32)  {B : Int32 → Mem → Prop} (hB : ∀ (v6 : Int32) (M : Mem), B v6 M → Z 106 [(0, .ref (gB G)), (1, .ref (gA G (0, 0, 0))), (2, .int v2), (3, .ref (gA G (27, 0, 0))), (4, .ref (gA G (28, 0, 0))), (5, .ref (gA G (29, 0, 0))), (6, .int v6)] [] M) {X : Mem → Prop} (hX : ∀  (M : Mem), X  M → Z 653 [(1, .ref (gA G (0, 0, 0))), (2, .int v2), (3, .ref (gA G (27, 0, 0)))] [] M) (M : Mem) (hw : wp_L_lawB_L163 nT sc v2 B X Q v6 v7 v8 t0 M) : Z 163 [(0, .ref (gB G)), (1, .ref (gA G (0, 0, 0))), (2, .int v2), (3, .ref (gA G (27, 0, 0))), (4, .ref (gA G (28, 0, 0))), (5, .ref (gA G (29, 0, 0))), (6, .int v6), (7, .int v7), (8, .int v8)] [.int t0] M := by
  unfold wp_L_lawB_L163 at hw
  refine h.istore (pc := 163) [(9, .int t0), (0, .ref (gB G)), (1, .ref (gA G (0, 0, 0))), (2, .int v2), (3, .ref (gA G (27, 0, 0))), (4, .ref (gA G (28, 0, 0))), (5, .ref (gA G (29, 0, 0))), (6, .int v6), (7, .int v7), (8, .int v8)] dL_law_163 (by decide) rfl ?_
  refine h.iload (pc := 165) dL_law_165 8 rfl ?_
  refine h.iconst (pc := 167) (v := 5) dL_law_167 (by decide) ?_
  refine h.ishr (pc := 168) dL_law_168 ?_
  refine h.iload_n (pc := 169) dL_law_169 rfl 3 rfl ?_
  refine h.cSi (pc := 170) [.int (v7 >>> (5 &&& 31)), .int v2] [] (m_L_below hG  hw) gL_law_L_below rfl hd_L_below (by decide) rfl rfl (Nat.le_of_ble_eq_true rfl) dL_law_170 (fun r170 M170 hw => ?_)
  refine h.istore (pc := 173) [(10, .int r170), (9, .int t0), (0, .ref (gB G)), (1, .ref (gA G (0, 0, 0))), (2, .int v2), (3, .ref (gA G (27, 0, 0))), (4, .ref (gA G (28, 0, 0))), (5, .ref (gA G (29, 0, 0))), (6, .int v6), (7, .int v7), (8, .int v8)] dL_law_173 (by decide) rfl ?_
  refine h.iload (pc := 175) dL_law_175 10 rfl ?_
  refine h.iconst (pc := 177) (v := 3) dL_law_177 (by decide) ?_
  refine h.icmp_ge (pc := 178) 185 dL_law_178 (by decide) (fun c178 => ?_) (fun c178 => ?_)
  · replace hw := hw.1 c178
    refine h.iload (pc := 185) dL_law_185 9 rfl ?_
    refine h.bipush (pc := 187) (v := 6) dL_law_187 (by decide) ?_
    refine h.cSi (pc := 189) [.int v7, .int 6] [] (m_L_below hG  hw) gL_law_L_below rfl hd_L_below (by decide) rfl rfl (Nat.le_of_ble_eq_true rfl) dL_law_189 (fun r189 M189 hw => ?_)
    refine h.sub (pc := 192) [2, 3, 4, 5, 6, 7, 8, 9, 10, 1, 0] (lv' := [(0, .ref (gB G)), (1, .ref (gA G (0, 0, 0))), (2, .int v2), (3, .ref (gA G (27, 0, 0))), (4, .ref (gA G (28, 0, 0))), (5, .ref (gA G (29, 0, 0))), (6, .int v6), (7, .int v7), (8, .int v8), (9, .int t0), (10, .int r170)]) rfl ?_
    exact l_L_lawB_L192 h hG hr nT sc v2 hn27 hk27 hsc hgL hk28 hk29 v6 v7 v8 t0 r170 r189 hB hX M189 hw
  · replace hw := hw.2 c178
    refine h.iconst (pc := 181) (v := 0) dL_law_181 (by decide) ?_
    refine h.goto (pc := 182) 192 dL_law_182 (by decide) ?_
    refine h.sub (pc := 192) [2, 3, 4, 5, 6, 7, 8, 9, 10, 1, 0] (lv' := [(0, .ref (gB G)), (1, .ref (gA G (0, 0, 0))), (2, .int v2), (3, .ref (gA G (27, 0, 0))), (4, .ref (gA G (28, 0, 0))), (5, .ref (gA G (29, 0, 0))), (6, .int v6), (7, .int v7), (8, .int v8), (9, .int t0), (10, .int r170)]) rfl ?_
    exact l_L_lawB_L192 h hG hr nT sc v2 hn27 hk27 hsc hgL hk28 hk29 v6 v7 v8 t0 r170 0 hB hX M170 hw
def wp_L_lawB_L106 (nT : Nat) (sc : Int32 → Int32) (v2 : Int32)  (X : Mem → Prop) (Q : Int32 → Mem → Prop) : Nat → Int32 → Mem → Prop
  | 0, _, _ => False
  | n + 1, v6, M => ((60 ≤ v6 → X M) ∧ (¬ (60 ≤ v6) → (wp_L_cell sc (v6 - v6 / 16 * 16) M (fun r119 M119 => (wp_X4_many 1 M119 (fun r140 M140 => ((r140 = 0 → wp_L_lawB_L163 nT sc v2 (wp_L_lawB_L106 nT sc v2 X Q n) X Q v6 ((r119 >>> (((v6 / 16) * 2) &&& 31)) + (7 * v6)) r140 (-1) M140) ∧ (¬ (r140 = 0) → (wp_L_below (((r119 >>> (((v6 / 16) * 2) &&& 31)) + (7 * v6)) >>> (3 &&& 31)) r140 M140 (fun r160 M160 => wp_L_lawB_L163 nT sc v2 (wp_L_lawB_L106 nT sc v2 X Q n) X Q v6 ((r119 >>> (((v6 / 16) * 2) &&& 31)) + (7 * v6)) r140 r160 M160))))))))))
set_option maxHeartbeats 4000000 in
set_option maxRecDepth 100000 in
theorem l_L_lawB_L106 {l : Launch} {G : GG} {Z : ZT} (h : AX l G cL_law 17 RL wsL_law F_L_law L_L_law Z) (hG : GoodG G) {Q : Int32 → Mem → Prop} (hr : RETz cL_law Q Z) (nT : Nat) (sc : Int32 → Int32) (v2 : Int32) (hn27 : ∀ v, ctv G 27 0 0 v = .inl (gZ G, nT, .inl v)) (hk27 : (27, 0, 0) ∈ KS G) (hsc : sc = scv G) (hgL : gL G < 2 ^ 31) (hk28 : (28, 0, 0) ∈ KS G) (hk29 : (29, 0, 0) ∈ KS G)   (X : Mem → Prop) (hX : ∀  (M : Mem), X  M → Z 653 [(1, .ref (gA G (0, 0, 0))), (2, .int v2), (3, .ref (gA G (27, 0, 0)))] [] M) : ∀ (n : Nat) (v6 : Int32) (M : Mem), wp_L_lawB_L106 nT sc v2 X Q n v6 M → Z 106 [(0, .ref (gB G)), (1, .ref (gA G (0, 0, 0))), (2, .int v2), (3, .ref (gA G (27, 0, 0))), (4, .ref (gA G (28, 0, 0))), (5, .ref (gA G (29, 0, 0))), (6, .int v6)] [] M := by
  intro n
  induction n with
  | zero => intro v6 M hw; exact hw.elim
  | succ n ih =>
    intro v6 M hw
    unfold wp_L_lawB_L106 at hw
    refine h.iload (pc := 106) dL_law_106 6 rfl ?_
    refine h.bipush (pc := 108) (v := 60) dL_law_108 (by decide) ?_
    refine h.icmp_ge (pc := 110) 653 dL_law_110 (by decide) (fun c110 => ?_) (fun c110 => ?_)
    · replace hw := hw.1 c110
      refine h.sub (pc := 653) [1, 2, 3] (lv' := [(1, .ref (gA G (0, 0, 0))), (2, .int v2), (3, .ref (gA G (27, 0, 0)))]) rfl ?_
      exact hX M hw
    · replace hw := hw.2 c110
      refine h.aload_n (pc := 113) dL_law_113 rfl 0 rfl ?_
      refine h.iload (pc := 114) dL_law_114 6 rfl ?_
      refine h.bipush (pc := 116) (v := 16) dL_law_116 (by decide) ?_
      refine h.irem (pc := 118) dL_law_118 (by decide) ?_
      refine h.cSi (pc := 119) [.ref (gB G), .int (v6 - v6 / 16 * 16)] [] (m_L_cell hG hsc hgL hw) gL_law_L_cell rfl hd_L_cell (by decide) rfl rfl (Nat.le_of_ble_eq_true rfl) dL_law_119 (fun r119 M119 hw => ?_)
      refine h.iload (pc := 122) dL_law_122 6 rfl ?_
      refine h.bipush (pc := 124) (v := 16) dL_law_124 (by decide) ?_
      refine h.idiv (pc := 126) dL_law_126 (by decide) ?_
      refine h.iconst (pc := 127) (v := 2) dL_law_127 (by decide) ?_
      refine h.imul (pc := 128) dL_law_128 ?_
      refine h.ishr (pc := 129) dL_law_129 ?_
      refine h.bipush (pc := 130) (v := 7) dL_law_130 (by decide) ?_
      refine h.iload (pc := 132) dL_law_132 6 rfl ?_
      refine h.imul (pc := 134) dL_law_134 ?_
      refine h.iadd (pc := 135) dL_law_135 ?_
      refine h.istore (pc := 136) [(7, .int ((r119 >>> (((v6 / 16) * 2) &&& 31)) + (7 * v6))), (0, .ref (gB G)), (1, .ref (gA G (0, 0, 0))), (2, .int v2), (3, .ref (gA G (27, 0, 0))), (4, .ref (gA G (28, 0, 0))), (5, .ref (gA G (29, 0, 0))), (6, .int v6)] dL_law_136 (by decide) rfl ?_
      refine h.aload_n (pc := 138) dL_law_138 rfl 2 rfl ?_
      refine h.iconst (pc := 139) (v := 1) dL_law_139 (by decide) ?_
      refine h.cVi (pc := 140) [.int 1] (0, 0, 0) [] (m_X4_many hG  hw) gL_law_X4_many rfl hd_X4_many (by decide) (k_1 1 (by decide) (by decide)) rfl rfl rfl rfl rfl (Nat.le_of_ble_eq_true rfl) dL_law_140 (fun r140 M140 hw => ?_)
      refine h.istore (pc := 143) [(8, .int r140), (7, .int ((r119 >>> (((v6 / 16) * 2) &&& 31)) + (7 * v6))), (0, .ref (gB G)), (1, .ref (gA G (0, 0, 0))), (2, .int v2), (3, .ref (gA G (27, 0, 0))), (4, .ref (gA G (28, 0, 0))), (5, .ref (gA G (29, 0, 0))), (6, .int v6)] dL_law_143 (by decide) rfl ?_
      refine h.iload (pc := 145) dL_law_145 0 rfl ?_
      refine h.if_ne (pc := 147) 154 dL_law_147 (by decide) (fun c147 => ?_) (fun c147 => ?_)
      · replace hw := hw.2 c147
        refine h.iload (pc := 154) dL_law_154 1 rfl ?_
        refine h.iconst (pc := 156) (v := 3) dL_law_156 (by decide) ?_
        refine h.ishr (pc := 157) dL_law_157 ?_
        refine h.iload (pc := 158) dL_law_158 0 rfl ?_
        refine h.cSi (pc := 160) [.int (((r119 >>> (((v6 / 16) * 2) &&& 31)) + (7 * v6)) >>> (3 &&& 31)), .int r140] [] (m_L_below hG  hw) gL_law_L_below rfl hd_L_below (by decide) rfl rfl (Nat.le_of_ble_eq_true rfl) dL_law_160 (fun r160 M160 hw => ?_)
        refine h.sub (pc := 163) [2, 3, 4, 5, 6, 7, 8, 1, 0] (lv' := [(0, .ref (gB G)), (1, .ref (gA G (0, 0, 0))), (2, .int v2), (3, .ref (gA G (27, 0, 0))), (4, .ref (gA G (28, 0, 0))), (5, .ref (gA G (29, 0, 0))), (6, .int v6), (7, .int ((r119 >>> (((v6 / 16) * 2) &&& 31)) + (7 * v6))), (8, .int r140)]) rfl ?_
        exact l_L_lawB_L163 h hG hr nT sc v2 hn27 hk27 hsc hgL hk28 hk29 v6 ((r119 >>> (((v6 / 16) * 2) &&& 31)) + (7 * v6)) r140 r160 ih hX M160 hw
      · replace hw := hw.1 c147
        refine h.iconst (pc := 150) (v := (-1)) dL_law_150 (by decide) ?_
        refine h.goto (pc := 151) 163 dL_law_151 (by decide) ?_
        refine h.sub (pc := 163) [2, 3, 4, 5, 6, 7, 8, 1, 0] (lv' := [(0, .ref (gB G)), (1, .ref (gA G (0, 0, 0))), (2, .int v2), (3, .ref (gA G (27, 0, 0))), (4, .ref (gA G (28, 0, 0))), (5, .ref (gA G (29, 0, 0))), (6, .int v6), (7, .int ((r119 >>> (((v6 / 16) * 2) &&& 31)) + (7 * v6))), (8, .int r140)]) rfl ?_
        exact l_L_lawB_L163 h hG hr nT sc v2 hn27 hk27 hsc hgL hk28 hk29 v6 ((r119 >>> (((v6 / 16) * 2) &&& 31)) + (7 * v6)) r140 (-1) ih hX M140 hw
def wp_L_lawB_L710 (nT : Nat) (sc : Int32 → Int32) (v2 : Int32) (B : Int32 → Mem → Prop) (X : Mem → Prop) (Q : Int32 → Mem → Prop) (v6 : Int64) (v8 : Int32) (v9 : Int32) (M : Mem) : Prop := B (v9 + 1) M
set_option maxHeartbeats 4000000 in
set_option maxRecDepth 100000 in
theorem l_L_lawB_L710 {l : Launch} {G : GG} {Z : ZT} (h : AX l G cL_law 17 RL wsL_law F_L_law L_L_law Z) (hG : GoodG G) {Q : Int32 → Mem → Prop} (hr : RETz cL_law Q Z) (nT : Nat) (sc : Int32 → Int32) (v2 : Int32) (hn27 : ∀ v, ctv G 27 0 0 v = .inl (gZ G, nT, .inl v)) (hk27 : (27, 0, 0) ∈ KS G) (hsc : sc = scv G) (hgL : gL G < 2 ^ 31) (hk28 : (28, 0, 0) ∈ KS G) (hk29 : (29, 0, 0) ∈ KS G) (v6 : Int64) (v8 : Int32) (v9 : Int32)  {B : Int32 → Mem → Prop} (hB : ∀ (v9 : Int32) (M : Mem), B v9 M → Z 675 [(1, .ref (gA G (0, 0, 0))), (2, .int v2), (3, .ref (gA G (27, 0, 0))), (6, .long v6), (8, .int v8), (9, .int v9)] [] M) {X : Mem → Prop} (hX : ∀  (M : Mem), X  M → Z 716 [(1, .ref (gA G (0, 0, 0))), (2, .int v2), (3, .ref (gA G (27, 0, 0))), (6, .long v6), (8, .int v8)] [] M) (M : Mem) (hw : wp_L_lawB_L710 nT sc v2 B X Q v6 v8 v9 M) : Z 710 [(1, .ref (gA G (0, 0, 0))), (2, .int v2), (3, .ref (gA G (27, 0, 0))), (6, .long v6), (8, .int v8), (9, .int v9)] [] M := by
  unfold wp_L_lawB_L710 at hw
  refine h.iinc (pc := 710) [(9, .int (v9 + 1)), (1, .ref (gA G (0, 0, 0))), (2, .int v2), (3, .ref (gA G (27, 0, 0))), (6, .long v6), (8, .int v8)] dL_law_710 5 rfl (inc_ (by decide)) (by decide) rfl ?_
  refine h.goto (pc := 713) 675 dL_law_713 (by decide) ?_
  refine h.sub (pc := 675) [1, 2, 3, 4, 5, 0] (lv' := [(1, .ref (gA G (0, 0, 0))), (2, .int v2), (3, .ref (gA G (27, 0, 0))), (6, .long v6), (8, .int v8), (9, .int (v9 + 1))]) rfl ?_
  exact hB (v9 + 1) M hw
def wp_L_lawB_L675 (nT : Nat) (sc : Int32 → Int32) (v2 : Int32) (v6 : Int64) (v8 : Int32) (X : Mem → Prop) (Q : Int32 → Mem → Prop) : Nat → Int32 → Mem → Prop
  | 0, _, _ => False
  | n + 1, v9, M => ((v2 ≤ v9 → X M) ∧ (¬ (v2 ≤ v9) → (vp_in v9 nT ∧ (((M 27 0 0 v9.toNatClampNeg) = 0 → (wp_X4_cell v8 v9 0 M (fun r699 M699 => (wp_X4_changedBy v8 v9 r699 M699 (fun r702 M702 => ((r702 = 0 → wp_L_lawB_L710 nT sc v2 (wp_L_lawB_L675 nT sc v2 v6 v8 X Q n) X Q v6 v8 v9 M702) ∧ (¬ (r702 = 0) → Q 0 M702))))))) ∧ (¬ ((M 27 0 0 v9.toNatClampNeg) = 0) → wp_L_lawB_L710 nT sc v2 (wp_L_lawB_L675 nT sc v2 v6 v8 X Q n) X Q v6 v8 v9 M)))))
set_option maxHeartbeats 4000000 in
set_option maxRecDepth 100000 in
theorem l_L_lawB_L675 {l : Launch} {G : GG} {Z : ZT} (h : AX l G cL_law 17 RL wsL_law F_L_law L_L_law Z) (hG : GoodG G) {Q : Int32 → Mem → Prop} (hr : RETz cL_law Q Z) (nT : Nat) (sc : Int32 → Int32) (v2 : Int32) (hn27 : ∀ v, ctv G 27 0 0 v = .inl (gZ G, nT, .inl v)) (hk27 : (27, 0, 0) ∈ KS G) (hsc : sc = scv G) (hgL : gL G < 2 ^ 31) (hk28 : (28, 0, 0) ∈ KS G) (hk29 : (29, 0, 0) ∈ KS G) (v6 : Int64) (v8 : Int32)  (X : Mem → Prop) (hX : ∀  (M : Mem), X  M → Z 716 [(1, .ref (gA G (0, 0, 0))), (2, .int v2), (3, .ref (gA G (27, 0, 0))), (6, .long v6), (8, .int v8)] [] M) : ∀ (n : Nat) (v9 : Int32) (M : Mem), wp_L_lawB_L675 nT sc v2 v6 v8 X Q n v9 M → Z 675 [(1, .ref (gA G (0, 0, 0))), (2, .int v2), (3, .ref (gA G (27, 0, 0))), (6, .long v6), (8, .int v8), (9, .int v9)] [] M := by
  intro n
  induction n with
  | zero => intro v9 M hw; exact hw.elim
  | succ n ih =>
    intro v9 M hw
    unfold wp_L_lawB_L675 at hw
    refine h.iload (pc := 675) dL_law_675 5 rfl ?_
    refine h.iload_n (pc := 677) dL_law_677 rfl 1 rfl ?_
    refine h.icmp_ge (pc := 678) 716 dL_law_678 (by decide) (fun c678 => ?_) (fun c678 => ?_)
    · replace hw := hw.1 c678
      refine h.sub (pc := 716) [0, 1, 2, 3, 4] (lv' := [(1, .ref (gA G (0, 0, 0))), (2, .int v2), (3, .ref (gA G (27, 0, 0))), (6, .long v6), (8, .int v8)]) rfl ?_
      exact hX M hw
    · replace hw := hw.2 c678
      refine h.aload_n (pc := 681) dL_law_681 rfl 2 rfl ?_
      refine h.iload (pc := 682) dL_law_682 5 rfl ?_
      obtain ⟨hj684, hw⟩ := hw
      refine h.zald (pc := 684) (f := 27) (o := 0) (i := 0) (n := nT) hk27 hn27 hj684 dL_law_684 ?_
      refine h.if_ne (pc := 685) 710 dL_law_685 (by decide) (fun c685 => ?_) (fun c685 => ?_)
      · replace hw := hw.2 c685
        exact l_L_lawB_L710 h hG hr nT sc v2 hn27 hk27 hsc hgL hk28 hk29 v6 v8 v9 ih hX M hw
      · replace hw := hw.1 c685
        refine h.aload_n (pc := 688) dL_law_688 rfl 0 rfl ?_
        refine h.iload (pc := 689) dL_law_689 4 rfl ?_
        refine h.iload (pc := 691) dL_law_691 5 rfl ?_
        refine h.aload_n (pc := 693) dL_law_693 rfl 0 rfl ?_
        refine h.iload (pc := 694) dL_law_694 4 rfl ?_
        refine h.iload (pc := 696) dL_law_696 5 rfl ?_
        refine h.iconst (pc := 698) (v := 0) dL_law_698 (by decide) ?_
        refine h.cVi (pc := 699) [.int v8, .int v9, .int 0] (0, 0, 0) [.int v9, .int v8, .ref (gA G (0, 0, 0))] (m_X4_cell hG  hw) gL_law_X4_cell rfl hd_X4_cell (by decide) (k_1 1 (by decide) (by decide)) rfl rfl rfl rfl rfl (Nat.le_of_ble_eq_true rfl) dL_law_699 (fun r699 M699 hw => ?_)
        refine h.cVi (pc := 702) [.int v8, .int v9, .int r699] (0, 0, 0) [] (m_X4_changedBy hG  hw) gL_law_X4_changedBy rfl hd_X4_changedBy (by decide) (k_1 1 (by decide) (by decide)) rfl rfl rfl rfl rfl (Nat.le_of_ble_eq_true rfl) dL_law_702 (fun r702 M702 hw => ?_)
        refine h.if_eq (pc := 705) 710 dL_law_705 (by decide) (fun c705 => ?_) (fun c705 => ?_)
        · replace hw := hw.1 c705
          exact l_L_lawB_L710 h hG hr nT sc v2 hn27 hk27 hsc hgL hk28 hk29 v6 v8 v9 ih hX M702 hw
        · replace hw := hw.2 c705
          refine h.iconst (pc := 708) (v := 0) dL_law_708 (by decide) ?_
          exact hr _ _ _ _ dL_law_709 zb_0 hw
def wp_L_lawB_L716 (nT : Nat) (sc : Int32 → Int32) (v2 : Int32) (B : Int32 → Mem → Prop) (X : Mem → Prop) (Q : Int32 → Mem → Prop) (v6 : Int64) (v8 : Int32) (M : Mem) : Prop := B (v8 + 1) M
set_option maxHeartbeats 4000000 in
set_option maxRecDepth 100000 in
theorem l_L_lawB_L716 {l : Launch} {G : GG} {Z : ZT} (h : AX l G cL_law 17 RL wsL_law F_L_law L_L_law Z) (hG : GoodG G) {Q : Int32 → Mem → Prop} (hr : RETz cL_law Q Z) (nT : Nat) (sc : Int32 → Int32) (v2 : Int32) (hn27 : ∀ v, ctv G 27 0 0 v = .inl (gZ G, nT, .inl v)) (hk27 : (27, 0, 0) ∈ KS G) (hsc : sc = scv G) (hgL : gL G < 2 ^ 31) (hk28 : (28, 0, 0) ∈ KS G) (hk29 : (29, 0, 0) ∈ KS G) (v6 : Int64) (v8 : Int32)  {B : Int32 → Mem → Prop} (hB : ∀ (v8 : Int32) (M : Mem), B v8 M → Z 662 [(1, .ref (gA G (0, 0, 0))), (2, .int v2), (3, .ref (gA G (27, 0, 0))), (6, .long v6), (8, .int v8)] [] M) {X : Mem → Prop} (hX : ∀  (M : Mem), X  M → Z 722 [(1, .ref (gA G (0, 0, 0))), (6, .long v6)] [] M) (M : Mem) (hw : wp_L_lawB_L716 nT sc v2 B X Q v6 v8 M) : Z 716 [(1, .ref (gA G (0, 0, 0))), (2, .int v2), (3, .ref (gA G (27, 0, 0))), (6, .long v6), (8, .int v8)] [] M := by
  unfold wp_L_lawB_L716 at hw
  refine h.iinc (pc := 716) [(8, .int (v8 + 1)), (1, .ref (gA G (0, 0, 0))), (2, .int v2), (3, .ref (gA G (27, 0, 0))), (6, .long v6)] dL_law_716 4 rfl (inc_ (by decide)) (by decide) rfl ?_
  refine h.goto (pc := 719) 662 dL_law_719 (by decide) ?_
  refine h.sub (pc := 662) [1, 2, 3, 4, 0] (lv' := [(1, .ref (gA G (0, 0, 0))), (2, .int v2), (3, .ref (gA G (27, 0, 0))), (6, .long v6), (8, .int (v8 + 1))]) rfl ?_
  exact hB (v8 + 1) M hw
def wp_L_lawB_L662 (nT : Nat) (sc : Int32 → Int32) (v2 : Int32) (v6 : Int64) (X : Mem → Prop) (Q : Int32 → Mem → Prop) : Nat → Int32 → Mem → Prop
  | 0, _, _ => False
  | n + 1, v8, M => (wp_X4_many 1 M (fun r666 M666 => ((r666 ≤ v8 → X M666) ∧ (¬ (r666 ≤ v8) → ∃ n675, wp_L_lawB_L675 nT sc v2 v6 v8 (fun M => wp_L_lawB_L716 nT sc v2 (wp_L_lawB_L662 nT sc v2 v6 X Q n) X Q v6 v8 M) Q n675 0 M666))))
set_option maxHeartbeats 4000000 in
set_option maxRecDepth 100000 in
theorem l_L_lawB_L662 {l : Launch} {G : GG} {Z : ZT} (h : AX l G cL_law 17 RL wsL_law F_L_law L_L_law Z) (hG : GoodG G) {Q : Int32 → Mem → Prop} (hr : RETz cL_law Q Z) (nT : Nat) (sc : Int32 → Int32) (v2 : Int32) (hn27 : ∀ v, ctv G 27 0 0 v = .inl (gZ G, nT, .inl v)) (hk27 : (27, 0, 0) ∈ KS G) (hsc : sc = scv G) (hgL : gL G < 2 ^ 31) (hk28 : (28, 0, 0) ∈ KS G) (hk29 : (29, 0, 0) ∈ KS G) (v6 : Int64)  (X : Mem → Prop) (hX : ∀  (M : Mem), X  M → Z 722 [(1, .ref (gA G (0, 0, 0))), (6, .long v6)] [] M) : ∀ (n : Nat) (v8 : Int32) (M : Mem), wp_L_lawB_L662 nT sc v2 v6 X Q n v8 M → Z 662 [(1, .ref (gA G (0, 0, 0))), (2, .int v2), (3, .ref (gA G (27, 0, 0))), (6, .long v6), (8, .int v8)] [] M := by
  intro n
  induction n with
  | zero => intro v8 M hw; exact hw.elim
  | succ n ih =>
    intro v8 M hw
    unfold wp_L_lawB_L662 at hw
    refine h.iload (pc := 662) dL_law_662 4 rfl ?_
    refine h.aload_n (pc := 664) dL_law_664 rfl 0 rfl ?_
    refine h.iconst (pc := 665) (v := 1) dL_law_665 (by decide) ?_
    refine h.cVi (pc := 666) [.int 1] (0, 0, 0) [.int v8] (m_X4_many hG  hw) gL_law_X4_many rfl hd_X4_many (by decide) (k_1 1 (by decide) (by decide)) rfl rfl rfl rfl rfl (Nat.le_of_ble_eq_true rfl) dL_law_666 (fun r666 M666 hw => ?_)
    refine h.icmp_ge (pc := 669) 722 dL_law_669 (by decide) (fun c669 => ?_) (fun c669 => ?_)
    · replace hw := hw.1 c669
      refine h.sub (pc := 722) [0, 3] (lv' := [(1, .ref (gA G (0, 0, 0))), (6, .long v6)]) rfl ?_
      exact hX M666 hw
    · replace hw := hw.2 c669
      refine h.iconst (pc := 672) (v := 0) dL_law_672 (by decide) ?_
      refine h.istore (pc := 673) [(9, .int 0), (1, .ref (gA G (0, 0, 0))), (2, .int v2), (3, .ref (gA G (27, 0, 0))), (6, .long v6), (8, .int v8)] dL_law_673 (by decide) rfl ?_
      refine h.sub (pc := 675) [1, 2, 3, 4, 5, 0] (lv' := [(1, .ref (gA G (0, 0, 0))), (2, .int v2), (3, .ref (gA G (27, 0, 0))), (6, .long v6), (8, .int v8), (9, .int 0)]) rfl ?_
      obtain ⟨n675, hw⟩ := hw
      exact l_L_lawB_L675 h hG hr nT sc v2 hn27 hk27 hsc hgL hk28 hk29 v6 v8 _ (fun M hw => by
          exact l_L_lawB_L716 h hG hr nT sc v2 hn27 hk27 hsc hgL hk28 hk29 v6 v8 ih hX M hw) n675 0 M666 hw
def wp_L_lawB_L722 (nT : Nat) (sc : Int32 → Int32) (v2 : Int32)  (Q : Int32 → Mem → Prop) (v6 : Int64) (M : Mem) : Prop := (wp_X4_digest M (fun r723 M723 => (((lg_cmp r723 v6) = 0 → Q 1 M723) ∧ (¬ ((lg_cmp r723 v6) = 0) → Q 0 M723))))
set_option maxHeartbeats 4000000 in
set_option maxRecDepth 100000 in
theorem l_L_lawB_L722 {l : Launch} {G : GG} {Z : ZT} (h : AX l G cL_law 17 RL wsL_law F_L_law L_L_law Z) (hG : GoodG G) {Q : Int32 → Mem → Prop} (hr : RETz cL_law Q Z) (nT : Nat) (sc : Int32 → Int32) (v2 : Int32) (hn27 : ∀ v, ctv G 27 0 0 v = .inl (gZ G, nT, .inl v)) (hk27 : (27, 0, 0) ∈ KS G) (hsc : sc = scv G) (hgL : gL G < 2 ^ 31) (hk28 : (28, 0, 0) ∈ KS G) (hk29 : (29, 0, 0) ∈ KS G) (v6 : Int64)  (M : Mem) (hw : wp_L_lawB_L722 nT sc v2 Q v6 M) : Z 722 [(1, .ref (gA G (0, 0, 0))), (6, .long v6)] [] M := by
  unfold wp_L_lawB_L722 at hw
  refine h.aload_n (pc := 722) dL_law_722 rfl 0 rfl ?_
  refine h.cVl (pc := 723) [] (0, 0, 0) [] (m_X4_digest hG  hw) gL_law_X4_digest rfl hd_X4_digest (by decide) (k_1 1 (by decide) (by decide)) rfl rfl rfl rfl rfl (Nat.le_of_ble_eq_true rfl) dL_law_723 (fun r723 M723 hw => ?_)
  refine h.lload (pc := 726) dL_law_726 1 rfl ?_
  refine h.lcmp (pc := 728) dL_law_728 ?_
  refine h.if_ne (pc := 729) 736 dL_law_729 (by decide) (fun c729 => ?_) (fun c729 => ?_)
  · replace hw := hw.2 c729
    refine h.iconst (pc := 736) (v := 0) dL_law_736 (by decide) ?_
    exact hr _ _ _ _ dL_law_737 zb_0 hw
  · replace hw := hw.1 c729
    refine h.iconst (pc := 732) (v := 1) dL_law_732 (by decide) ?_
    refine h.goto (pc := 733) 737 dL_law_733 (by decide) ?_
    exact hr _ _ _ _ dL_law_737 zb_1 hw
def wp_L_lawB_L653 (nT : Nat) (sc : Int32 → Int32) (v2 : Int32)  (Q : Int32 → Mem → Prop)  (M : Mem) : Prop := (wp_X4_digest M (fun r654 M654 => ∃ n662, wp_L_lawB_L662 nT sc v2 r654 (fun M => wp_L_lawB_L722 nT sc v2 Q r654 M) Q n662 0 M654))
set_option maxHeartbeats 4000000 in
set_option maxRecDepth 100000 in
theorem l_L_lawB_L653 {l : Launch} {G : GG} {Z : ZT} (h : AX l G cL_law 17 RL wsL_law F_L_law L_L_law Z) (hG : GoodG G) {Q : Int32 → Mem → Prop} (hr : RETz cL_law Q Z) (nT : Nat) (sc : Int32 → Int32) (v2 : Int32) (hn27 : ∀ v, ctv G 27 0 0 v = .inl (gZ G, nT, .inl v)) (hk27 : (27, 0, 0) ∈ KS G) (hsc : sc = scv G) (hgL : gL G < 2 ^ 31) (hk28 : (28, 0, 0) ∈ KS G) (hk29 : (29, 0, 0) ∈ KS G)   (M : Mem) (hw : wp_L_lawB_L653 nT sc v2 Q M) : Z 653 [(1, .ref (gA G (0, 0, 0))), (2, .int v2), (3, .ref (gA G (27, 0, 0)))] [] M := by
  unfold wp_L_lawB_L653 at hw
  refine h.aload_n (pc := 653) dL_law_653 rfl 0 rfl ?_
  refine h.cVl (pc := 654) [] (0, 0, 0) [] (m_X4_digest hG  hw) gL_law_X4_digest rfl hd_X4_digest (by decide) (k_1 1 (by decide) (by decide)) rfl rfl rfl rfl rfl (Nat.le_of_ble_eq_true rfl) dL_law_654 (fun r654 M654 hw => ?_)
  refine h.lstore (pc := 657) [(6, .long r654), (1, .ref (gA G (0, 0, 0))), (2, .int v2), (3, .ref (gA G (27, 0, 0)))] dL_law_657 (by decide) rfl ?_
  refine h.iconst (pc := 659) (v := 0) dL_law_659 (by decide) ?_
  refine h.istore (pc := 660) [(8, .int 0), (6, .long r654), (1, .ref (gA G (0, 0, 0))), (2, .int v2), (3, .ref (gA G (27, 0, 0)))] dL_law_660 (by decide) rfl ?_
  refine h.sub (pc := 662) [2, 3, 4, 1, 0] (lv' := [(1, .ref (gA G (0, 0, 0))), (2, .int v2), (3, .ref (gA G (27, 0, 0))), (6, .long r654), (8, .int 0)]) rfl ?_
  obtain ⟨n662, hw⟩ := hw
  exact l_L_lawB_L662 h hG hr nT sc v2 hn27 hk27 hsc hgL hk28 hk29 r654 _ (fun M hw => by
      exact l_L_lawB_L722 h hG hr nT sc v2 hn27 hk27 hsc hgL hk28 hk29 r654 M hw) n662 0 M654 hw
def wp_L_lawB (nT : Nat) (sc : Int32 → Int32) (v2 : Int32) (M : Mem) (Q : Int32 → Mem → Prop) : Prop := ∃ n106, wp_L_lawB_L106 nT sc v2 (fun M => wp_L_lawB_L653 nT sc v2 Q M) Q n106 0 M
set_option maxHeartbeats 4000000 in
set_option maxRecDepth 100000 in
theorem b_L_lawB {l : Launch} {G : GG} {Z : ZT} (h : AX l G cL_law 17 RL wsL_law F_L_law L_L_law Z) (hG : GoodG G) {Q : Int32 → Mem → Prop} (hr : RETz cL_law Q Z) (nT : Nat) (sc : Int32 → Int32) (v2 : Int32) (hn27 : ∀ v, ctv G 27 0 0 v = .inl (gZ G, nT, .inl v)) (hk27 : (27, 0, 0) ∈ KS G) (hsc : sc = scv G) (hgL : gL G < 2 ^ 31) (hk28 : (28, 0, 0) ∈ KS G) (hk29 : (29, 0, 0) ∈ KS G) (M : Mem) (hw : wp_L_lawB nT sc v2 M Q) : Z 103 [(0, .ref (gB G)), (1, .ref (gA G (0, 0, 0))), (2, .int v2), (3, .ref (gA G (27, 0, 0))), (4, .ref (gA G (28, 0, 0))), (5, .ref (gA G (29, 0, 0)))] [] M := by
  unfold wp_L_lawB at hw
  refine h.iconst (pc := 103) (v := 0) dL_law_103 (by decide) ?_
  refine h.istore (pc := 104) [(6, .int 0), (0, .ref (gB G)), (1, .ref (gA G (0, 0, 0))), (2, .int v2), (3, .ref (gA G (27, 0, 0))), (4, .ref (gA G (28, 0, 0))), (5, .ref (gA G (29, 0, 0)))] dL_law_104 (by decide) rfl ?_
  refine h.sub (pc := 106) [1, 2, 3, 4, 5, 6, 0] (lv' := [(0, .ref (gB G)), (1, .ref (gA G (0, 0, 0))), (2, .int v2), (3, .ref (gA G (27, 0, 0))), (4, .ref (gA G (28, 0, 0))), (5, .ref (gA G (29, 0, 0))), (6, .int 0)]) rfl ?_
  obtain ⟨n106, hw⟩ := hw
  exact l_L_lawB_L106 h hG hr nT sc v2 hn27 hk27 hsc hgL hk28 hk29 _ (fun M hw => by
      exact l_L_lawB_L653 h hG hr nT sc v2 hn27 hk27 hsc hgL hk28 hk29 M hw) n106 0 M hw
