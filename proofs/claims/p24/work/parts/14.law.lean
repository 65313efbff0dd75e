-- L_below
abbrev F_L_below : Nat := 0
abbrev L_L_below : Nat := 0
theorem hd_L_below : yL_below.cls ≠ "java/lang/invoke/MethodHandle" ∧ yL_below.cls ≠ "java/lang/invoke/VarHandle" ∧ (parseMethodDescriptor yL_below.desc).map (fun d => d.parameters.length) = some 2 := by decide +kernel
def wp_L_below (v0 : Int32) (v1 : Int32) (M : Mem) (Q : Int32 → Mem → Prop) : Prop := (¬ v1 = 0 ∧ Q ((v0 &&& 2147483647) - (v0 &&& 2147483647) / v1 * v1) M)
set_option maxHeartbeats 4000000 in
set_option maxRecDepth 100000 in
theorem m_L_below {l : Launch} {G : GG} (hG : GoodG G) {v0 : Int32} {v1 : Int32}  {M : Mem} {Q : Int32 → Mem → Prop}  (hw : wp_L_below v0 v1 M Q) : CTi l G yL_below wsL_below F_L_below L_L_below [.int v0, .int v1] M Q := by
  refine CTi_mk hG (by decide +kernel) rfl (Nat.le_of_ble_eq_true rfl) (fun Z (h : AX l G cL_below 2 RL wsL_below F_L_below L_L_below Z) hr => ?_)
  show Z 0 [(0, .int v0), (1, .int v1)] [] M
  unfold wp_L_below at hw
  refine h.iload_n (pc := 0) dL_below_0 rfl 0 rfl ?_
  refine h.ldc (pc := 1) (v := 2147483647) dL_below_1 (by decide +kernel) ?_
  refine h.iand (pc := 3) dL_below_3 ?_
  refine h.iload_n (pc := 4) dL_below_4 rfl 1 rfl ?_
  obtain ⟨hz5, hw⟩ := hw
  refine h.irem (pc := 5) dL_below_5 hz5 ?_
  exact hr _ _ _ _ dL_below_6 hw
-- L_isTogether
abbrev F_L_isTogether : Nat := 7
abbrev L_L_isTogether : Nat := 160
theorem hd_L_isTogether : yL_isTogether.cls ≠ "java/lang/invoke/MethodHandle" ∧ yL_isTogether.cls ≠ "java/lang/invoke/VarHandle" ∧ (parseMethodDescriptor yL_isTogether.desc).map (fun d => d.parameters.length) = some 6 := by decide +kernel
def wp_L_isTogether_L60 (v1 : Int32) (v2 : Int32) (v3 : Int32) (B : Int32 → Int32 → Int32 → Mem → Prop) (X : Int32 → Int32 → Int32 → Mem → Prop) (Q : Int32 → Mem → Prop) (v6 : Int32) (v7 : Int32) (t0 : Int32) (t1 : Int32) (M : Mem) : Prop := (wp_X4_ofRow (v7 + 1) 0 M (fun r72 M72 => B (v6 + r72) (v7 + 1) (t1 ||| t0) M72))
set_option maxHeartbeats 4000000 in
set_option maxRecDepth 100000 in
theorem l_L_isTogether_L60 {l : Launch} {G : GG} {Z : ZT} (h : AX l G cL_isTogether 10 RL wsL_isTogether F_L_isTogether L_L_isTogether Z) (hG : GoodG G) {Q : Int32 → Mem → Prop} (hr : RETz cL_isTogether Q Z) (v1 : Int32) (v2 : Int32) (v3 : Int32) (hk28 : (28, 0, 0) ∈ KS G) (hk29 : (29, 0, 0) ∈ KS G) (v6 : Int32) (v7 : Int32) (t0 : Int32) (t1 : Int32)  {B : Int32 → Int32 → Int32 → Mem → Prop} (hB : ∀ (v6 : Int32) (v7 : Int32) (v8 : Int32) (M : Mem), B v6 v7 v8 M → Z 29 [(0, .ref (gA G (0, 0, 0))), (1, .int v1), (2, .int v2), (3, .int v3), (4, .ref (gA G (28, 0, 0))), (5, .ref (gA G (29, 0, 0))), (6, .int v6), (7, .int v7), (8, .int v8)] [] M) {X : Int32 → Int32 → Int32 → Mem → Prop} (hX : ∀ (v6 : Int32) (v7 : Int32) (v8 : Int32) (M : Mem), X v6 v7 v8 M → Z 81 [(0, .ref (gA G (0, 0, 0))), (1, .int v1), (3, .int v3), (6, .int v6), (7, .int v7), (8, .int v8)] [] M) (M : Mem) (hw : wp_L_isTogether_L60 v1 v2 v3 B X Q v6 v7 t0 t1 M) : Z 60 [(0, .ref (gA G (0, 0, 0))), (1, .int v1), (2, .int v2), (3, .int v3), (4, .ref (gA G (28, 0, 0))), (5, .ref (gA G (29, 0, 0))), (6, .int v6), (7, .int v7)] [.int t0, .int t1] M := by
  unfold wp_L_isTogether_L60 at hw
  refine h.ior (pc := 60) dL_isTogether_60 ?_
  refine h.istore (pc := 61) [(8, .int (t1 ||| t0)), (0, .ref (gA G (0, 0, 0))), (1, .int v1), (2, .int v2), (3, .int v3), (4, .ref (gA G (28, 0, 0))), (5, .ref (gA G (29, 0, 0))), (6, .int v6), (7, .int v7)] dL_isTogether_61 (by decide) rfl ?_
  refine h.iinc (pc := 63) [(7, .int (v7 + 1)), (8, .int (t1 ||| t0)), (0, .ref (gA G (0, 0, 0))), (1, .int v1), (2, .int v2), (3, .int v3), (4, .ref (gA G (28, 0, 0))), (5, .ref (gA G (29, 0, 0))), (6, .int v6)] dL_isTogether_63 8 rfl (inc_ (by decide)) (by decide) rfl ?_
  refine h.iload (pc := 66) dL_isTogether_66 8 rfl ?_
  refine h.aload_n (pc := 68) dL_isTogether_68 rfl 2 rfl ?_
  refine h.iload (pc := 69) dL_isTogether_69 0 rfl ?_
  refine h.iconst (pc := 71) (v := 0) dL_isTogether_71 (by decide) ?_
  refine h.cVi (pc := 72) [.int (v7 + 1), .int 0] (0, 0, 0) [.int v6] (m_X4_ofRow hG  hw) gL_isTogether_X4_ofRow rfl hd_X4_ofRow (by decide) (k_1 1 (by decide) (by decide)) rfl rfl rfl rfl rfl (Nat.le_of_ble_eq_true rfl) dL_isTogether_72 (fun r72 M72 hw => ?_)
  refine h.iadd (pc := 75) dL_isTogether_75 ?_
  refine h.istore (pc := 76) [(6, .int (v6 + r72)), (7, .int (v7 + 1)), (8, .int (t1 ||| t0)), (0, .ref (gA G (0, 0, 0))), (1, .int v1), (2, .int v2), (3, .int v3), (4, .ref (gA G (28, 0, 0))), (5, .ref (gA G (29, 0, 0)))] dL_isTogether_76 (by decide) rfl ?_
  refine h.goto (pc := 78) 29 dL_isTogether_78 (by decide) ?_
  refine h.sub (pc := 29) [3, 4, 5, 6, 7, 8, 0, 1, 2] (lv' := [(0, .ref (gA G (0, 0, 0))), (1, .int v1), (2, .int v2), (3, .int v3), (4, .ref (gA G (28, 0, 0))), (5, .ref (gA G (29, 0, 0))), (6, .int (v6 + r72)), (7, .int (v7 + 1)), (8, .int (t1 ||| t0))]) rfl ?_
  exact hB (v6 + r72) (v7 + 1) (t1 ||| t0) M72 hw
def wp_L_isTogether_L29 (v1 : Int32) (v2 : Int32) (v3 : Int32)  (X : Int32 → Int32 → Int32 → Mem → Prop) (Q : Int32 → Mem → Prop) : Nat → Int32 → Int32 → Int32 → Mem → Prop
  | 0, _, _, _, _ => False
  | n + 1, v6, v7, v8, M => ((v2 ≤ (v7 + 1) → X v6 v7 v8 M) ∧ (¬ (v2 ≤ (v7 + 1)) → (vp_in v7 30 ∧ (((M 29 0 0 v7.toNatClampNeg) = 0 → X v6 v7 v8 M) ∧ (¬ ((M 29 0 0 v7.toNatClampNeg) = 0) → (vp_in v7 30 ∧ (((M 28 0 0 v7.toNatClampNeg) ≤ 0 → wp_L_isTogether_L60 v1 v2 v3 (wp_L_isTogether_L29 v1 v2 v3 X Q n) X Q v6 v7 0 v8 M) ∧ (¬ ((M 28 0 0 v7.toNatClampNeg) ≤ 0) → wp_L_isTogether_L60 v1 v2 v3 (wp_L_isTogether_L29 v1 v2 v3 X Q n) X Q v6 v7 1 v8 M))))))))
set_option maxHeartbeats 4000000 in
set_option maxRecDepth 100000 in
theorem l_L_isTogether_L29 {l : Launch} {G : GG} {Z : ZT} (h : AX l G cL_isTogether 10 RL wsL_isTogether F_L_isTogether L_L_isTogether Z) (hG : GoodG G) {Q : Int32 → Mem → Prop} (hr : RETz cL_isTogether Q Z) (v1 : Int32) (v2 : Int32) (v3 : Int32) (hk28 : (28, 0, 0) ∈ KS G) (hk29 : (29, 0, 0) ∈ KS G)   (X : Int32 → Int32 → Int32 → Mem → Prop) (hX : ∀ (v6 : Int32) (v7 : Int32) (v8 : Int32) (M : Mem), X v6 v7 v8 M → Z 81 [(0, .ref (gA G (0, 0, 0))), (1, .int v1), (3, .int v3), (6, .int v6), (7, .int v7), (8, .int v8)] [] M) : ∀ (n : Nat) (v6 : Int32) (v7 : Int32) (v8 : Int32) (M : Mem), wp_L_isTogether_L29 v1 v2 v3 X Q n v6 v7 v8 M → Z 29 [(0, .ref (gA G (0, 0, 0))), (1, .int v1), (2, .int v2), (3, .int v3), (4, .ref (gA G (28, 0, 0))), (5, .ref (gA G (29, 0, 0))), (6, .int v6), (7, .int v7), (8, .int v8)] [] M := by
  intro n
  induction n with
  | zero => intro v6 v7 v8 M hw; exact hw.elim
  | succ n ih =>
    intro v6 v7 v8 M hw
    unfold wp_L_isTogether_L29 at hw
    refine h.iload (pc := 29) dL_isTogether_29 7 rfl ?_
    refine h.iconst (pc := 31) (v := 1) dL_isTogether_31 (by decide) ?_
    refine h.iadd (pc := 32) dL_isTogether_32 ?_
    refine h.iload_n (pc := 33) dL_isTogether_33 rfl 2 rfl ?_
    refine h.icmp_ge (pc := 34) 81 dL_isTogether_34 (by decide) (fun c34 => ?_) (fun c34 => ?_)
    · replace hw := hw.1 c34
      refine h.sub (pc := 81) [0, 1, 3, 6, 7, 8] (lv' := [(0, .ref (gA G (0, 0, 0))), (1, .int v1), (3, .int v3), (6, .int v6), (7, .int v7), (8, .int v8)]) rfl ?_
      exact hX v6 v7 v8 M hw
    · replace hw := hw.2 c34
      refine h.aload (pc := 37) dL_isTogether_37 5 rfl ?_
      refine h.iload (pc := 39) dL_isTogether_39 7 rfl ?_
      obtain ⟨hj41, hw⟩ := hw
      refine h.zald (pc := 41) (f := 29) (o := 0) (i := 0) (n := 30) hk29 (fun _ => rfl) hj41 dL_isTogether_41 ?_
      refine h.if_eq (pc := 42) 81 dL_isTogether_42 (by decide) (fun c42 => ?_) (fun c42 => ?_)
      · replace hw := hw.1 c42
        refine h.sub (pc := 81) [0, 1, 3, 6, 7, 8] (lv' := [(0, .ref (gA G (0, 0, 0))), (1, .int v1), (3, .int v3), (6, .int v6), (7, .int v7), (8, .int v8)]) rfl ?_
        exact hX v6 v7 v8 M hw
      · replace hw := hw.2 c42
        refine h.iload (pc := 45) dL_isTogether_45 8 rfl ?_
        refine h.aload (pc := 47) dL_isTogether_47 4 rfl ?_
        refine h.iload (pc := 49) dL_isTogether_49 7 rfl ?_
        obtain ⟨hj51, hw⟩ := hw
        refine h.iald (pc := 51) (f := 28) (o := 0) (i := 0) (n := 30) hk28 (fun _ => rfl) hj51 dL_isTogether_51 ?_
        refine h.if_le (pc := 52) 59 dL_isTogether_52 (by decide) (fun c52 => ?_) (fun c52 => ?_)
        · replace hw := hw.1 c52
          refine h.iconst (pc := 59) (v := 0) dL_isTogether_59 (by decide) ?_
          refine h.sub (pc := 60) [0, 1, 2, 3, 4, 5, 6, 7] (lv' := [(0, .ref (gA G (0, 0, 0))), (1, .int v1), (2, .int v2), (3, .int v3), (4, .ref (gA G (28, 0, 0))), (5, .ref (gA G (29, 0, 0))), (6, .int v6), (7, .int v7)]) rfl ?_
          exact l_L_isTogether_L60 h hG hr v1 v2 v3 hk28 hk29 v6 v7 0 v8 ih hX M hw
        · replace hw := hw.2 c52
          refine h.iconst (pc := 55) (v := 1) dL_isTogether_55 (by decide) ?_
          refine h.goto (pc := 56) 60 dL_isTogether_56 (by decide) ?_
          refine h.sub (pc := 60) [0, 1, 2, 3, 4, 5, 6, 7] (lv' := [(0, .ref (gA G (0, 0, 0))), (1, .int v1), (2, .int v2), (3, .int v3), (4, .ref (gA G (28, 0, 0))), (5, .ref (gA G (29, 0, 0))), (6, .int v6), (7, .int v7)]) rfl ?_
          exact l_L_isTogether_L60 h hG hr v1 v2 v3 hk28 hk29 v6 v7 1 v8 ih hX M hw
def wp_L_isTogether_L81 (v1 : Int32) (v2 : Int32) (v3 : Int32)  (Q : Int32 → Mem → Prop) (v6 : Int32) (v7 : Int32) (v8 : Int32) (M : Mem) : Prop := (wp_X4_ofRow v1 1 M (fun r84 M84 => (wp_X4_ofRow v7 1 M84 (fun r93 M93 => ((r93 = r84 → Q 1 M93) ∧ (¬ (r93 = r84) → ((v3 < v6 → Q 1 M93) ∧ (¬ (v3 < v6) → ((v8 = 0 → (wp_X4_ofPage r84 0 M93 (fun r116 M116 => ((r116 = v1 → Q 1 M116) ∧ (¬ (r116 = v1) → Q 0 M116))))) ∧ (¬ (v8 = 0) → Q 1 M93))))))))))
set_option maxHeartbeats 4000000 in
set_option maxRecDepth 100000 in
theorem l_L_isTogether_L81 {l : Launch} {G : GG} {Z : ZT} (h : AX l G cL_isTogether 10 RL wsL_isTogether F_L_isTogether L_L_isTogether Z) (hG : GoodG G) {Q : Int32 → Mem → Prop} (hr : RETz cL_isTogether Q Z) (v1 : Int32) (v2 : Int32) (v3 : Int32) (hk28 : (28, 0, 0) ∈ KS G) (hk29 : (29, 0, 0) ∈ KS G) (v6 : Int32) (v7 : Int32) (v8 : Int32)  (M : Mem) (hw : wp_L_isTogether_L81 v1 v2 v3 Q v6 v7 v8 M) : Z 81 [(0, .ref (gA G (0, 0, 0))), (1, .int v1), (3, .int v3), (6, .int v6), (7, .int v7), (8, .int v8)] [] M := by
  unfold wp_L_isTogether_L81 at hw
  refine h.aload_n (pc := 81) dL_isTogether_81 rfl 0 rfl ?_
  refine h.iload_n (pc := 82) dL_isTogether_82 rfl 1 rfl ?_
  refine h.iconst (pc := 83) (v := 1) dL_isTogether_83 (by decide) ?_
  refine h.cVi (pc := 84) [.int v1, .int 1] (0, 0, 0) [] (m_X4_ofRow hG  hw) gL_isTogether_X4_ofRow rfl hd_X4_ofRow (by decide) (k_1 1 (by decide) (by decide)) rfl rfl rfl rfl rfl (Nat.le_of_ble_eq_true rfl) dL_isTogether_84 (fun r84 M84 hw => ?_)
  refine h.istore (pc := 87) [(9, .int r84), (0, .ref (gA G (0, 0, 0))), (1, .int v1), (3, .int v3), (6, .int v6), (7, .int v7), (8, .int v8)] dL_isTogether_87 (by decide) rfl ?_
  refine h.aload_n (pc := 89) dL_isTogether_89 rfl 1 rfl ?_
  refine h.iload (pc := 90) dL_isTogether_90 5 rfl ?_
  refine h.iconst (pc := 92) (v := 1) dL_isTogether_92 (by decide) ?_
  refine h.cVi (pc := 93) [.int v7, .int 1] (0, 0, 0) [] (m_X4_ofRow hG  hw) gL_isTogether_X4_ofRow rfl hd_X4_ofRow (by decide) (k_1 1 (by decide) (by decide)) rfl rfl rfl rfl rfl (Nat.le_of_ble_eq_true rfl) dL_isTogether_93 (fun r93 M93 hw => ?_)
  refine h.iload (pc := 96) dL_isTogether_96 0 rfl ?_
  refine h.icmp_eq (pc := 98) 123 dL_isTogether_98 (by decide) (fun c98 => ?_) (fun c98 => ?_)
  · replace hw := hw.1 c98
    refine h.iconst (pc := 123) (v := 1) dL_isTogether_123 (by decide) ?_
    refine h.goto (pc := 124) 128 dL_isTogether_124 (by decide) ?_
    exact hr _ _ _ _ dL_isTogether_128 zb_1 hw
  · replace hw := hw.2 c98
    refine h.iload (pc := 101) dL_isTogether_101 4 rfl ?_
    refine h.iload_n (pc := 103) dL_isTogether_103 rfl 3 rfl ?_
    refine h.icmp_gt (pc := 104) 123 dL_isTogether_104 (by decide) (fun c104 => ?_) (fun c104 => ?_)
    · replace hw := hw.1 c104
      refine h.iconst (pc := 123) (v := 1) dL_isTogether_123 (by decide) ?_
      refine h.goto (pc := 124) 128 dL_isTogether_124 (by decide) ?_
      exact hr _ _ _ _ dL_isTogether_128 zb_1 hw
    · replace hw := hw.2 c104
      refine h.iload (pc := 107) dL_isTogether_107 6 rfl ?_
      refine h.if_ne (pc := 109) 123 dL_isTogether_109 (by decide) (fun c109 => ?_) (fun c109 => ?_)
      · replace hw := hw.2 c109
        refine h.iconst (pc := 123) (v := 1) dL_isTogether_123 (by decide) ?_
        refine h.goto (pc := 124) 128 dL_isTogether_124 (by decide) ?_
        exact hr _ _ _ _ dL_isTogether_128 zb_1 hw
      · replace hw := hw.1 c109
        refine h.aload_n (pc := 112) dL_isTogether_112 rfl 1 rfl ?_
        refine h.iload (pc := 113) dL_isTogether_113 0 rfl ?_
        refine h.iconst (pc := 115) (v := 0) dL_isTogether_115 (by decide) ?_
        refine h.cVi (pc := 116) [.int r84, .int 0] (0, 0, 0) [] (m_X4_ofPage hG  hw) gL_isTogether_X4_ofPage rfl hd_X4_ofPage (by decide) (k_1 1 (by decide) (by decide)) rfl rfl rfl rfl rfl (Nat.le_of_ble_eq_true rfl) dL_isTogether_116 (fun r116 M116 hw => ?_)
        refine h.iload_n (pc := 119) dL_isTogether_119 rfl 2 rfl ?_
        refine h.icmp_ne (pc := 120) 127 dL_isTogether_120 (by decide) (fun c120 => ?_) (fun c120 => ?_)
        · replace hw := hw.2 c120
          refine h.iconst (pc := 127) (v := 0) dL_isTogether_127 (by decide) ?_
          exact hr _ _ _ _ dL_isTogether_128 zb_0 hw
        · replace hw := hw.1 c120
          refine h.iconst (pc := 123) (v := 1) dL_isTogether_123 (by decide) ?_
          refine h.goto (pc := 124) 128 dL_isTogether_124 (by decide) ?_
          exact hr _ _ _ _ dL_isTogether_128 zb_1 hw
def wp_L_isTogether_L15 (v1 : Int32) (v2 : Int32) (v3 : Int32)  (Q : Int32 → Mem → Prop)  (M : Mem) : Prop := (wp_X4_ofRow v1 0 M (fun r18 M18 => ∃ n29, wp_L_isTogether_L29 v1 v2 v3 (fun v6 v7 v8 M => wp_L_isTogether_L81 v1 v2 v3 Q v6 v7 v8 M) Q n29 r18 v1 0 M18))
set_option maxHeartbeats 4000000 in
set_option maxRecDepth 100000 in
theorem l_L_isTogether_L15 {l : Launch} {G : GG} {Z : ZT} (h : AX l G cL_isTogether 10 RL wsL_isTogether F_L_isTogether L_L_isTogether Z) (hG : GoodG G) {Q : Int32 → Mem → Prop} (hr : RETz cL_isTogether Q Z) (v1 : Int32) (v2 : Int32) (v3 : Int32) (hk28 : (28, 0, 0) ∈ KS G) (hk29 : (29, 0, 0) ∈ KS G)   (M : Mem) (hw : wp_L_isTogether_L15 v1 v2 v3 Q M) : Z 15 [(0, .ref (gA G (0, 0, 0))), (1, .int v1), (2, .int v2), (3, .int v3), (4, .ref (gA G (28, 0, 0))), (5, .ref (gA G (29, 0, 0)))] [] M := by
  unfold wp_L_isTogether_L15 at hw
  refine h.aload_n (pc := 15) dL_isTogether_15 rfl 0 rfl ?_
  refine h.iload_n (pc := 16) dL_isTogether_16 rfl 1 rfl ?_
  refine h.iconst (pc := 17) (v := 0) dL_isTogether_17 (by decide) ?_
  refine h.cVi (pc := 18) [.int v1, .int 0] (0, 0, 0) [] (m_X4_ofRow hG  hw) gL_isTogether_X4_ofRow rfl hd_X4_ofRow (by decide) (k_1 1 (by decide) (by decide)) rfl rfl rfl rfl rfl (Nat.le_of_ble_eq_true rfl) dL_isTogether_18 (fun r18 M18 hw => ?_)
  refine h.istore (pc := 21) [(6, .int r18), (0, .ref (gA G (0, 0, 0))), (1, .int v1), (2, .int v2), (3, .int v3), (4, .ref (gA G (28, 0, 0))), (5, .ref (gA G (29, 0, 0)))] dL_isTogether_21 (by decide) rfl ?_
  refine h.iload_n (pc := 23) dL_isTogether_23 rfl 2 rfl ?_
  refine h.istore (pc := 24) [(7, .int v1), (6, .int r18), (0, .ref (gA G (0, 0, 0))), (1, .int v1), (2, .int v2), (3, .int v3), (4, .ref (gA G (28, 0, 0))), (5, .ref (gA G (29, 0, 0)))] dL_isTogether_24 (by decide) rfl ?_
  refine h.iconst (pc := 26) (v := 0) dL_isTogether_26 (by decide) ?_
  refine h.istore (pc := 27) [(8, .int 0), (7, .int v1), (6, .int r18), (0, .ref (gA G (0, 0, 0))), (1, .int v1), (2, .int v2), (3, .int v3), (4, .ref (gA G (28, 0, 0))), (5, .ref (gA G (29, 0, 0)))] dL_isTogether_27 (by decide) rfl ?_
  refine h.sub (pc := 29) [3, 4, 5, 6, 7, 8, 2, 1, 0] (lv' := [(0, .ref (gA G (0, 0, 0))), (1, .int v1), (2, .int v2), (3, .int v3), (4, .ref (gA G (28, 0, 0))), (5, .ref (gA G (29, 0, 0))), (6, .int r18), (7, .int v1), (8, .int 0)]) rfl ?_
  obtain ⟨n29, hw⟩ := hw
  exact l_L_isTogether_L29 h hG hr v1 v2 v3 hk28 hk29 _ (fun v6 v7 v8 M hw => by
      exact l_L_isTogether_L81 h hG hr v1 v2 v3 hk28 hk29 v6 v7 v8 M hw) n29 r18 v1 0 M18 hw
def wp_L_isTogether (v1 : Int32) (v2 : Int32) (v3 : Int32) (M : Mem) (Q : Int32 → Mem → Prop) : Prop := ((v1 ≤ 0 → wp_L_isTogether_L15 v1 v2 v3 Q M) ∧ (¬ (v1 ≤ 0) → (vp_in (v1 - 1) 30 ∧ (((M 29 0 0 (v1 - 1).toNatClampNeg) = 0 → wp_L_isTogether_L15 v1 v2 v3 Q M) ∧ (¬ ((M 29 0 0 (v1 - 1).toNatClampNeg) = 0) → Q 1 M)))))
set_option maxHeartbeats 4000000 in
set_option maxRecDepth 100000 in
theorem m_L_isTogether {l : Launch} {G : GG} (hG : GoodG G) {v1 : Int32} {v2 : Int32} {v3 : Int32}  {M : Mem} {Q : Int32 → Mem → Prop} (hk28 : (28, 0, 0) ∈ KS G) (hk29 : (29, 0, 0) ∈ KS G) (hw : wp_L_isTogether v1 v2 v3 M Q) : CTi l G yL_isTogether wsL_isTogether F_L_isTogether L_L_isTogether [.ref (gA G (0, 0, 0)), .int v1, .int v2, .int v3, .ref (gA G (28, 0, 0)), .ref (gA G (29, 0, 0))] M Q := by
  refine CTz_mk hG (by decide +kernel) rfl (Nat.le_of_ble_eq_true rfl) (fun Z (h : AX l G cL_isTogether 10 RL wsL_isTogether F_L_isTogether L_L_isTogether Z) hr => ?_)
  show Z 0 [(0, .ref (gA G (0, 0, 0))), (1, .int v1), (2, .int v2), (3, .int v3), (4, .ref (gA G (28, 0, 0))), (5, .ref (gA G (29, 0, 0)))] [] M
  unfold wp_L_isTogether at hw
  refine h.iload_n (pc := 0) dL_isTogether_0 rfl 1 rfl ?_
  refine h.if_le (pc := 1) 15 dL_isTogether_1 (by decide) (fun c1 => ?_) (fun c1 => ?_)
  · replace hw := hw.1 c1
    exact l_L_isTogether_L15 h hG hr v1 v2 v3 hk28 hk29 M hw
  · replace hw := hw.2 c1
    refine h.aload (pc := 4) dL_isTogether_4 5 rfl ?_
    refine h.iload_n (pc := 6) dL_isTogether_6 rfl 1 rfl ?_
    refine h.iconst (pc := 7) (v := 1) dL_isTogether_7 (by decide) ?_
    refine h.isub (pc := 8) dL_isTogether_8 ?_
    obtain ⟨hj9, hw⟩ := hw
    refine h.zald (pc := 9) (f := 29) (o := 0) (i := 0) (n := 30) hk29 (fun _ => rfl) hj9 dL_isTogether_9 ?_
    refine h.if_eq (pc := 10) 15 dL_isTogether_10 (by decide) (fun c10 => ?_) (fun c10 => ?_)
    · replace hw := hw.1 c10
      exact l_L_isTogether_L15 h hG hr v1 v2 v3 hk28 hk29 M hw
    · replace hw := hw.2 c10
      refine h.iconst (pc := 13) (v := 1) dL_isTogether_13 (by decide) ?_
      exact hr _ _ _ _ dL_isTogether_14 zb_1 hw
-- L_isLaid
theorem kML_isLaid_1_max_90 : Cond.methodLink RL 90 Lib.Math.max.name ∈ wsL_isLaid := by decide +kernel
theorem kML_isLaid_2_max : Cond.static Lib.Math.max.name ∈ wsL_isLaid := by decide +kernel
theorem kML_isLaid_3 : Cond.initialized "java/lang/Math" ∈ wsL_isLaid := by decide +kernel
theorem kML_isLaid_4_max : Cond.code Lib.Math.max.name Lib.Math.max.code 2 (some .int) ∈ wsL_isLaid := by decide +kernel
abbrev F_L_isLaid : Nat := 8
abbrev L_L_isLaid : Nat := 189
theorem hd_L_isLaid : yL_isLaid.cls ≠ "java/lang/invoke/MethodHandle" ∧ yL_isLaid.cls ≠ "java/lang/invoke/VarHandle" ∧ (parseMethodDescriptor yL_isLaid.desc).map (fun d => d.parameters.length) = some 5 := by decide +kernel
def wp_L_isLaid_L30 (v1 : Int32) (v2 : Int32) (v5 : Int32) (v6 : Int32) (v7 : Int32) (X : Int32 → Mem → Prop) (Q : Int32 → Mem → Prop) : Nat → Int32 → Int32 → Mem → Prop
  | 0, _, _, _ => False
  | n + 1, v8, v9, M => ((v5 ≤ v9 → X v8 M) ∧ (¬ (v5 ≤ v9) → (wp_X4_ofColumn v9 3 M (fun r41 M41 => (wp_X4_ofColumn v9 1 M41 (fun r52 M52 => ((r41 < r52 → Q 0 M52) ∧ (¬ (r41 < r52) → (wp_X4_ofColumn v9 2 M52 (fun r64 M64 => ((r41 ≤ r64 → (wp_L_isLaid_L30 v1 v2 v5 v6 v7 X Q n) (v8 + r41) (v9 + 1) M64) ∧ (¬ (r41 ≤ r64) → Q 0 M64))))))))))))
set_option maxHeartbeats 4000000 in
set_option maxRecDepth 100000 in
theorem l_L_isLaid_L30 {l : Launch} {G : GG} {Z : ZT} (h : AX l G cL_isLaid 17 RL wsL_isLaid F_L_isLaid L_L_isLaid Z) (hG : GoodG G) {Q : Int32 → Mem → Prop} (hr : RETz cL_isLaid Q Z) (v1 : Int32) (v2 : Int32) (hk28 : (28, 0, 0) ∈ KS G) (hk29 : (29, 0, 0) ∈ KS G) (v5 : Int32) (v6 : Int32) (v7 : Int32)  (X : Int32 → Mem → Prop) (hX : ∀ (v8 : Int32) (M : Mem), X v8 M → Z 85 [(0, .ref (gA G (0, 0, 0))), (1, .int v1), (2, .int v2), (3, .ref (gA G (28, 0, 0))), (4, .ref (gA G (29, 0, 0))), (5, .int v5), (6, .int v6), (7, .int v7), (8, .int v8)] [] M) : ∀ (n : Nat) (v8 : Int32) (v9 : Int32) (M : Mem), wp_L_isLaid_L30 v1 v2 v5 v6 v7 X Q n v8 v9 M → Z 30 [(0, .ref (gA G (0, 0, 0))), (1, .int v1), (2, .int v2), (3, .ref (gA G (28, 0, 0))), (4, .ref (gA G (29, 0, 0))), (5, .int v5), (6, .int v6), (7, .int v7), (8, .int v8), (9, .int v9)] [] M := by
  intro n
  induction n with
  | zero => intro v8 v9 M hw; exact hw.elim
  | succ n ih =>
    intro v8 v9 M hw
    unfold wp_L_isLaid_L30 at hw
    refine h.iload (pc := 30) dL_isLaid_30 9 rfl ?_
    refine h.iload (pc := 32) dL_isLaid_32 5 rfl ?_
    refine h.icmp_ge (pc := 34) 85 dL_isLaid_34 (by decide) (fun c34 => ?_) (fun c34 => ?_)
    · replace hw := hw.1 c34
      refine h.sub (pc := 85) [0, 1, 2, 3, 4, 5, 6, 7, 8] (lv' := [(0, .ref (gA G (0, 0, 0))), (1, .int v1), (2, .int v2), (3, .ref (gA G (28, 0, 0))), (4, .ref (gA G (29, 0, 0))), (5, .int v5), (6, .int v6), (7, .int v7), (8, .int v8)]) rfl ?_
      exact hX v8 M hw
    · replace hw := hw.2 c34
      refine h.aload_n (pc := 37) dL_isLaid_37 rfl 0 rfl ?_
      refine h.iload (pc := 38) dL_isLaid_38 9 rfl ?_
      refine h.iconst (pc := 40) (v := 3) dL_isLaid_40 (by decide) ?_
      refine h.cVi (pc := 41) [.int v9, .int 3] (0, 0, 0) [] (m_X4_ofColumn hG  hw) gL_isLaid_X4_ofColumn rfl hd_X4_ofColumn (by decide) (k_1 1 (by decide) (by decide)) rfl rfl rfl rfl rfl (Nat.le_of_ble_eq_true rfl) dL_isLaid_41 (fun r41 M41 hw => ?_)
      refine h.istore (pc := 44) [(10, .int r41), (0, .ref (gA G (0, 0, 0))), (1, .int v1), (2, .int v2), (3, .ref (gA G (28, 0, 0))), (4, .ref (gA G (29, 0, 0))), (5, .int v5), (6, .int v6), (7, .int v7), (8, .int v8), (9, .int v9)] dL_isLaid_44 (by decide) rfl ?_
      refine h.iload (pc := 46) dL_isLaid_46 0 rfl ?_
      refine h.aload_n (pc := 48) dL_isLaid_48 rfl 1 rfl ?_
      refine h.iload (pc := 49) dL_isLaid_49 10 rfl ?_
      refine h.iconst (pc := 51) (v := 1) dL_isLaid_51 (by decide) ?_
      refine h.cVi (pc := 52) [.int v9, .int 1] (0, 0, 0) [.int r41] (m_X4_ofColumn hG  hw) gL_isLaid_X4_ofColumn rfl hd_X4_ofColumn (by decide) (k_1 1 (by decide) (by decide)) rfl rfl rfl rfl rfl (Nat.le_of_ble_eq_true rfl) dL_isLaid_52 (fun r52 M52 hw => ?_)
      refine h.icmp_lt (pc := 55) 70 dL_isLaid_55 (by decide) (fun c55 => ?_) (fun c55 => ?_)
      · replace hw := hw.1 c55
        refine h.iconst (pc := 70) (v := 0) dL_isLaid_70 (by decide) ?_
        exact hr _ _ _ _ dL_isLaid_71 zb_0 hw
      · replace hw := hw.2 c55
        refine h.iload (pc := 58) dL_isLaid_58 0 rfl ?_
        refine h.aload_n (pc := 60) dL_isLaid_60 rfl 1 rfl ?_
        refine h.iload (pc := 61) dL_isLaid_61 10 rfl ?_
        refine h.iconst (pc := 63) (v := 2) dL_isLaid_63 (by decide) ?_
        refine h.cVi (pc := 64) [.int v9, .int 2] (0, 0, 0) [.int r41] (m_X4_ofColumn hG  hw) gL_isLaid_X4_ofColumn rfl hd_X4_ofColumn (by decide) (k_1 1 (by decide) (by decide)) rfl rfl rfl rfl rfl (Nat.le_of_ble_eq_true rfl) dL_isLaid_64 (fun r64 M64 hw => ?_)
        refine h.icmp_le (pc := 67) 72 dL_isLaid_67 (by decide) (fun c67 => ?_) (fun c67 => ?_)
        · replace hw := hw.1 c67
          refine h.iload (pc := 72) dL_isLaid_72 9 rfl ?_
          refine h.iload (pc := 74) dL_isLaid_74 0 rfl ?_
          refine h.iadd (pc := 76) dL_isLaid_76 ?_
          refine h.istore (pc := 77) [(8, .int (v8 + r41)), (10, .int r41), (0, .ref (gA G (0, 0, 0))), (1, .int v1), (2, .int v2), (3, .ref (gA G (28, 0, 0))), (4, .ref (gA G (29, 0, 0))), (5, .int v5), (6, .int v6), (7, .int v7), (9, .int v9)] dL_isLaid_77 (by decide) rfl ?_
          refine h.iinc (pc := 79) [(9, .int (v9 + 1)), (8, .int (v8 + r41)), (10, .int r41), (0, .ref (gA G (0, 0, 0))), (1, .int v1), (2, .int v2), (3, .ref (gA G (28, 0, 0))), (4, .ref (gA G (29, 0, 0))), (5, .int v5), (6, .int v6), (7, .int v7)] dL_isLaid_79 10 rfl (inc_ (by decide)) (by decide) rfl ?_
          refine h.goto (pc := 82) 30 dL_isLaid_82 (by decide) ?_
          refine h.sub (pc := 30) [3, 4, 5, 6, 7, 8, 9, 10, 1, 0] (lv' := [(0, .ref (gA G (0, 0, 0))), (1, .int v1), (2, .int v2), (3, .ref (gA G (28, 0, 0))), (4, .ref (gA G (29, 0, 0))), (5, .int v5), (6, .int v6), (7, .int v7), (8, .int (v8 + r41)), (9, .int (v9 + 1))]) rfl ?_
          exact ih (v8 + r41) (v9 + 1) M64 hw
        · replace hw := hw.2 c67
          refine h.iconst (pc := 70) (v := 0) dL_isLaid_70 (by decide) ?_
          exact hr _ _ _ _ dL_isLaid_71 zb_0 hw
def wp_L_isLaid_L181 (v1 : Int32) (v2 : Int32) (v5 : Int32) (v6 : Int32) (v7 : Int32) (v9 : Int32) (v11 : Int32) (v12 : Int32) (v13 : Int32) (X : Int32 → Int32 → Mem → Prop) (Q : Int32 → Mem → Prop) : Nat → Int32 → Int32 → Int32 → Mem → Prop
  | 0, _, _, _, _ => False
  | n + 1, v10, v14, v15, M => (((v9 + v13) ≤ v15 → X v10 v14 M) ∧ (¬ ((v9 + v13) ≤ v15) → (wp_X4_ofRow v15 1 M (fun r195 M195 => ((r195 = v12 → (wp_X4_ofRow v15 0 M195 (fun r207 M207 => ((1 ≤ r207 → (wp_X4_ofRow v15 0 M207 (fun r222 M222 => (wp_X4_ofRow v15 0 M222 (fun r234 M234 => (wp_L_isLaid_L181 v1 v2 v5 v6 v7 v9 v11 v12 v13 X Q n) (v10 + r234) (v14 + r222) (v15 + 1) M234))))) ∧ (¬ (1 ≤ r207) → Q 0 M207))))) ∧ (¬ (r195 = v12) → Q 0 M195))))))
set_option maxHeartbeats 4000000 in
set_option maxRecDepth 100000 in
theorem l_L_isLaid_L181 {l : Launch} {G : GG} {Z : ZT} (h : AX l G cL_isLaid 17 RL wsL_isLaid F_L_isLaid L_L_isLaid Z) (hG : GoodG G) {Q : Int32 → Mem → Prop} (hr : RETz cL_isLaid Q Z) (v1 : Int32) (v2 : Int32) (hk28 : (28, 0, 0) ∈ KS G) (hk29 : (29, 0, 0) ∈ KS G) (v5 : Int32) (v6 : Int32) (v7 : Int32) (v9 : Int32) (v11 : Int32) (v12 : Int32) (v13 : Int32)  (X : Int32 → Int32 → Mem → Prop) (hX : ∀ (v10 : Int32) (v14 : Int32) (M : Mem), X v10 v14 M → Z 246 [(0, .ref (gA G (0, 0, 0))), (2, .int v2), (3, .ref (gA G (28, 0, 0))), (4, .ref (gA G (29, 0, 0))), (5, .int v5), (6, .int v6), (7, .int v7), (9, .int v9), (10, .int v10), (11, .int v11), (12, .int v12), (13, .int v13), (14, .int v14)] [] M) : ∀ (n : Nat) (v10 : Int32) (v14 : Int32) (v15 : Int32) (M : Mem), wp_L_isLaid_L181 v1 v2 v5 v6 v7 v9 v11 v12 v13 X Q n v10 v14 v15 M → Z 181 [(0, .ref (gA G (0, 0, 0))), (2, .int v2), (3, .ref (gA G (28, 0, 0))), (4, .ref (gA G (29, 0, 0))), (5, .int v5), (6, .int v6), (7, .int v7), (9, .int v9), (10, .int v10), (11, .int v11), (12, .int v12), (13, .int v13), (14, .int v14), (15, .int v15)] [] M := by
  intro n
  induction n with
  | zero => intro v10 v14 v15 M hw; exact hw.elim
  | succ n ih =>
    intro v10 v14 v15 M hw
    unfold wp_L_isLaid_L181 at hw
    refine h.iload (pc := 181) dL_isLaid_181 13 rfl ?_
    refine h.iload (pc := 183) dL_isLaid_183 7 rfl ?_
    refine h.iload (pc := 185) dL_isLaid_185 11 rfl ?_
    refine h.iadd (pc := 187) dL_isLaid_187 ?_
    refine h.icmp_ge (pc := 188) 246 dL_isLaid_188 (by decide) (fun c188 => ?_) (fun c188 => ?_)
    · replace hw := hw.1 c188
      refine h.sub (pc := 246) [0, 1, 2, 3, 4, 5, 6, 7, 8, 9, 10, 11, 12] (lv' := [(0, .ref (gA G (0, 0, 0))), (2, .int v2), (3, .ref (gA G (28, 0, 0))), (4, .ref (gA G (29, 0, 0))), (5, .int v5), (6, .int v6), (7, .int v7), (9, .int v9), (10, .int v10), (11, .int v11), (12, .int v12), (13, .int v13), (14, .int v14)]) rfl ?_
      exact hX v10 v14 M hw
    · replace hw := hw.2 c188
      refine h.aload_n (pc := 191) dL_isLaid_191 rfl 0 rfl ?_
      refine h.iload (pc := 192) dL_isLaid_192 13 rfl ?_
      refine h.iconst (pc := 194) (v := 1) dL_isLaid_194 (by decide) ?_
      refine h.cVi (pc := 195) [.int v15, .int 1] (0, 0, 0) [] (m_X4_ofRow hG  hw) gL_isLaid_X4_ofRow rfl hd_X4_ofRow (by decide) (k_1 1 (by decide) (by decide)) rfl rfl rfl rfl rfl (Nat.le_of_ble_eq_true rfl) dL_isLaid_195 (fun r195 M195 hw => ?_)
      refine h.iload (pc := 198) dL_isLaid_198 10 rfl ?_
      refine h.icmp_ne (pc := 200) 214 dL_isLaid_200 (by decide) (fun c200 => ?_) (fun c200 => ?_)
      · replace hw := hw.2 c200
        refine h.iconst (pc := 214) (v := 0) dL_isLaid_214 (by decide) ?_
        exact hr _ _ _ _ dL_isLaid_215 zb_0 hw
      · replace hw := hw.1 c200
        refine h.aload_n (pc := 203) dL_isLaid_203 rfl 0 rfl ?_
        refine h.iload (pc := 204) dL_isLaid_204 13 rfl ?_
        refine h.iconst (pc := 206) (v := 0) dL_isLaid_206 (by decide) ?_
        refine h.cVi (pc := 207) [.int v15, .int 0] (0, 0, 0) [] (m_X4_ofRow hG  hw) gL_isLaid_X4_ofRow rfl hd_X4_ofRow (by decide) (k_1 1 (by decide) (by decide)) rfl rfl rfl rfl rfl (Nat.le_of_ble_eq_true rfl) dL_isLaid_207 (fun r207 M207 hw => ?_)
        refine h.iconst (pc := 210) (v := 1) dL_isLaid_210 (by decide) ?_
        refine h.icmp_ge (pc := 211) 216 dL_isLaid_211 (by decide) (fun c211 => ?_) (fun c211 => ?_)
        · replace hw := hw.1 c211
          refine h.iload (pc := 216) dL_isLaid_216 12 rfl ?_
          refine h.aload_n (pc := 218) dL_isLaid_218 rfl 0 rfl ?_
          refine h.iload (pc := 219) dL_isLaid_219 13 rfl ?_
          refine h.iconst (pc := 221) (v := 0) dL_isLaid_221 (by decide) ?_
          refine h.cVi (pc := 222) [.int v15, .int 0] (0, 0, 0) [.int v14] (m_X4_ofRow hG  hw) gL_isLaid_X4_ofRow rfl hd_X4_ofRow (by decide) (k_1 1 (by decide) (by decide)) rfl rfl rfl rfl rfl (Nat.le_of_ble_eq_true rfl) dL_isLaid_222 (fun r222 M222 hw => ?_)
          refine h.iadd (pc := 225) dL_isLaid_225 ?_
          refine h.istore (pc := 226) [(14, .int (v14 + r222)), (0, .ref (gA G (0, 0, 0))), (2, .int v2), (3, .ref (gA G (28, 0, 0))), (4, .ref (gA G (29, 0, 0))), (5, .int v5), (6, .int v6), (7, .int v7), (9, .int v9), (10, .int v10), (11, .int v11), (12, .int v12), (13, .int v13), (15, .int v15)] dL_isLaid_226 (by decide) rfl ?_
          refine h.iload (pc := 228) dL_isLaid_228 9 rfl ?_
          refine h.aload_n (pc := 230) dL_isLaid_230 rfl 1 rfl ?_
          refine h.iload (pc := 231) dL_isLaid_231 13 rfl ?_
          refine h.iconst (pc := 233) (v := 0) dL_isLaid_233 (by decide) ?_
          refine h.cVi (pc := 234) [.int v15, .int 0] (0, 0, 0) [.int v10] (m_X4_ofRow hG  hw) gL_isLaid_X4_ofRow rfl hd_X4_ofRow (by decide) (k_1 1 (by decide) (by decide)) rfl rfl rfl rfl rfl (Nat.le_of_ble_eq_true rfl) dL_isLaid_234 (fun r234 M234 hw => ?_)
          refine h.iadd (pc := 237) dL_isLaid_237 ?_
          refine h.istore (pc := 238) [(10, .int (v10 + r234)), (14, .int (v14 + r222)), (0, .ref (gA G (0, 0, 0))), (2, .int v2), (3, .ref (gA G (28, 0, 0))), (4, .ref (gA G (29, 0, 0))), (5, .int v5), (6, .int v6), (7, .int v7), (9, .int v9), (11, .int v11), (12, .int v12), (13, .int v13), (15, .int v15)] dL_isLaid_238 (by decide) rfl ?_
          refine h.iinc (pc := 240) [(15, .int (v15 + 1)), (10, .int (v10 + r234)), (14, .int (v14 + r222)), (0, .ref (gA G (0, 0, 0))), (2, .int v2), (3, .ref (gA G (28, 0, 0))), (4, .ref (gA G (29, 0, 0))), (5, .int v5), (6, .int v6), (7, .int v7), (9, .int v9), (11, .int v11), (12, .int v12), (13, .int v13)] dL_isLaid_240 13 rfl (inc_ (by decide)) (by decide) rfl ?_
          refine h.goto (pc := 243) 181 dL_isLaid_243 (by decide) ?_
          refine h.sub (pc := 181) [3, 4, 5, 6, 7, 8, 9, 10, 1, 11, 12, 13, 2, 0] (lv' := [(0, .ref (gA G (0, 0, 0))), (2, .int v2), (3, .ref (gA G (28, 0, 0))), (4, .ref (gA G (29, 0, 0))), (5, .int v5), (6, .int v6), (7, .int v7), (9, .int v9), (10, .int (v10 + r234)), (11, .int v11), (12, .int v12), (13, .int v13), (14, .int (v14 + r222)), (15, .int (v15 + 1))]) rfl ?_
          exact ih (v10 + r234) (v14 + r222) (v15 + 1) M234 hw
        · replace hw := hw.2 c211
          refine h.iconst (pc := 214) (v := 0) dL_isLaid_214 (by decide) ?_
          exact hr _ _ _ _ dL_isLaid_215 zb_0 hw
def wp_L_isLaid_L300 (v1 : Int32) (v2 : Int32) (B : Int32 → Int32 → Int32 → Mem → Prop) (X : Int32 → Int32 → Mem → Prop) (Q : Int32 → Mem → Prop) (v5 : Int32) (v6 : Int32) (v7 : Int32) (v9 : Int32) (v10 : Int32) (v11 : Int32) (v12 : Int32) (v14 : Int32) (v15 : Int32) (v16 : Int32) (M : Mem) : Prop := B v14 v15 (v16 + 1) M
set_option maxHeartbeats 4000000 in
set_option maxRecDepth 100000 in
theorem l_L_isLaid_L300 {l : Launch} {G : GG} {Z : ZT} (h : AX l G cL_isLaid 17 RL wsL_isLaid F_L_isLaid L_L_isLaid Z) (hG : GoodG G) {Q : Int32 → Mem → Prop} (hr : RETz cL_isLaid Q Z) (v1 : Int32) (v2 : Int32) (hk28 : (28, 0, 0) ∈ KS G) (hk29 : (29, 0, 0) ∈ KS G) (v5 : Int32) (v6 : Int32) (v7 : Int32) (v9 : Int32) (v10 : Int32) (v11 : Int32) (v12 : Int32) (v14 : Int32) (v15 : Int32) (v16 : Int32)  {B : Int32 → Int32 → Int32 → Mem → Prop} (hB : ∀ (v14 : Int32) (v15 : Int32) (v16 : Int32) (M : Mem), B v14 v15 v16 M → Z 259 [(0, .ref (gA G (0, 0, 0))), (2, .int v2), (3, .ref (gA G (28, 0, 0))), (4, .ref (gA G (29, 0, 0))), (5, .int v5), (6, .int v6), (7, .int v7), (9, .int v9), (10, .int v10), (11, .int v11), (12, .int v12), (14, .int v14), (15, .int v15), (16, .int v16)] [] M) {X : Int32 → Int32 → Mem → Prop} (hX : ∀ (v14 : Int32) (v15 : Int32) (M : Mem), X v14 v15 M → Z 306 [(0, .ref (gA G (0, 0, 0))), (2, .int v2), (3, .ref (gA G (28, 0, 0))), (4, .ref (gA G (29, 0, 0))), (5, .int v5), (6, .int v6), (7, .int v7), (9, .int v9), (10, .int v10), (11, .int v11), (12, .int v12), (14, .int v14), (15, .int v15)] [] M) (M : Mem) (hw : wp_L_isLaid_L300 v1 v2 B X Q v5 v6 v7 v9 v10 v11 v12 v14 v15 v16 M) : Z 300 [(0, .ref (gA G (0, 0, 0))), (2, .int v2), (3, .ref (gA G (28, 0, 0))), (4, .ref (gA G (29, 0, 0))), (5, .int v5), (6, .int v6), (7, .int v7), (9, .int v9), (10, .int v10), (11, .int v11), (12, .int v12), (14, .int v14), (15, .int v15), (16, .int v16)] [] M := by
  unfold wp_L_isLaid_L300 at hw
  refine h.iinc (pc := 300) [(16, .int (v16 + 1)), (0, .ref (gA G (0, 0, 0))), (2, .int v2), (3, .ref (gA G (28, 0, 0))), (4, .ref (gA G (29, 0, 0))), (5, .int v5), (6, .int v6), (7, .int v7), (9, .int v9), (10, .int v10), (11, .int v11), (12, .int v12), (14, .int v14), (15, .int v15)] dL_isLaid_300 13 rfl (inc_ (by decide)) (by decide) rfl ?_
  refine h.goto (pc := 303) 259 dL_isLaid_303 (by decide) ?_
  refine h.sub (pc := 259) [1, 2, 3, 4, 5, 6, 7, 8, 9, 10, 11, 12, 13, 0] (lv' := [(0, .ref (gA G (0, 0, 0))), (2, .int v2), (3, .ref (gA G (28, 0, 0))), (4, .ref (gA G (29, 0, 0))), (5, .int v5), (6, .int v6), (7, .int v7), (9, .int v9), (10, .int v10), (11, .int v11), (12, .int v12), (14, .int v14), (15, .int v15), (16, .int (v16 + 1))]) rfl ?_
  exact hB v14 v15 (v16 + 1) M hw
def wp_L_isLaid_L259 (v1 : Int32) (v2 : Int32) (v5 : Int32) (v6 : Int32) (v7 : Int32) (v9 : Int32) (v10 : Int32) (v11 : Int32) (v12 : Int32) (X : Int32 → Int32 → Mem → Prop) (Q : Int32 → Mem → Prop) : Nat → Int32 → Int32 → Int32 → Mem → Prop
  | 0, _, _, _, _ => False
  | n + 1, v14, v15, v16, M => ((v6 ≤ v16 → X v14 v15 M) ∧ (¬ (v6 ≤ v16) → (vp_in v16 30 ∧ (((M 28 0 0 v16.toNatClampNeg) = 0 → wp_L_isLaid_L300 v1 v2 (wp_L_isLaid_L259 v1 v2 v5 v6 v7 v9 v10 v11 v12 X Q n) X Q v5 v6 v7 v9 v10 v11 v12 v14 v15 v16 M) ∧ (¬ ((M 28 0 0 v16.toNatClampNeg) = 0) → (wp_X4_ofRow v16 2 M (fun r277 M277 => ((r277 = v12 → (vp_in v16 30 ∧ wp_L_isLaid_L300 v1 v2 (wp_L_isLaid_L259 v1 v2 v5 v6 v7 v9 v10 v11 v12 X Q n) X Q v5 v6 v7 v9 v10 v11 v12 (v14 + (M277 28 0 0 v16.toNatClampNeg)) (v15 + 1) v16 M277)) ∧ (¬ (r277 = v12) → wp_L_isLaid_L300 v1 v2 (wp_L_isLaid_L259 v1 v2 v5 v6 v7 v9 v10 v11 v12 X Q n) X Q v5 v6 v7 v9 v10 v11 v12 v14 v15 v16 M277)))))))))
set_option maxHeartbeats 4000000 in
set_option maxRecDepth 100000 in
theorem l_L_isLaid_L259 {l : Launch} {G : GG} {Z : ZT} (h : AX l G cL_isLaid 17 RL wsL_isLaid F_L_isLaid L_L_isLaid Z) (hG : GoodG G) {Q : Int32 → Mem → Prop} (hr : RETz cL_isLaid Q Z) (v1 : Int32) (v2 : Int32) (hk28 : (28, 0, 0) ∈ KS G) (hk29 : (29, 0, 0) ∈ KS G) (v5 : Int32) (v6 : Int32) (v7 : Int32) (v9 : Int32) (v10 : Int32) (v11 : Int32) (v12 : Int32)  (X : Int32 → Int32 → Mem → Prop) (hX : ∀ (v14 : Int32) (v15 : Int32) (M : Mem), X v14 v15 M → Z 306 [(0, .ref (gA G (0, 0, 0))), (2, .int v2), (3, .ref (gA G (28, 0, 0))), (4, .ref (gA G (29, 0, 0))), (5, .int v5), (6, .int v6), (7, .int v7), (9, .int v9), (10, .int v10), (11, .int v11), (12, .int v12), (14, .int v14), (15, .int v15)] [] M) : ∀ (n : Nat) (v14 : Int32) (v15 : Int32) (v16 : Int32) (M : Mem), wp_L_isLaid_L259 v1 v2 v5 v6 v7 v9 v10 v11 v12 X Q n v14 v15 v16 M → Z 259 [(0, .ref (gA G (0, 0, 0))), (2, .int v2), (3, .ref (gA G (28, 0, 0))), (4, .ref (gA G (29, 0, 0))), (5, .int v5), (6, .int v6), (7, .int v7), (9, .int v9), (10, .int v10), (11, .int v11), (12, .int v12), (14, .int v14), (15, .int v15), (16, .int v16)] [] M := by
  intro n
  induction n with
  | zero => intro v14 v15 v16 M hw; exact hw.elim
  | succ n ih =>
    intro v14 v15 v16 M hw
    unfold wp_L_isLaid_L259 at hw
    refine h.iload (pc := 259) dL_isLaid_259 13 rfl ?_
    refine h.iload (pc := 261) dL_isLaid_261 5 rfl ?_
    refine h.icmp_ge (pc := 263) 306 dL_isLaid_263 (by decide) (fun c263 => ?_) (fun c263 => ?_)
    · replace hw := hw.1 c263
      refine h.sub (pc := 306) [0, 1, 2, 3, 4, 5, 6, 7, 8, 9, 10, 11, 12] (lv' := [(0, .ref (gA G (0, 0, 0))), (2, .int v2), (3, .ref (gA G (28, 0, 0))), (4, .ref (gA G (29, 0, 0))), (5, .int v5), (6, .int v6), (7, .int v7), (9, .int v9), (10, .int v10), (11, .int v11), (12, .int v12), (14, .int v14), (15, .int v15)]) rfl ?_
      exact hX v14 v15 M hw
    · replace hw := hw.2 c263
      refine h.aload_n (pc := 266) dL_isLaid_266 rfl 2 rfl ?_
      refine h.iload (pc := 267) dL_isLaid_267 13 rfl ?_
      obtain ⟨hj269, hw⟩ := hw
      refine h.iald (pc := 269) (f := 28) (o := 0) (i := 0) (n := 30) hk28 (fun _ => rfl) hj269 dL_isLaid_269 ?_
      refine h.if_eq (pc := 270) 300 dL_isLaid_270 (by decide) (fun c270 => ?_) (fun c270 => ?_)
      · replace hw := hw.1 c270
        exact l_L_isLaid_L300 h hG hr v1 v2 hk28 hk29 v5 v6 v7 v9 v10 v11 v12 v14 v15 v16 ih hX M hw
      · replace hw := hw.2 c270
        refine h.aload_n (pc := 273) dL_isLaid_273 rfl 0 rfl ?_
        refine h.iload (pc := 274) dL_isLaid_274 13 rfl ?_
        refine h.iconst (pc := 276) (v := 2) dL_isLaid_276 (by decide) ?_
        refine h.cVi (pc := 277) [.int v16, .int 2] (0, 0, 0) [] (m_X4_ofRow hG  hw) gL_isLaid_X4_ofRow rfl hd_X4_ofRow (by decide) (k_1 1 (by decide) (by decide)) rfl rfl rfl rfl rfl (Nat.le_of_ble_eq_true rfl) dL_isLaid_277 (fun r277 M277 hw => ?_)
        refine h.iload (pc := 280) dL_isLaid_280 10 rfl ?_
        refine h.icmp_eq (pc := 282) 288 dL_isLaid_282 (by decide) (fun c282 => ?_) (fun c282 => ?_)
        · replace hw := hw.1 c282
          refine h.iload (pc := 288) dL_isLaid_288 11 rfl ?_
          refine h.aload_n (pc := 290) dL_isLaid_290 rfl 2 rfl ?_
          refine h.iload (pc := 291) dL_isLaid_291 13 rfl ?_
          obtain ⟨hj293, hw⟩ := hw
          refine h.iald (pc := 293) (f := 28) (o := 0) (i := 0) (n := 30) hk28 (fun _ => rfl) hj293 dL_isLaid_293 ?_
          refine h.iadd (pc := 294) dL_isLaid_294 ?_
          refine h.istore (pc := 295) [(14, .int (v14 + (M277 28 0 0 v16.toNatClampNeg))), (0, .ref (gA G (0, 0, 0))), (2, .int v2), (3, .ref (gA G (28, 0, 0))), (4, .ref (gA G (29, 0, 0))), (5, .int v5), (6, .int v6), (7, .int v7), (9, .int v9), (10, .int v10), (11, .int v11), (12, .int v12), (15, .int v15), (16, .int v16)] dL_isLaid_295 (by decide) rfl ?_
          refine h.iinc (pc := 297) [(15, .int (v15 + 1)), (14, .int (v14 + (M277 28 0 0 v16.toNatClampNeg))), (0, .ref (gA G (0, 0, 0))), (2, .int v2), (3, .ref (gA G (28, 0, 0))), (4, .ref (gA G (29, 0, 0))), (5, .int v5), (6, .int v6), (7, .int v7), (9, .int v9), (10, .int v10), (11, .int v11), (12, .int v12), (16, .int v16)] dL_isLaid_297 12 rfl (inc_ (by decide)) (by decide) rfl ?_
          refine h.sub (pc := 300) [2, 3, 4, 5, 6, 7, 8, 9, 10, 11, 12, 1, 0, 13] (lv' := [(0, .ref (gA G (0, 0, 0))), (2, .int v2), (3, .ref (gA G (28, 0, 0))), (4, .ref (gA G (29, 0, 0))), (5, .int v5), (6, .int v6), (7, .int v7), (9, .int v9), (10, .int v10), (11, .int v11), (12, .int v12), (14, .int (v14 + (M277 28 0 0 v16.toNatClampNeg))), (15, .int (v15 + 1)), (16, .int v16)]) rfl ?_
          exact l_L_isLaid_L300 h hG hr v1 v2 hk28 hk29 v5 v6 v7 v9 v10 v11 v12 (v14 + (M277 28 0 0 v16.toNatClampNeg)) (v15 + 1) v16 ih hX M277 hw
        · replace hw := hw.2 c282
          refine h.goto (pc := 285) 300 dL_isLaid_285 (by decide) ?_
          exact l_L_isLaid_L300 h hG hr v1 v2 hk28 hk29 v5 v6 v7 v9 v10 v11 v12 v14 v15 v16 ih hX M277 hw
def wp_L_isLaid_L336 (v1 : Int32) (v2 : Int32) (v5 : Int32) (v6 : Int32) (v7 : Int32) (v9 : Int32) (v10 : Int32) (v11 : Int32) (v12 : Int32) (X : Mem → Prop) (Q : Int32 → Mem → Prop) : Nat → Int32 → Mem → Prop
  | 0, _, _ => False
  | n + 1, v16, M => ((v5 ≤ v16 → X M) ∧ (¬ (v5 ≤ v16) → (wp_X4_carried v12 v16 M (fun r348 M348 => (wp_X4_cell (v9 - 1) v16 3 M348 (fun r359 M359 => ((r348 = r359 → (wp_L_isLaid_L336 v1 v2 v5 v6 v7 v9 v10 v11 v12 X Q n) (v16 + 1) M359) ∧ (¬ (r348 = r359) → Q 0 M359))))))))
set_option maxHeartbeats 4000000 in
set_option maxRecDepth 100000 in
theorem l_L_isLaid_L336 {l : Launch} {G : GG} {Z : ZT} (h : AX l G cL_isLaid 17 RL wsL_isLaid F_L_isLaid L_L_isLaid Z) (hG : GoodG G) {Q : Int32 → Mem → Prop} (hr : RETz cL_isLaid Q Z) (v1 : Int32) (v2 : Int32) (hk28 : (28, 0, 0) ∈ KS G) (hk29 : (29, 0, 0) ∈ KS G) (v5 : Int32) (v6 : Int32) (v7 : Int32) (v9 : Int32) (v10 : Int32) (v11 : Int32) (v12 : Int32)  (X : Mem → Prop) (hX : ∀  (M : Mem), X  M → Z 373 [(0, .ref (gA G (0, 0, 0))), (2, .int v2), (3, .ref (gA G (28, 0, 0))), (4, .ref (gA G (29, 0, 0))), (5, .int v5), (6, .int v6), (7, .int v7), (9, .int v9), (10, .int v10), (11, .int v11), (12, .int v12)] [] M) : ∀ (n : Nat) (v16 : Int32) (M : Mem), wp_L_isLaid_L336 v1 v2 v5 v6 v7 v9 v10 v11 v12 X Q n v16 M → Z 336 [(0, .ref (gA G (0, 0, 0))), (2, .int v2), (3, .ref (gA G (28, 0, 0))), (4, .ref (gA G (29, 0, 0))), (5, .int v5), (6, .int v6), (7, .int v7), (9, .int v9), (10, .int v10), (11, .int v11), (12, .int v12), (16, .int v16)] [] M := by
  intro n
  induction n with
  | zero => intro v16 M hw; exact hw.elim
  | succ n ih =>
    intro v16 M hw
    unfold wp_L_isLaid_L336 at hw
    refine h.iload (pc := 336) dL_isLaid_336 11 rfl ?_
    refine h.iload (pc := 338) dL_isLaid_338 4 rfl ?_
    refine h.icmp_ge (pc := 340) 373 dL_isLaid_340 (by decide) (fun c340 => ?_) (fun c340 => ?_)
    · replace hw := hw.1 c340
      refine h.sub (pc := 373) [0, 1, 2, 3, 4, 5, 6, 7, 8, 9, 10] (lv' := [(0, .ref (gA G (0, 0, 0))), (2, .int v2), (3, .ref (gA G (28, 0, 0))), (4, .ref (gA G (29, 0, 0))), (5, .int v5), (6, .int v6), (7, .int v7), (9, .int v9), (10, .int v10), (11, .int v11), (12, .int v12)]) rfl ?_
      exact hX M hw
    · replace hw := hw.2 c340
      refine h.aload_n (pc := 343) dL_isLaid_343 rfl 0 rfl ?_
      refine h.iload (pc := 344) dL_isLaid_344 10 rfl ?_
      refine h.iload (pc := 346) dL_isLaid_346 11 rfl ?_
      refine h.cVi (pc := 348) [.int v12, .int v16] (0, 0, 0) [] (m_X4_carried hG  hw) gL_isLaid_X4_carried rfl hd_X4_carried (by decide) (k_1 1 (by decide) (by decide)) rfl rfl rfl rfl rfl (Nat.le_of_ble_eq_true rfl) dL_isLaid_348 (fun r348 M348 hw => ?_)
      refine h.aload_n (pc := 351) dL_isLaid_351 rfl 0 rfl ?_
      refine h.iload (pc := 352) dL_isLaid_352 7 rfl ?_
      refine h.iconst (pc := 354) (v := 1) dL_isLaid_354 (by decide) ?_
      refine h.isub (pc := 355) dL_isLaid_355 ?_
      refine h.iload (pc := 356) dL_isLaid_356 11 rfl ?_
      refine h.iconst (pc := 358) (v := 3) dL_isLaid_358 (by decide) ?_
      refine h.cVi (pc := 359) [.int (v9 - 1), .int v16, .int 3] (0, 0, 0) [.int r348] (m_X4_cell hG  hw) gL_isLaid_X4_cell rfl hd_X4_cell (by decide) (k_1 1 (by decide) (by decide)) rfl rfl rfl rfl rfl (Nat.le_of_ble_eq_true rfl) dL_isLaid_359 (fun r359 M359 hw => ?_)
      refine h.icmp_eq (pc := 362) 367 dL_isLaid_362 (by decide) (fun c362 => ?_) (fun c362 => ?_)
      · replace hw := hw.1 c362
        refine h.iinc (pc := 367) [(16, .int (v16 + 1)), (0, .ref (gA G (0, 0, 0))), (2, .int v2), (3, .ref (gA G (28, 0, 0))), (4, .ref (gA G (29, 0, 0))), (5, .int v5), (6, .int v6), (7, .int v7), (9, .int v9), (10, .int v10), (11, .int v11), (12, .int v12)] dL_isLaid_367 11 rfl (inc_ (by decide)) (by decide) rfl ?_
        refine h.goto (pc := 370) 336 dL_isLaid_370 (by decide) ?_
        refine h.sub (pc := 336) [1, 2, 3, 4, 5, 6, 7, 8, 9, 10, 11, 0] (lv' := [(0, .ref (gA G (0, 0, 0))), (2, .int v2), (3, .ref (gA G (28, 0, 0))), (4, .ref (gA G (29, 0, 0))), (5, .int v5), (6, .int v6), (7, .int v7), (9, .int v9), (10, .int v10), (11, .int v11), (12, .int v12), (16, .int (v16 + 1))]) rfl ?_
        exact ih (v16 + 1) M359 hw
      · replace hw := hw.2 c362
        refine h.iconst (pc := 365) (v := 0) dL_isLaid_365 (by decide) ?_
        exact hr _ _ _ _ dL_isLaid_366 zb_0 hw
def wp_L_isLaid_L373 (v1 : Int32) (v2 : Int32) (B : Int32 → Int32 → Int32 → Int32 → Mem → Prop) (X : Int32 → Int32 → Int32 → Mem → Prop) (Q : Int32 → Mem → Prop) (v5 : Int32) (v6 : Int32) (v7 : Int32) (v9 : Int32) (v10 : Int32) (v11 : Int32) (v12 : Int32) (M : Mem) : Prop := B v9 v10 v11 (v12 + 1) M
set_option maxHeartbeats 4000000 in
set_option maxRecDepth 100000 in
theorem l_L_isLaid_L373 {l : Launch} {G : GG} {Z : ZT} (h : AX l G cL_isLaid 17 RL wsL_isLaid F_L_isLaid L_L_isLaid Z) (hG : GoodG G) {Q : Int32 → Mem → Prop} (hr : RETz cL_isLaid Q Z) (v1 : Int32) (v2 : Int32) (hk28 : (28, 0, 0) ∈ KS G) (hk29 : (29, 0, 0) ∈ KS G) (v5 : Int32) (v6 : Int32) (v7 : Int32) (v9 : Int32) (v10 : Int32) (v11 : Int32) (v12 : Int32)  {B : Int32 → Int32 → Int32 → Int32 → Mem → Prop} (hB : ∀ (v9 : Int32) (v10 : Int32) (v11 : Int32) (v12 : Int32) (M : Mem), B v9 v10 v11 v12 M → Z 115 [(0, .ref (gA G (0, 0, 0))), (2, .int v2), (3, .ref (gA G (28, 0, 0))), (4, .ref (gA G (29, 0, 0))), (5, .int v5), (6, .int v6), (7, .int v7), (9, .int v9), (10, .int v10), (11, .int v11), (12, .int v12)] [] M) {X : Int32 → Int32 → Int32 → Mem → Prop} (hX : ∀ (v9 : Int32) (v10 : Int32) (v11 : Int32) (M : Mem), X v9 v10 v11 M → Z 379 [(0, .ref (gA G (0, 0, 0))), (2, .int v2), (3, .ref (gA G (28, 0, 0))), (4, .ref (gA G (29, 0, 0))), (6, .int v6), (9, .int v9), (10, .int v10), (11, .int v11)] [] M) (M : Mem) (hw : wp_L_isLaid_L373 v1 v2 B X Q v5 v6 v7 v9 v10 v11 v12 M) : Z 373 [(0, .ref (gA G (0, 0, 0))), (2, .int v2), (3, .ref (gA G (28, 0, 0))), (4, .ref (gA G (29, 0, 0))), (5, .int v5), (6, .int v6), (7, .int v7), (9, .int v9), (10, .int v10), (11, .int v11), (12, .int v12)] [] M := by
  unfold wp_L_isLaid_L373 at hw
  refine h.iinc (pc := 373) [(12, .int (v12 + 1)), (0, .ref (gA G (0, 0, 0))), (2, .int v2), (3, .ref (gA G (28, 0, 0))), (4, .ref (gA G (29, 0, 0))), (5, .int v5), (6, .int v6), (7, .int v7), (9, .int v9), (10, .int v10), (11, .int v11)] dL_isLaid_373 10 rfl (inc_ (by decide)) (by decide) rfl ?_
  refine h.goto (pc := 376) 115 dL_isLaid_376 (by decide) ?_
  refine h.sub (pc := 115) [1, 2, 3, 4, 5, 6, 7, 8, 9, 10, 0] (lv' := [(0, .ref (gA G (0, 0, 0))), (2, .int v2), (3, .ref (gA G (28, 0, 0))), (4, .ref (gA G (29, 0, 0))), (5, .int v5), (6, .int v6), (7, .int v7), (9, .int v9), (10, .int v10), (11, .int v11), (12, .int (v12 + 1))]) rfl ?_
  exact hB v9 v10 v11 (v12 + 1) M hw
def wp_L_isLaid_L306 (v1 : Int32) (v2 : Int32) (B : Int32 → Int32 → Int32 → Int32 → Mem → Prop) (X : Int32 → Int32 → Int32 → Mem → Prop) (Q : Int32 → Mem → Prop) (v5 : Int32) (v6 : Int32) (v7 : Int32) (v9 : Int32) (v10 : Int32) (v11 : Int32) (v12 : Int32) (v14 : Int32) (v15 : Int32) (M : Mem) : Prop := ((v14 = v2 → (wp_X4_ofPage v12 2 M (fun r325 M325 => ((v15 = r325 → ∃ n336, wp_L_isLaid_L336 v1 v2 v5 v6 v7 v9 v10 (v11 + v15) v12 (fun M => wp_L_isLaid_L373 v1 v2 B X Q v5 v6 v7 v9 v10 (v11 + v15) v12 M) Q n336 0 M325) ∧ (¬ (v15 = r325) → Q 0 M325))))) ∧ (¬ (v14 = v2) → Q 0 M))
set_option maxHeartbeats 4000000 in
set_option maxRecDepth 100000 in
theorem l_L_isLaid_L306 {l : Launch} {G : GG} {Z : ZT} (h : AX l G cL_isLaid 17 RL wsL_isLaid F_L_isLaid L_L_isLaid Z) (hG : GoodG G) {Q : Int32 → Mem → Prop} (hr : RETz cL_isLaid Q Z) (v1 : Int32) (v2 : Int32) (hk28 : (28, 0, 0) ∈ KS G) (hk29 : (29, 0, 0) ∈ KS G) (v5 : Int32) (v6 : Int32) (v7 : Int32) (v9 : Int32) (v10 : Int32) (v11 : Int32) (v12 : Int32) (v14 : Int32) (v15 : Int32)  {B : Int32 → Int32 → Int32 → Int32 → Mem → Prop} (hB : ∀ (v9 : Int32) (v10 : Int32) (v11 : Int32) (v12 : Int32) (M : Mem), B v9 v10 v11 v12 M → Z 115 [(0, .ref (gA G (0, 0, 0))), (2, .int v2), (3, .ref (gA G (28, 0, 0))), (4, .ref (gA G (29, 0, 0))), (5, .int v5), (6, .int v6), (7, .int v7), (9, .int v9), (10, .int v10), (11, .int v11), (12, .int v12)] [] M) {X : Int32 → Int32 → Int32 → Mem → Prop} (hX : ∀ (v9 : Int32) (v10 : Int32) (v11 : Int32) (M : Mem), X v9 v10 v11 M → Z 379 [(0, .ref (gA G (0, 0, 0))), (2, .int v2), (3, .ref (gA G (28, 0, 0))), (4, .ref (gA G (29, 0, 0))), (6, .int v6), (9, .int v9), (10, .int v10), (11, .int v11)] [] M) (M : Mem) (hw : wp_L_isLaid_L306 v1 v2 B X Q v5 v6 v7 v9 v10 v11 v12 v14 v15 M) : Z 306 [(0, .ref (gA G (0, 0, 0))), (2, .int v2), (3, .ref (gA G (28, 0, 0))), (4, .ref (gA G (29, 0, 0))), (5, .int v5), (6, .int v6), (7, .int v7), (9, .int v9), (10, .int v10), (11, .int v11), (12, .int v12), (14, .int v14), (15, .int v15)] [] M := by
  unfold wp_L_isLaid_L306 at hw
  refine h.iload (pc := 306) dL_isLaid_306 9 rfl ?_
  refine h.iload (pc := 308) dL_isLaid_308 12 rfl ?_
  refine h.iadd (pc := 310) dL_isLaid_310 ?_
  refine h.istore (pc := 311) [(11, .int (v11 + v15)), (0, .ref (gA G (0, 0, 0))), (2, .int v2), (3, .ref (gA G (28, 0, 0))), (4, .ref (gA G (29, 0, 0))), (5, .int v5), (6, .int v6), (7, .int v7), (9, .int v9), (10, .int v10), (12, .int v12), (14, .int v14), (15, .int v15)] dL_isLaid_311 (by decide) rfl ?_
  refine h.iload (pc := 313) dL_isLaid_313 11 rfl ?_
  refine h.iload_n (pc := 315) dL_isLaid_315 rfl 2 rfl ?_
  refine h.icmp_ne (pc := 316) 331 dL_isLaid_316 (by decide) (fun c316 => ?_) (fun c316 => ?_)
  · replace hw := hw.2 c316
    refine h.iconst (pc := 331) (v := 0) dL_isLaid_331 (by decide) ?_
    exact hr _ _ _ _ dL_isLaid_332 zb_0 hw
  · replace hw := hw.1 c316
    refine h.iload (pc := 319) dL_isLaid_319 12 rfl ?_
    refine h.aload_n (pc := 321) dL_isLaid_321 rfl 1 rfl ?_
    refine h.iload (pc := 322) dL_isLaid_322 10 rfl ?_
    refine h.iconst (pc := 324) (v := 2) dL_isLaid_324 (by decide) ?_
    refine h.cVi (pc := 325) [.int v12, .int 2] (0, 0, 0) [.int v15] (m_X4_ofPage hG  hw) gL_isLaid_X4_ofPage rfl hd_X4_ofPage (by decide) (k_1 1 (by decide) (by decide)) rfl rfl rfl rfl rfl (Nat.le_of_ble_eq_true rfl) dL_isLaid_325 (fun r325 M325 hw => ?_)
    refine h.icmp_eq (pc := 328) 333 dL_isLaid_328 (by decide) (fun c328 => ?_) (fun c328 => ?_)
    · replace hw := hw.1 c328
      refine h.iconst (pc := 333) (v := 0) dL_isLaid_333 (by decide) ?_
      refine h.istore (pc := 334) [(16, .int 0), (11, .int (v11 + v15)), (0, .ref (gA G (0, 0, 0))), (2, .int v2), (3, .ref (gA G (28, 0, 0))), (4, .ref (gA G (29, 0, 0))), (5, .int v5), (6, .int v6), (7, .int v7), (9, .int v9), (10, .int v10), (12, .int v12), (14, .int v14), (15, .int v15)] dL_isLaid_334 (by decide) rfl ?_
      refine h.sub (pc := 336) [2, 3, 4, 5, 6, 7, 8, 9, 10, 1, 11, 0] (lv' := [(0, .ref (gA G (0, 0, 0))), (2, .int v2), (3, .ref (gA G (28, 0, 0))), (4, .ref (gA G (29, 0, 0))), (5, .int v5), (6, .int v6), (7, .int v7), (9, .int v9), (10, .int v10), (11, .int (v11 + v15)), (12, .int v12), (16, .int 0)]) rfl ?_
      obtain ⟨n336, hw⟩ := hw
      exact l_L_isLaid_L336 h hG hr v1 v2 hk28 hk29 v5 v6 v7 v9 v10 (v11 + v15) v12 _ (fun M hw => by
          exact l_L_isLaid_L373 h hG hr v1 v2 hk28 hk29 v5 v6 v7 v9 v10 (v11 + v15) v12 hB hX M hw) n336 0 M325 hw
    · replace hw := hw.2 c328
      refine h.iconst (pc := 331) (v := 0) dL_isLaid_331 (by decide) ?_
      exact hr _ _ _ _ dL_isLaid_332 zb_0 hw
def wp_L_isLaid_L246 (v1 : Int32) (v2 : Int32) (B : Int32 → Int32 → Int32 → Int32 → Mem → Prop) (X : Int32 → Int32 → Int32 → Mem → Prop) (Q : Int32 → Mem → Prop) (v5 : Int32) (v6 : Int32) (v7 : Int32) (v9 : Int32) (v10 : Int32) (v11 : Int32) (v12 : Int32) (v13 : Int32) (v14 : Int32) (M : Mem) : Prop := ∃ n259, wp_L_isLaid_L259 v1 v2 v5 v6 v7 (v9 + v13) v10 v11 v12 (fun v14 v15 M => wp_L_isLaid_L306 v1 v2 B X Q v5 v6 v7 (v9 + v13) v10 v11 v12 v14 v15 M) Q n259 v14 0 0 M
set_option maxHeartbeats 4000000 in
set_option maxRecDepth 100000 in
theorem l_L_isLaid_L246 {l : Launch} {G : GG} {Z : ZT} (h : AX l G cL_isLaid 17 RL wsL_isLaid F_L_isLaid L_L_isLaid Z) (hG : GoodG G) {Q : Int32 → Mem → Prop} (hr : RETz cL_isLaid Q Z) (v1 : Int32) (v2 : Int32) (hk28 : (28, 0, 0) ∈ KS G) (hk29 : (29, 0, 0) ∈ KS G) (v5 : Int32) (v6 : Int32) (v7 : Int32) (v9 : Int32) (v10 : Int32) (v11 : Int32) (v12 : Int32) (v13 : Int32) (v14 : Int32)  {B : Int32 → Int32 → Int32 → Int32 → Mem → Prop} (hB : ∀ (v9 : Int32) (v10 : Int32) (v11 : Int32) (v12 : Int32) (M : Mem), B v9 v10 v11 v12 M → Z 115 [(0, .ref (gA G (0, 0, 0))), (2, .int v2), (3, .ref (gA G (28, 0, 0))), (4, .ref (gA G (29, 0, 0))), (5, .int v5), (6, .int v6), (7, .int v7), (9, .int v9), (10, .int v10), (11, .int v11), (12, .int v12)] [] M) {X : Int32 → Int32 → Int32 → Mem → Prop} (hX : ∀ (v9 : Int32) (v10 : Int32) (v11 : Int32) (M : Mem), X v9 v10 v11 M → Z 379 [(0, .ref (gA G (0, 0, 0))), (2, .int v2), (3, .ref (gA G (28, 0, 0))), (4, .ref (gA G (29, 0, 0))), (6, .int v6), (9, .int v9), (10, .int v10), (11, .int v11)] [] M) (M : Mem) (hw : wp_L_isLaid_L246 v1 v2 B X Q v5 v6 v7 v9 v10 v11 v12 v13 v14 M) : Z 246 [(0, .ref (gA G (0, 0, 0))), (2, .int v2), (3, .ref (gA G (28, 0, 0))), (4, .ref (gA G (29, 0, 0))), (5, .int v5), (6, .int v6), (7, .int v7), (9, .int v9), (10, .int v10), (11, .int v11), (12, .int v12), (13, .int v13), (14, .int v14)] [] M := by
  unfold wp_L_isLaid_L246 at hw
  refine h.iload (pc := 246) dL_isLaid_246 7 rfl ?_
  refine h.iload (pc := 248) dL_isLaid_248 11 rfl ?_
  refine h.iadd (pc := 250) dL_isLaid_250 ?_
  refine h.istore (pc := 251) [(9, .int (v9 + v13)), (0, .ref (gA G (0, 0, 0))), (2, .int v2), (3, .ref (gA G (28, 0, 0))), (4, .ref (gA G (29, 0, 0))), (5, .int v5), (6, .int v6), (7, .int v7), (10, .int v10), (11, .int v11), (12, .int v12), (13, .int v13), (14, .int v14)] dL_isLaid_251 (by decide) rfl ?_
  refine h.iconst (pc := 253) (v := 0) dL_isLaid_253 (by decide) ?_
  refine h.istore (pc := 254) [(15, .int 0), (9, .int (v9 + v13)), (0, .ref (gA G (0, 0, 0))), (2, .int v2), (3, .ref (gA G (28, 0, 0))), (4, .ref (gA G (29, 0, 0))), (5, .int v5), (6, .int v6), (7, .int v7), (10, .int v10), (11, .int v11), (12, .int v12), (13, .int v13), (14, .int v14)] dL_isLaid_254 (by decide) rfl ?_
  refine h.iconst (pc := 256) (v := 0) dL_isLaid_256 (by decide) ?_
  refine h.istore (pc := 257) [(16, .int 0), (15, .int 0), (9, .int (v9 + v13)), (0, .ref (gA G (0, 0, 0))), (2, .int v2), (3, .ref (gA G (28, 0, 0))), (4, .ref (gA G (29, 0, 0))), (5, .int v5), (6, .int v6), (7, .int v7), (10, .int v10), (11, .int v11), (12, .int v12), (13, .int v13), (14, .int v14)] dL_isLaid_257 (by decide) rfl ?_
  refine h.sub (pc := 259) [3, 4, 5, 6, 7, 8, 9, 2, 10, 11, 12, 14, 1, 0] (lv' := [(0, .ref (gA G (0, 0, 0))), (2, .int v2), (3, .ref (gA G (28, 0, 0))), (4, .ref (gA G (29, 0, 0))), (5, .int v5), (6, .int v6), (7, .int v7), (9, .int (v9 + v13)), (10, .int v10), (11, .int v11), (12, .int v12), (14, .int v14), (15, .int 0), (16, .int 0)]) rfl ?_
  obtain ⟨n259, hw⟩ := hw
  exact l_L_isLaid_L259 h hG hr v1 v2 hk28 hk29 v5 v6 v7 (v9 + v13) v10 v11 v12 _ (fun v14 v15 M hw => by
      exact l_L_isLaid_L306 h hG hr v1 v2 hk28 hk29 v5 v6 v7 (v9 + v13) v10 v11 v12 v14 v15 hB hX M hw) n259 v14 0 0 M hw
def wp_L_isLaid_L157 (v1 : Int32) (v2 : Int32) (B : Int32 → Int32 → Int32 → Int32 → Mem → Prop) (X : Int32 → Int32 → Int32 → Mem → Prop) (Q : Int32 → Mem → Prop) (v5 : Int32) (v6 : Int32) (v7 : Int32) (v9 : Int32) (v10 : Int32) (v11 : Int32) (v12 : Int32) (v13 : Int32) (v14 : Int32) (M : Mem) : Prop := (wp_X4_ofPage v12 2 M (fun r163 M163 => (((v13 + r163) = 0 → Q 0 M163) ∧ (¬ ((v13 + r163) = 0) → ((0 ≤ v14 → ∃ n181, wp_L_isLaid_L181 v1 v2 v5 v6 v7 v9 v11 v12 v13 (fun v10 v14 M => wp_L_isLaid_L246 v1 v2 B X Q v5 v6 v7 v9 v10 v11 v12 v13 v14 M) Q n181 v10 v14 v9 M163) ∧ (¬ (0 ≤ v14) → Q 0 M163))))))
set_option maxHeartbeats 4000000 in
set_option maxRecDepth 100000 in
theorem l_L_isLaid_L157 {l : Launch} {G : GG} {Z : ZT} (h : AX l G cL_isLaid 17 RL wsL_isLaid F_L_isLaid L_L_isLaid Z) (hG : GoodG G) {Q : Int32 → Mem → Prop} (hr : RETz cL_isLaid Q Z) (v1 : Int32) (v2 : Int32) (hk28 : (28, 0, 0) ∈ KS G) (hk29 : (29, 0, 0) ∈ KS G) (v5 : Int32) (v6 : Int32) (v7 : Int32) (v9 : Int32) (v10 : Int32) (v11 : Int32) (v12 : Int32) (v13 : Int32) (v14 : Int32)  {B : Int32 → Int32 → Int32 → Int32 → Mem → Prop} (hB : ∀ (v9 : Int32) (v10 : Int32) (v11 : Int32) (v12 : Int32) (M : Mem), B v9 v10 v11 v12 M → Z 115 [(0, .ref (gA G (0, 0, 0))), (2, .int v2), (3, .ref (gA G (28, 0, 0))), (4, .ref (gA G (29, 0, 0))), (5, .int v5), (6, .int v6), (7, .int v7), (9, .int v9), (10, .int v10), (11, .int v11), (12, .int v12)] [] M) {X : Int32 → Int32 → Int32 → Mem → Prop} (hX : ∀ (v9 : Int32) (v10 : Int32) (v11 : Int32) (M : Mem), X v9 v10 v11 M → Z 379 [(0, .ref (gA G (0, 0, 0))), (2, .int v2), (3, .ref (gA G (28, 0, 0))), (4, .ref (gA G (29, 0, 0))), (6, .int v6), (9, .int v9), (10, .int v10), (11, .int v11)] [] M) (M : Mem) (hw : wp_L_isLaid_L157 v1 v2 B X Q v5 v6 v7 v9 v10 v11 v12 v13 v14 M) : Z 157 [(0, .ref (gA G (0, 0, 0))), (2, .int v2), (3, .ref (gA G (28, 0, 0))), (4, .ref (gA G (29, 0, 0))), (5, .int v5), (6, .int v6), (7, .int v7), (9, .int v9), (10, .int v10), (11, .int v11), (12, .int v12), (13, .int v13), (14, .int v14)] [] M := by
  unfold wp_L_isLaid_L157 at hw
  refine h.iload (pc := 157) dL_isLaid_157 11 rfl ?_
  refine h.aload_n (pc := 159) dL_isLaid_159 rfl 0 rfl ?_
  refine h.iload (pc := 160) dL_isLaid_160 10 rfl ?_
  refine h.iconst (pc := 162) (v := 2) dL_isLaid_162 (by decide) ?_
  refine h.cVi (pc := 163) [.int v12, .int 2] (0, 0, 0) [.int v13] (m_X4_ofPage hG  hw) gL_isLaid_X4_ofPage rfl hd_X4_ofPage (by decide) (k_1 1 (by decide) (by decide)) rfl rfl rfl rfl rfl (Nat.le_of_ble_eq_true rfl) dL_isLaid_163 (fun r163 M163 hw => ?_)
  refine h.iadd (pc := 166) dL_isLaid_166 ?_
  refine h.if_eq (pc := 167) 175 dL_isLaid_167 (by decide) (fun c167 => ?_) (fun c167 => ?_)
  · replace hw := hw.1 c167
    refine h.iconst (pc := 175) (v := 0) dL_isLaid_175 (by decide) ?_
    exact hr _ _ _ _ dL_isLaid_176 zb_0 hw
  · replace hw := hw.2 c167
    refine h.iload (pc := 170) dL_isLaid_170 12 rfl ?_
    refine h.if_ge (pc := 172) 177 dL_isLaid_172 (by decide) (fun c172 => ?_) (fun c172 => ?_)
    · replace hw := hw.1 c172
      refine h.iload (pc := 177) dL_isLaid_177 7 rfl ?_
      refine h.istore (pc := 179) [(15, .int v9), (0, .ref (gA G (0, 0, 0))), (2, .int v2), (3, .ref (gA G (28, 0, 0))), (4, .ref (gA G (29, 0, 0))), (5, .int v5), (6, .int v6), (7, .int v7), (9, .int v9), (10, .int v10), (11, .int v11), (12, .int v12), (13, .int v13), (14, .int v14)] dL_isLaid_179 (by decide) rfl ?_
      refine h.sub (pc := 181) [1, 2, 3, 4, 5, 6, 7, 8, 9, 10, 11, 12, 13, 0] (lv' := [(0, .ref (gA G (0, 0, 0))), (2, .int v2), (3, .ref (gA G (28, 0, 0))), (4, .ref (gA G (29, 0, 0))), (5, .int v5), (6, .int v6), (7, .int v7), (9, .int v9), (10, .int v10), (11, .int v11), (12, .int v12), (13, .int v13), (14, .int v14), (15, .int v9)]) rfl ?_
      obtain ⟨n181, hw⟩ := hw
      exact l_L_isLaid_L181 h hG hr v1 v2 hk28 hk29 v5 v6 v7 v9 v11 v12 v13 _ (fun v10 v14 M hw => by
          exact l_L_isLaid_L246 h hG hr v1 v2 hk28 hk29 v5 v6 v7 v9 v10 v11 v12 v13 v14 hB hX M hw) n181 v10 v14 v9 M163 hw
    · replace hw := hw.2 c172
      refine h.iconst (pc := 175) (v := 0) dL_isLaid_175 (by decide) ?_
      exact hr _ _ _ _ dL_isLaid_176 zb_0 hw
def wp_L_isLaid_L115 (v1 : Int32) (v2 : Int32) (v5 : Int32) (v6 : Int32) (v7 : Int32) (X : Int32 → Int32 → Int32 → Mem → Prop) (Q : Int32 → Mem → Prop) : Nat → Int32 → Int32 → Int32 → Int32 → Mem → Prop
  | 0, _, _, _, _, _ => False
  | n + 1, v9, v10, v11, v12, M => ((v7 ≤ v12 → X v9 v10 v11 M) ∧ (¬ (v7 ≤ v12) → (wp_X4_ofPage v12 1 M (fun r126 M126 => (wp_X4_ofPage v12 3 M126 (fun r135 M135 => ((r126 ≤ 0 → wp_L_isLaid_L157 v1 v2 (wp_L_isLaid_L115 v1 v2 v5 v6 v7 X Q n) X Q v5 v6 v7 v9 v10 v11 v12 r126 r135 M135) ∧ (¬ (r126 ≤ 0) → (wp_X4_ofPage v12 0 M135 (fun r149 M149 => ((r149 = v9 → wp_L_isLaid_L157 v1 v2 (wp_L_isLaid_L115 v1 v2 v5 v6 v7 X Q n) X Q v5 v6 v7 v9 v10 v11 v12 r126 r135 M149) ∧ (¬ (r149 = v9) → Q 0 M149))))))))))))
set_option maxHeartbeats 4000000 in
set_option maxRecDepth 100000 in
theorem l_L_isLaid_L115 {l : Launch} {G : GG} {Z : ZT} (h : AX l G cL_isLaid 17 RL wsL_isLaid F_L_isLaid L_L_isLaid Z) (hG : GoodG G) {Q : Int32 → Mem → Prop} (hr : RETz cL_isLaid Q Z) (v1 : Int32) (v2 : Int32) (hk28 : (28, 0, 0) ∈ KS G) (hk29 : (29, 0, 0) ∈ KS G) (v5 : Int32) (v6 : Int32) (v7 : Int32)  (X : Int32 → Int32 → Int32 → Mem → Prop) (hX : ∀ (v9 : Int32) (v10 : Int32) (v11 : Int32) (M : Mem), X v9 v10 v11 M → Z 379 [(0, .ref (gA G (0, 0, 0))), (2, .int v2), (3, .ref (gA G (28, 0, 0))), (4, .ref (gA G (29, 0, 0))), (6, .int v6), (9, .int v9), (10, .int v10), (11, .int v11)] [] M) : ∀ (n : Nat) (v9 : Int32) (v10 : Int32) (v11 : Int32) (v12 : Int32) (M : Mem), wp_L_isLaid_L115 v1 v2 v5 v6 v7 X Q n v9 v10 v11 v12 M → Z 115 [(0, .ref (gA G (0, 0, 0))), (2, .int v2), (3, .ref (gA G (28, 0, 0))), (4, .ref (gA G (29, 0, 0))), (5, .int v5), (6, .int v6), (7, .int v7), (9, .int v9), (10, .int v10), (11, .int v11), (12, .int v12)] [] M := by
  intro n
  induction n with
  | zero => intro v9 v10 v11 v12 M hw; exact hw.elim
  | succ n ih =>
    intro v9 v10 v11 v12 M hw
    unfold wp_L_isLaid_L115 at hw
    refine h.iload (pc := 115) dL_isLaid_115 10 rfl ?_
    refine h.iload (pc := 117) dL_isLaid_117 6 rfl ?_
    refine h.icmp_ge (pc := 119) 379 dL_isLaid_119 (by decide) (fun c119 => ?_) (fun c119 => ?_)
    · replace hw := hw.1 c119
      refine h.sub (pc := 379) [0, 1, 2, 3, 5, 7, 8, 9] (lv' := [(0, .ref (gA G (0, 0, 0))), (2, .int v2), (3, .ref (gA G (28, 0, 0))), (4, .ref (gA G (29, 0, 0))), (6, .int v6), (9, .int v9), (10, .int v10), (11, .int v11)]) rfl ?_
      exact hX v9 v10 v11 M hw
    · replace hw := hw.2 c119
      refine h.aload_n (pc := 122) dL_isLaid_122 rfl 0 rfl ?_
      refine h.iload (pc := 123) dL_isLaid_123 10 rfl ?_
      refine h.iconst (pc := 125) (v := 1) dL_isLaid_125 (by decide) ?_
      refine h.cVi (pc := 126) [.int v12, .int 1] (0, 0, 0) [] (m_X4_ofPage hG  hw) gL_isLaid_X4_ofPage rfl hd_X4_ofPage (by decide) (k_1 1 (by decide) (by decide)) rfl rfl rfl rfl rfl (Nat.le_of_ble_eq_true rfl) dL_isLaid_126 (fun r126 M126 hw => ?_)
      refine h.istore (pc := 129) [(13, .int r126), (0, .ref (gA G (0, 0, 0))), (2, .int v2), (3, .ref (gA G (28, 0, 0))), (4, .ref (gA G (29, 0, 0))), (5, .int v5), (6, .int v6), (7, .int v7), (9, .int v9), (10, .int v10), (11, .int v11), (12, .int v12)] dL_isLaid_129 (by decide) rfl ?_
      refine h.aload_n (pc := 131) dL_isLaid_131 rfl 1 rfl ?_
      refine h.iload (pc := 132) dL_isLaid_132 11 rfl ?_
      refine h.iconst (pc := 134) (v := 3) dL_isLaid_134 (by decide) ?_
      refine h.cVi (pc := 135) [.int v12, .int 3] (0, 0, 0) [] (m_X4_ofPage hG  hw) gL_isLaid_X4_ofPage rfl hd_X4_ofPage (by decide) (k_1 1 (by decide) (by decide)) rfl rfl rfl rfl rfl (Nat.le_of_ble_eq_true rfl) dL_isLaid_135 (fun r135 M135 hw => ?_)
      refine h.istore (pc := 138) [(14, .int r135), (13, .int r126), (0, .ref (gA G (0, 0, 0))), (2, .int v2), (3, .ref (gA G (28, 0, 0))), (4, .ref (gA G (29, 0, 0))), (5, .int v5), (6, .int v6), (7, .int v7), (9, .int v9), (10, .int v10), (11, .int v11), (12, .int v12)] dL_isLaid_138 (by decide) rfl ?_
      refine h.iload (pc := 140) dL_isLaid_140 1 rfl ?_
      refine h.if_le (pc := 142) 157 dL_isLaid_142 (by decide) (fun c142 => ?_) (fun c142 => ?_)
      · replace hw := hw.1 c142
        refine h.sub (pc := 157) [2, 3, 4, 5, 6, 7, 8, 9, 10, 11, 12, 1, 0] (lv' := [(0, .ref (gA G (0, 0, 0))), (2, .int v2), (3, .ref (gA G (28, 0, 0))), (4, .ref (gA G (29, 0, 0))), (5, .int v5), (6, .int v6), (7, .int v7), (9, .int v9), (10, .int v10), (11, .int v11), (12, .int v12), (13, .int r126), (14, .int r135)]) rfl ?_
        exact l_L_isLaid_L157 h hG hr v1 v2 hk28 hk29 v5 v6 v7 v9 v10 v11 v12 r126 r135 ih hX M135 hw
      · replace hw := hw.2 c142
        refine h.aload_n (pc := 145) dL_isLaid_145 rfl 2 rfl ?_
        refine h.iload (pc := 146) dL_isLaid_146 12 rfl ?_
        refine h.iconst (pc := 148) (v := 0) dL_isLaid_148 (by decide) ?_
        refine h.cVi (pc := 149) [.int v12, .int 0] (0, 0, 0) [] (m_X4_ofPage hG  hw) gL_isLaid_X4_ofPage rfl hd_X4_ofPage (by decide) (k_1 1 (by decide) (by decide)) rfl rfl rfl rfl rfl (Nat.le_of_ble_eq_true rfl) dL_isLaid_149 (fun r149 M149 hw => ?_)
        refine h.iload (pc := 152) dL_isLaid_152 9 rfl ?_
        refine h.icmp_ne (pc := 154) 175 dL_isLaid_154 (by decide) (fun c154 => ?_) (fun c154 => ?_)
        · replace hw := hw.2 c154
          refine h.iconst (pc := 175) (v := 0) dL_isLaid_175 (by decide) ?_
          exact hr _ _ _ _ dL_isLaid_176 zb_0 hw
        · replace hw := hw.1 c154
          refine h.sub (pc := 157) [2, 3, 4, 5, 6, 7, 8, 9, 10, 11, 12, 1, 0] (lv' := [(0, .ref (gA G (0, 0, 0))), (2, .int v2), (3, .ref (gA G (28, 0, 0))), (4, .ref (gA G (29, 0, 0))), (5, .int v5), (6, .int v6), (7, .int v7), (9, .int v9), (10, .int v10), (11, .int v11), (12, .int v12), (13, .int r126), (14, .int r135)]) rfl ?_
          exact l_L_isLaid_L157 h hG hr v1 v2 hk28 hk29 v5 v6 v7 v9 v10 v11 v12 r126 r135 ih hX M149 hw
def wp_L_isLaid_L454 (v1 : Int32) (v2 : Int32) (B : Int32 → Int32 → Mem → Prop) (X : Mem → Prop) (Q : Int32 → Mem → Prop) (v6 : Int32) (v9 : Int32) (v10 : Int32) (v11 : Int32) (v12 : Int32) (v13 : Int32) (v14 : Int32) (M : Mem) : Prop := (wp_L_isTogether v13 v6 v2 M (fun r472 M472 => ((r472 = 0 → Q 0 M472) ∧ (¬ (r472 = 0) → B (if v12 < v14 then v14 else v12) (v13 + 1) M472))))
set_option maxHeartbeats 4000000 in
set_option maxRecDepth 100000 in
theorem l_L_isLaid_L454 {l : Launch} {G : GG} {Z : ZT} (h : AX l G cL_isLaid 17 RL wsL_isLaid F_L_isLaid L_L_isLaid Z) (hG : GoodG G) {Q : Int32 → Mem → Prop} (hr : RETz cL_isLaid Q Z) (v1 : Int32) (v2 : Int32) (hk28 : (28, 0, 0) ∈ KS G) (hk29 : (29, 0, 0) ∈ KS G) (v6 : Int32) (v9 : Int32) (v10 : Int32) (v11 : Int32) (v12 : Int32) (v13 : Int32) (v14 : Int32)  {B : Int32 → Int32 → Mem → Prop} (hB : ∀ (v12 : Int32) (v13 : Int32) (M : Mem), B v12 v13 M → Z 385 [(0, .ref (gA G (0, 0, 0))), (2, .int v2), (3, .ref (gA G (28, 0, 0))), (4, .ref (gA G (29, 0, 0))), (6, .int v6), (9, .int v9), (10, .int v10), (11, .int v11), (12, .int v12), (13, .int v13)] [] M) {X : Mem → Prop} (hX : ∀  (M : Mem), X  M → Z 486 [(0, .ref (gA G (0, 0, 0))), (3, .ref (gA G (28, 0, 0))), (6, .int v6), (9, .int v9), (10, .int v10), (11, .int v11)] [] M) (M : Mem) (hw : wp_L_isLaid_L454 v1 v2 B X Q v6 v9 v10 v11 v12 v13 v14 M) : Z 454 [(0, .ref (gA G (0, 0, 0))), (2, .int v2), (3, .ref (gA G (28, 0, 0))), (4, .ref (gA G (29, 0, 0))), (6, .int v6), (9, .int v9), (10, .int v10), (11, .int v11), (12, .int v12), (13, .int v13), (14, .int v14)] [] M := by
  unfold wp_L_isLaid_L454 at hw
  refine h.iload (pc := 454) dL_isLaid_454 8 rfl ?_
  refine h.iload (pc := 456) dL_isLaid_456 10 rfl ?_
  refine h.mmax (pc := 458) (st := []) kML_isLaid_1_max_90 kML_isLaid_2_max kML_isLaid_3 kML_isLaid_4_max (by decide) (Nat.le_of_ble_eq_true rfl) dL_isLaid_458 ?_
  refine h.istore (pc := 461) [(12, .int (if v12 < v14 then v14 else v12)), (0, .ref (gA G (0, 0, 0))), (2, .int v2), (3, .ref (gA G (28, 0, 0))), (4, .ref (gA G (29, 0, 0))), (6, .int v6), (9, .int v9), (10, .int v10), (11, .int v11), (13, .int v13), (14, .int v14)] dL_isLaid_461 (by decide) rfl ?_
  refine h.aload_n (pc := 463) dL_isLaid_463 rfl 1 rfl ?_
  refine h.iload (pc := 464) dL_isLaid_464 9 rfl ?_
  refine h.iload (pc := 466) dL_isLaid_466 5 rfl ?_
  refine h.iload_n (pc := 468) dL_isLaid_468 rfl 2 rfl ?_
  refine h.aload_n (pc := 469) dL_isLaid_469 rfl 3 rfl ?_
  refine h.aload (pc := 470) dL_isLaid_470 4 rfl ?_
  refine h.cSi (pc := 472) [.ref (gA G (0, 0, 0)), .int v13, .int v6, .int v2, .ref (gA G (28, 0, 0)), .ref (gA G (29, 0, 0))] [] (m_L_isTogether hG hk28 hk29 hw) gL_isLaid_L_isTogether rfl hd_L_isTogether (by decide) rfl rfl (Nat.le_of_ble_eq_true rfl) dL_isLaid_472 (fun r472 M472 hw => ?_)
  refine h.if_ne (pc := 475) 480 dL_isLaid_475 (by decide) (fun c475 => ?_) (fun c475 => ?_)
  · replace hw := hw.2 c475
    refine h.iinc (pc := 480) [(13, .int (v13 + 1)), (12, .int (if v12 < v14 then v14 else v12)), (0, .ref (gA G (0, 0, 0))), (2, .int v2), (3, .ref (gA G (28, 0, 0))), (4, .ref (gA G (29, 0, 0))), (6, .int v6), (9, .int v9), (10, .int v10), (11, .int v11), (14, .int v14)] dL_isLaid_480 9 rfl (inc_ (by decide)) (by decide) rfl ?_
    refine h.goto (pc := 483) 385 dL_isLaid_483 (by decide) ?_
    refine h.sub (pc := 385) [2, 3, 4, 5, 6, 7, 8, 9, 1, 0] (lv' := [(0, .ref (gA G (0, 0, 0))), (2, .int v2), (3, .ref (gA G (28, 0, 0))), (4, .ref (gA G (29, 0, 0))), (6, .int v6), (9, .int v9), (10, .int v10), (11, .int v11), (12, .int (if v12 < v14 then v14 else v12)), (13, .int (v13 + 1))]) rfl ?_
    exact hB (if v12 < v14 then v14 else v12) (v13 + 1) M472 hw
  · replace hw := hw.1 c475
    refine h.iconst (pc := 478) (v := 0) dL_isLaid_478 (by decide) ?_
    exact hr _ _ _ _ dL_isLaid_479 zb_0 hw
def wp_L_isLaid_L423 (v1 : Int32) (v2 : Int32) (B : Int32 → Int32 → Mem → Prop) (X : Mem → Prop) (Q : Int32 → Mem → Prop) (v6 : Int32) (v9 : Int32) (v10 : Int32) (v11 : Int32) (v12 : Int32) (v13 : Int32) (v14 : Int32) (t0 : Int32) (t1 : Int32) (M : Mem) : Prop := ((t1 = t0 → (vp_in v13 30 ∧ (((M 28 0 0 v13.toNatClampNeg) ≤ 0 → wp_L_isLaid_L454 v1 v2 B X Q v6 v9 v10 v11 v12 v13 v14 M) ∧ (¬ ((M 28 0 0 v13.toNatClampNeg) ≤ 0) → (wp_X4_ofRow v13 1 M (fun r439 M439 => ((v14 < r439 → Q 0 M439) ∧ (¬ (v14 < r439) → ((v12 ≤ v14 → wp_L_isLaid_L454 v1 v2 B X Q v6 v9 v10 v11 v12 v13 v14 M439) ∧ (¬ (v12 ≤ v14) → Q 0 M439)))))))))) ∧ (¬ (t1 = t0) → Q 0 M))
set_option maxHeartbeats 4000000 in
set_option maxRecDepth 100000 in
theorem l_L_isLaid_L423 {l : Launch} {G : GG} {Z : ZT} (h : AX l G cL_isLaid 17 RL wsL_isLaid F_L_isLaid L_L_isLaid Z) (hG : GoodG G) {Q : Int32 → Mem → Prop} (hr : RETz cL_isLaid Q Z) (v1 : Int32) (v2 : Int32) (hk28 : (28, 0, 0) ∈ KS G) (hk29 : (29, 0, 0) ∈ KS G) (v6 : Int32) (v9 : Int32) (v10 : Int32) (v11 : Int32) (v12 : Int32) (v13 : Int32) (v14 : Int32) (t0 : Int32) (t1 : Int32)  {B : Int32 → Int32 → Mem → Prop} (hB : ∀ (v12 : Int32) (v13 : Int32) (M : Mem), B v12 v13 M → Z 385 [(0, .ref (gA G (0, 0, 0))), (2, .int v2), (3, .ref (gA G (28, 0, 0))), (4, .ref (gA G (29, 0, 0))), (6, .int v6), (9, .int v9), (10, .int v10), (11, .int v11), (12, .int v12), (13, .int v13)] [] M) {X : Mem → Prop} (hX : ∀  (M : Mem), X  M → Z 486 [(0, .ref (gA G (0, 0, 0))), (3, .ref (gA G (28, 0, 0))), (6, .int v6), (9, .int v9), (10, .int v10), (11, .int v11)] [] M) (M : Mem) (hw : wp_L_isLaid_L423 v1 v2 B X Q v6 v9 v10 v11 v12 v13 v14 t0 t1 M) : Z 423 [(0, .ref (gA G (0, 0, 0))), (2, .int v2), (3, .ref (gA G (28, 0, 0))), (4, .ref (gA G (29, 0, 0))), (6, .int v6), (9, .int v9), (10, .int v10), (11, .int v11), (12, .int v12), (13, .int v13), (14, .int v14)] [.int t0, .int t1] M := by
  unfold wp_L_isLaid_L423 at hw
  refine h.icmp_ne (pc := 423) 452 dL_isLaid_423 (by decide) (fun c423 => ?_) (fun c423 => ?_)
  · replace hw := hw.2 c423
    refine h.iconst (pc := 452) (v := 0) dL_isLaid_452 (by decide) ?_
    exact hr _ _ _ _ dL_isLaid_453 zb_0 hw
  · replace hw := hw.1 c423
    refine h.aload_n (pc := 426) dL_isLaid_426 rfl 2 rfl ?_
    refine h.iload (pc := 427) dL_isLaid_427 9 rfl ?_
    obtain ⟨hj429, hw⟩ := hw
    refine h.iald (pc := 429) (f := 28) (o := 0) (i := 0) (n := 30) hk28 (fun _ => rfl) hj429 dL_isLaid_429 ?_
    refine h.if_le (pc := 430) 454 dL_isLaid_430 (by decide) (fun c430 => ?_) (fun c430 => ?_)
    · replace hw := hw.1 c430
      exact l_L_isLaid_L454 h hG hr v1 v2 hk28 hk29 v6 v9 v10 v11 v12 v13 v14 hB hX M hw
    · replace hw := hw.2 c430
      refine h.iload (pc := 433) dL_isLaid_433 10 rfl ?_
      refine h.aload_n (pc := 435) dL_isLaid_435 rfl 0 rfl ?_
      refine h.iload (pc := 436) dL_isLaid_436 9 rfl ?_
      refine h.iconst (pc := 438) (v := 1) dL_isLaid_438 (by decide) ?_
      refine h.cVi (pc := 439) [.int v13, .int 1] (0, 0, 0) [.int v14] (m_X4_ofRow hG  hw) gL_isLaid_X4_ofRow rfl hd_X4_ofRow (by decide) (k_1 1 (by decide) (by decide)) rfl rfl rfl rfl rfl (Nat.le_of_ble_eq_true rfl) dL_isLaid_439 (fun r439 M439 hw => ?_)
      refine h.icmp_lt (pc := 442) 452 dL_isLaid_442 (by decide) (fun c442 => ?_) (fun c442 => ?_)
      · replace hw := hw.1 c442
        refine h.iconst (pc := 452) (v := 0) dL_isLaid_452 (by decide) ?_
        exact hr _ _ _ _ dL_isLaid_453 zb_0 hw
      · replace hw := hw.2 c442
        refine h.iload (pc := 445) dL_isLaid_445 10 rfl ?_
        refine h.iload (pc := 447) dL_isLaid_447 8 rfl ?_
        refine h.icmp_ge (pc := 449) 454 dL_isLaid_449 (by decide) (fun c449 => ?_) (fun c449 => ?_)
        · replace hw := hw.1 c449
          exact l_L_isLaid_L454 h hG hr v1 v2 hk28 hk29 v6 v9 v10 v11 v12 v13 v14 hB hX M439 hw
        · replace hw := hw.2 c449
          refine h.iconst (pc := 452) (v := 0) dL_isLaid_452 (by decide) ?_
          exact hr _ _ _ _ dL_isLaid_453 zb_0 hw
def wp_L_isLaid_L413 (v1 : Int32) (v2 : Int32) (B : Int32 → Int32 → Mem → Prop) (X : Mem → Prop) (Q : Int32 → Mem → Prop) (v6 : Int32) (v9 : Int32) (v10 : Int32) (v11 : Int32) (v12 : Int32) (v13 : Int32) (v14 : Int32) (t0 : Int32) (M : Mem) : Prop := ((0 ≤ v14 → wp_L_isLaid_L423 v1 v2 B X Q v6 v9 v10 v11 v12 v13 v14 0 t0 M) ∧ (¬ (0 ≤ v14) → wp_L_isLaid_L423 v1 v2 B X Q v6 v9 v10 v11 v12 v13 v14 1 t0 M))
set_option maxHeartbeats 4000000 in
set_option maxRecDepth 100000 in
theorem l_L_isLaid_L413 {l : Launch} {G : GG} {Z : ZT} (h : AX l G cL_isLaid 17 RL wsL_isLaid F_L_isLaid L_L_isLaid Z) (hG : GoodG G) {Q : Int32 → Mem → Prop} (hr : RETz cL_isLaid Q Z) (v1 : Int32) (v2 : Int32) (hk28 : (28, 0, 0) ∈ KS G) (hk29 : (29, 0, 0) ∈ KS G) (v6 : Int32) (v9 : Int32) (v10 : Int32) (v11 : Int32) (v12 : Int32) (v13 : Int32) (v14 : Int32) (t0 : Int32)  {B : Int32 → Int32 → Mem → Prop} (hB : ∀ (v12 : Int32) (v13 : Int32) (M : Mem), B v12 v13 M → Z 385 [(0, .ref (gA G (0, 0, 0))), (2, .int v2), (3, .ref (gA G (28, 0, 0))), (4, .ref (gA G (29, 0, 0))), (6, .int v6), (9, .int v9), (10, .int v10), (11, .int v11), (12, .int v12), (13, .int v13)] [] M) {X : Mem → Prop} (hX : ∀  (M : Mem), X  M → Z 486 [(0, .ref (gA G (0, 0, 0))), (3, .ref (gA G (28, 0, 0))), (6, .int v6), (9, .int v9), (10, .int v10), (11, .int v11)] [] M) (M : Mem) (hw : wp_L_isLaid_L413 v1 v2 B X Q v6 v9 v10 v11 v12 v13 v14 t0 M) : Z 413 [(0, .ref (gA G (0, 0, 0))), (2, .int v2), (3, .ref (gA G (28, 0, 0))), (4, .ref (gA G (29, 0, 0))), (6, .int v6), (9, .int v9), (10, .int v10), (11, .int v11), (12, .int v12), (13, .int v13), (14, .int v14)] [.int t0] M := by
  unfold wp_L_isLaid_L413 at hw
  refine h.iload (pc := 413) dL_isLaid_413 10 rfl ?_
  refine h.if_ge (pc := 415) 422 dL_isLaid_415 (by decide) (fun c415 => ?_) (fun c415 => ?_)
  · replace hw := hw.1 c415
    refine h.iconst (pc := 422) (v := 0) dL_isLaid_422 (by decide) ?_
    exact l_L_isLaid_L423 h hG hr v1 v2 hk28 hk29 v6 v9 v10 v11 v12 v13 v14 0 t0 hB hX M hw
  · replace hw := hw.2 c415
    refine h.iconst (pc := 418) (v := 1) dL_isLaid_418 (by decide) ?_
    refine h.goto (pc := 419) 423 dL_isLaid_419 (by decide) ?_
    exact l_L_isLaid_L423 h hG hr v1 v2 hk28 hk29 v6 v9 v10 v11 v12 v13 v14 1 t0 hB hX M hw
def wp_L_isLaid_L385 (v1 : Int32) (v2 : Int32) (v6 : Int32) (v9 : Int32) (v10 : Int32) (v11 : Int32) (X : Mem → Prop) (Q : Int32 → Mem → Prop) : Nat → Int32 → Int32 → Mem → Prop
  | 0, _, _, _ => False
  | n + 1, v12, v13, M => ((v6 ≤ v13 → X M) ∧ (¬ (v6 ≤ v13) → (wp_X4_ofRow v13 2 M (fun r396 M396 => (vp_in v13 30 ∧ (((M396 28 0 0 v13.toNatClampNeg) = 0 → wp_L_isLaid_L413 v1 v2 (wp_L_isLaid_L385 v1 v2 v6 v9 v10 v11 X Q n) X Q v6 v9 v10 v11 v12 v13 r396 1 M396) ∧ (¬ ((M396 28 0 0 v13.toNatClampNeg) = 0) → wp_L_isLaid_L413 v1 v2 (wp_L_isLaid_L385 v1 v2 v6 v9 v10 v11 X Q n) X Q v6 v9 v10 v11 v12 v13 r396 0 M396)))))))
set_option maxHeartbeats 4000000 in
set_option maxRecDepth 100000 in
theorem l_L_isLaid_L385 {l : Launch} {G : GG} {Z : ZT} (h : AX l G cL_isLaid 17 RL wsL_isLaid F_L_isLaid L_L_isLaid Z) (hG : GoodG G) {Q : Int32 → Mem → Prop} (hr : RETz cL_isLaid Q Z) (v1 : Int32) (v2 : Int32) (hk28 : (28, 0, 0) ∈ KS G) (hk29 : (29, 0, 0) ∈ KS G) (v6 : Int32) (v9 : Int32) (v10 : Int32) (v11 : Int32)  (X : Mem → Prop) (hX : ∀  (M : Mem), X  M → Z 486 [(0, .ref (gA G (0, 0, 0))), (3, .ref (gA G (28, 0, 0))), (6, .int v6), (9, .int v9), (10, .int v10), (11, .int v11)] [] M) : ∀ (n : Nat) (v12 : Int32) (v13 : Int32) (M : Mem), wp_L_isLaid_L385 v1 v2 v6 v9 v10 v11 X Q n v12 v13 M → Z 385 [(0, .ref (gA G (0, 0, 0))), (2, .int v2), (3, .ref (gA G (28, 0, 0))), (4, .ref (gA G (29, 0, 0))), (6, .int v6), (9, .int v9), (10, .int v10), (11, .int v11), (12, .int v12), (13, .int v13)] [] M := by
  intro n
  induction n with
  | zero => intro v12 v13 M hw; exact hw.elim
  | succ n ih =>
    intro v12 v13 M hw
    unfold wp_L_isLaid_L385 at hw
    refine h.iload (pc := 385) dL_isLaid_385 9 rfl ?_
    refine h.iload (pc := 387) dL_isLaid_387 4 rfl ?_
    refine h.icmp_ge (pc := 389) 486 dL_isLaid_389 (by decide) (fun c389 => ?_) (fun c389 => ?_)
    · replace hw := hw.1 c389
      refine h.sub (pc := 486) [0, 2, 4, 5, 6, 7] (lv' := [(0, .ref (gA G (0, 0, 0))), (3, .ref (gA G (28, 0, 0))), (6, .int v6), (9, .int v9), (10, .int v10), (11, .int v11)]) rfl ?_
      exact hX M hw
    · replace hw := hw.2 c389
      refine h.aload_n (pc := 392) dL_isLaid_392 rfl 0 rfl ?_
      refine h.iload (pc := 393) dL_isLaid_393 9 rfl ?_
      refine h.iconst (pc := 395) (v := 2) dL_isLaid_395 (by decide) ?_
      refine h.cVi (pc := 396) [.int v13, .int 2] (0, 0, 0) [] (m_X4_ofRow hG  hw) gL_isLaid_X4_ofRow rfl hd_X4_ofRow (by decide) (k_1 1 (by decide) (by decide)) rfl rfl rfl rfl rfl (Nat.le_of_ble_eq_true rfl) dL_isLaid_396 (fun r396 M396 hw => ?_)
      refine h.istore (pc := 399) [(14, .int r396), (0, .ref (gA G (0, 0, 0))), (2, .int v2), (3, .ref (gA G (28, 0, 0))), (4, .ref (gA G (29, 0, 0))), (6, .int v6), (9, .int v9), (10, .int v10), (11, .int v11), (12, .int v12), (13, .int v13)] dL_isLaid_399 (by decide) rfl ?_
      refine h.aload_n (pc := 401) dL_isLaid_401 rfl 3 rfl ?_
      refine h.iload (pc := 402) dL_isLaid_402 10 rfl ?_
      obtain ⟨hj404, hw⟩ := hw
      refine h.iald (pc := 404) (f := 28) (o := 0) (i := 0) (n := 30) hk28 (fun _ => rfl) hj404 dL_isLaid_404 ?_
      refine h.if_ne (pc := 405) 412 dL_isLaid_405 (by decide) (fun c405 => ?_) (fun c405 => ?_)
      · replace hw := hw.2 c405
        refine h.iconst (pc := 412) (v := 0) dL_isLaid_412 (by decide) ?_
        refine h.sub (pc := 413) [1, 2, 3, 4, 5, 6, 7, 8, 9, 10, 0] (lv' := [(0, .ref (gA G (0, 0, 0))), (2, .int v2), (3, .ref (gA G (28, 0, 0))), (4, .ref (gA G (29, 0, 0))), (6, .int v6), (9, .int v9), (10, .int v10), (11, .int v11), (12, .int v12), (13, .int v13), (14, .int r396)]) rfl ?_
        exact l_L_isLaid_L413 h hG hr v1 v2 hk28 hk29 v6 v9 v10 v11 v12 v13 r396 0 ih hX M396 hw
      · replace hw := hw.1 c405
        refine h.iconst (pc := 408) (v := 1) dL_isLaid_408 (by decide) ?_
        refine h.goto (pc := 409) 413 dL_isLaid_409 (by decide) ?_
        refine h.sub (pc := 413) [1, 2, 3, 4, 5, 6, 7, 8, 9, 10, 0] (lv' := [(0, .ref (gA G (0, 0, 0))), (2, .int v2), (3, .ref (gA G (28, 0, 0))), (4, .ref (gA G (29, 0, 0))), (6, .int v6), (9, .int v9), (10, .int v10), (11, .int v11), (12, .int v12), (13, .int v13), (14, .int r396)]) rfl ?_
        exact l_L_isLaid_L413 h hG hr v1 v2 hk28 hk29 v6 v9 v10 v11 v12 v13 r396 1 ih hX M396 hw
def wp_L_isLaid_L510 (v1 : Int32) (v2 : Int32) (B : Int32 → Int32 → Mem → Prop) (X : Int32 → Mem → Prop) (Q : Int32 → Mem → Prop) (v6 : Int32) (v9 : Int32) (v10 : Int32) (v13 : Int32) (t0 : Int32) (t1 : Int32) (M : Mem) : Prop := B (t1 - t0) (v13 + 1) M
set_option maxHeartbeats 4000000 in
set_option maxRecDepth 100000 in
theorem l_L_isLaid_L510 {l : Launch} {G : GG} {Z : ZT} (h : AX l G cL_isLaid 17 RL wsL_isLaid F_L_isLaid L_L_isLaid Z) (hG : GoodG G) {Q : Int32 → Mem → Prop} (hr : RETz cL_isLaid Q Z) (v1 : Int32) (v2 : Int32) (hk28 : (28, 0, 0) ∈ KS G) (hk29 : (29, 0, 0) ∈ KS G) (v6 : Int32) (v9 : Int32) (v10 : Int32) (v13 : Int32) (t0 : Int32) (t1 : Int32)  {B : Int32 → Int32 → Mem → Prop} (hB : ∀ (v11 : Int32) (v13 : Int32) (M : Mem), B v11 v13 M → Z 489 [(0, .ref (gA G (0, 0, 0))), (3, .ref (gA G (28, 0, 0))), (6, .int v6), (9, .int v9), (10, .int v10), (11, .int v11), (13, .int v13)] [] M) {X : Int32 → Mem → Prop} (hX : ∀ (v11 : Int32) (M : Mem), X v11 M → Z 519 [(0, .ref (gA G (0, 0, 0))), (6, .int v6), (9, .int v9), (10, .int v10), (11, .int v11)] [] M) (M : Mem) (hw : wp_L_isLaid_L510 v1 v2 B X Q v6 v9 v10 v13 t0 t1 M) : Z 510 [(0, .ref (gA G (0, 0, 0))), (3, .ref (gA G (28, 0, 0))), (6, .int v6), (9, .int v9), (10, .int v10), (13, .int v13)] [.int t0, .int t1] M := by
  unfold wp_L_isLaid_L510 at hw
  refine h.isub (pc := 510) dL_isLaid_510 ?_
  refine h.istore (pc := 511) [(11, .int (t1 - t0)), (0, .ref (gA G (0, 0, 0))), (3, .ref (gA G (28, 0, 0))), (6, .int v6), (9, .int v9), (10, .int v10), (13, .int v13)] dL_isLaid_511 (by decide) rfl ?_
  refine h.iinc (pc := 513) [(13, .int (v13 + 1)), (11, .int (t1 - t0)), (0, .ref (gA G (0, 0, 0))), (3, .ref (gA G (28, 0, 0))), (6, .int v6), (9, .int v9), (10, .int v10)] dL_isLaid_513 6 rfl (inc_ (by decide)) (by decide) rfl ?_
  refine h.goto (pc := 516) 489 dL_isLaid_516 (by decide) ?_
  refine h.sub (pc := 489) [2, 3, 4, 5, 6, 1, 0] (lv' := [(0, .ref (gA G (0, 0, 0))), (3, .ref (gA G (28, 0, 0))), (6, .int v6), (9, .int v9), (10, .int v10), (11, .int (t1 - t0)), (13, .int (v13 + 1))]) rfl ?_
  exact hB (t1 - t0) (v13 + 1) M hw
def wp_L_isLaid_L489 (v1 : Int32) (v2 : Int32) (v6 : Int32) (v9 : Int32) (v10 : Int32) (X : Int32 → Mem → Prop) (Q : Int32 → Mem → Prop) : Nat → Int32 → Int32 → Mem → Prop
  | 0, _, _, _ => False
  | n + 1, v11, v13, M => ((v6 ≤ v13 → X v11 M) ∧ (¬ (v6 ≤ v13) → (vp_in v13 30 ∧ (((M 28 0 0 v13.toNatClampNeg) ≤ 0 → wp_L_isLaid_L510 v1 v2 (wp_L_isLaid_L489 v1 v2 v6 v9 v10 X Q n) X Q v6 v9 v10 v13 0 v11 M) ∧ (¬ ((M 28 0 0 v13.toNatClampNeg) ≤ 0) → wp_L_isLaid_L510 v1 v2 (wp_L_isLaid_L489 v1 v2 v6 v9 v10 X Q n) X Q v6 v9 v10 v13 1 v11 M)))))
set_option maxHeartbeats 4000000 in
set_option maxRecDepth 100000 in
theorem l_L_isLaid_L489 {l : Launch} {G : GG} {Z : ZT} (h : AX l G cL_isLaid 17 RL wsL_isLaid F_L_isLaid L_L_isLaid Z) (hG : GoodG G) {Q : Int32 → Mem → Prop} (hr : RETz cL_isLaid Q Z) (v1 : Int32) (v2 : Int32) (hk28 : (28, 0, 0) ∈ KS G) (hk29 : (29, 0, 0) ∈ KS G) (v6 : Int32) (v9 : Int32) (v10 : Int32)  (X : Int32 → Mem → Prop) (hX : ∀ (v11 : Int32) (M : Mem), X v11 M → Z 519 [(0, .ref (gA G (0, 0, 0))), (6, .int v6), (9, .int v9), (10, .int v10), (11, .int v11)] [] M) : ∀ (n : Nat) (v11 : Int32) (v13 : Int32) (M : Mem), wp_L_isLaid_L489 v1 v2 v6 v9 v10 X Q n v11 v13 M → Z 489 [(0, .ref (gA G (0, 0, 0))), (3, .ref (gA G (28, 0, 0))), (6, .int v6), (9, .int v9), (10, .int v10), (11, .int v11), (13, .int v13)] [] M := by
  intro n
  induction n with
  | zero => intro v11 v13 M hw; exact hw.elim
  | succ n ih =>
    intro v11 v13 M hw
    unfold wp_L_isLaid_L489 at hw
    refine h.iload (pc := 489) dL_isLaid_489 6 rfl ?_
    refine h.iload (pc := 491) dL_isLaid_491 2 rfl ?_
    refine h.icmp_ge (pc := 493) 519 dL_isLaid_493 (by decide) (fun c493 => ?_) (fun c493 => ?_)
    · replace hw := hw.1 c493
      refine h.sub (pc := 519) [0, 2, 3, 4, 5] (lv' := [(0, .ref (gA G (0, 0, 0))), (6, .int v6), (9, .int v9), (10, .int v10), (11, .int v11)]) rfl ?_
      exact hX v11 M hw
    · replace hw := hw.2 c493
      refine h.iload (pc := 496) dL_isLaid_496 5 rfl ?_
      refine h.aload_n (pc := 498) dL_isLaid_498 rfl 1 rfl ?_
      refine h.iload (pc := 499) dL_isLaid_499 6 rfl ?_
      obtain ⟨hj501, hw⟩ := hw
      refine h.iald (pc := 501) (f := 28) (o := 0) (i := 0) (n := 30) hk28 (fun _ => rfl) hj501 dL_isLaid_501 ?_
      refine h.if_le (pc := 502) 509 dL_isLaid_502 (by decide) (fun c502 => ?_) (fun c502 => ?_)
      · replace hw := hw.1 c502
        refine h.iconst (pc := 509) (v := 0) dL_isLaid_509 (by decide) ?_
        refine h.sub (pc := 510) [0, 1, 2, 3, 4, 6] (lv' := [(0, .ref (gA G (0, 0, 0))), (3, .ref (gA G (28, 0, 0))), (6, .int v6), (9, .int v9), (10, .int v10), (13, .int v13)]) rfl ?_
        exact l_L_isLaid_L510 h hG hr v1 v2 hk28 hk29 v6 v9 v10 v13 0 v11 ih hX M hw
      · replace hw := hw.2 c502
        refine h.iconst (pc := 505) (v := 1) dL_isLaid_505 (by decide) ?_
        refine h.goto (pc := 506) 510 dL_isLaid_506 (by decide) ?_
        refine h.sub (pc := 510) [0, 1, 2, 3, 4, 6] (lv' := [(0, .ref (gA G (0, 0, 0))), (3, .ref (gA G (28, 0, 0))), (6, .int v6), (9, .int v9), (10, .int v10), (13, .int v13)]) rfl ?_
        exact l_L_isLaid_L510 h hG hr v1 v2 hk28 hk29 v6 v9 v10 v13 1 v11 ih hX M hw
def wp_L_isLaid_L519 (v1 : Int32) (v2 : Int32)  (Q : Int32 → Mem → Prop) (v6 : Int32) (v9 : Int32) (v10 : Int32) (v11 : Int32) (M : Mem) : Prop := ((v9 = v6 → (wp_X4_many 5 M (fun r530 M530 => ((v10 = r530 → ((v11 = 0 → Q 1 M530) ∧ (¬ (v11 = 0) → Q 0 M530))) ∧ (¬ (v10 = r530) → Q 0 M530))))) ∧ (¬ (v9 = v6) → Q 0 M))
set_option maxHeartbeats 4000000 in
set_option maxRecDepth 100000 in
theorem l_L_isLaid_L519 {l : Launch} {G : GG} {Z : ZT} (h : AX l G cL_isLaid 17 RL wsL_isLaid F_L_isLaid L_L_isLaid Z) (hG : GoodG G) {Q : Int32 → Mem → Prop} (hr : RETz cL_isLaid Q Z) (v1 : Int32) (v2 : Int32) (hk28 : (28, 0, 0) ∈ KS G) (hk29 : (29, 0, 0) ∈ KS G) (v6 : Int32) (v9 : Int32) (v10 : Int32) (v11 : Int32)  (M : Mem) (hw : wp_L_isLaid_L519 v1 v2 Q v6 v9 v10 v11 M) : Z 519 [(0, .ref (gA G (0, 0, 0))), (6, .int v6), (9, .int v9), (10, .int v10), (11, .int v11)] [] M := by
  unfold wp_L_isLaid_L519 at hw
  refine h.iload (pc := 519) dL_isLaid_519 2 rfl ?_
  refine h.iload (pc := 521) dL_isLaid_521 1 rfl ?_
  refine h.icmp_ne (pc := 523) 545 dL_isLaid_523 (by decide) (fun c523 => ?_) (fun c523 => ?_)
  · replace hw := hw.2 c523
    refine h.iconst (pc := 545) (v := 0) dL_isLaid_545 (by decide) ?_
    exact hr _ _ _ _ dL_isLaid_546 zb_0 hw
  · replace hw := hw.1 c523
    refine h.iload (pc := 526) dL_isLaid_526 3 rfl ?_
    refine h.aload_n (pc := 528) dL_isLaid_528 rfl 0 rfl ?_
    refine h.iconst (pc := 529) (v := 5) dL_isLaid_529 (by decide) ?_
    refine h.cVi (pc := 530) [.int 5] (0, 0, 0) [.int v10] (m_X4_many hG  hw) gL_isLaid_X4_many rfl hd_X4_many (by decide) (k_1 1 (by decide) (by decide)) rfl rfl rfl rfl rfl (Nat.le_of_ble_eq_true rfl) dL_isLaid_530 (fun r530 M530 hw => ?_)
    refine h.icmp_ne (pc := 533) 545 dL_isLaid_533 (by decide) (fun c533 => ?_) (fun c533 => ?_)
    · replace hw := hw.2 c533
      refine h.iconst (pc := 545) (v := 0) dL_isLaid_545 (by decide) ?_
      exact hr _ _ _ _ dL_isLaid_546 zb_0 hw
    · replace hw := hw.1 c533
      refine h.iload (pc := 536) dL_isLaid_536 4 rfl ?_
      refine h.if_ne (pc := 538) 545 dL_isLaid_538 (by decide) (fun c538 => ?_) (fun c538 => ?_)
      · replace hw := hw.2 c538
        refine h.iconst (pc := 545) (v := 0) dL_isLaid_545 (by decide) ?_
        exact hr _ _ _ _ dL_isLaid_546 zb_0 hw
      · replace hw := hw.1 c538
        refine h.iconst (pc := 541) (v := 1) dL_isLaid_541 (by decide) ?_
        refine h.goto (pc := 542) 546 dL_isLaid_542 (by decide) ?_
        exact hr _ _ _ _ dL_isLaid_546 zb_1 hw
def wp_L_isLaid_L486 (v1 : Int32) (v2 : Int32)  (Q : Int32 → Mem → Prop) (v6 : Int32) (v9 : Int32) (v10 : Int32) (v11 : Int32) (M : Mem) : Prop := ∃ n489, wp_L_isLaid_L489 v1 v2 v6 v9 v10 (fun v11 M => wp_L_isLaid_L519 v1 v2 Q v6 v9 v10 v11 M) Q n489 v11 0 M
set_option maxHeartbeats 4000000 in
set_option maxRecDepth 100000 in
theorem l_L_isLaid_L486 {l : Launch} {G : GG} {Z : ZT} (h : AX l G cL_isLaid 17 RL wsL_isLaid F_L_isLaid L_L_isLaid Z) (hG : GoodG G) {Q : Int32 → Mem → Prop} (hr : RETz cL_isLaid Q Z) (v1 : Int32) (v2 : Int32) (hk28 : (28, 0, 0) ∈ KS G) (hk29 : (29, 0, 0) ∈ KS G) (v6 : Int32) (v9 : Int32) (v10 : Int32) (v11 : Int32)  (M : Mem) (hw : wp_L_isLaid_L486 v1 v2 Q v6 v9 v10 v11 M) : Z 486 [(0, .ref (gA G (0, 0, 0))), (3, .ref (gA G (28, 0, 0))), (6, .int v6), (9, .int v9), (10, .int v10), (11, .int v11)] [] M := by
  unfold wp_L_isLaid_L486 at hw
  refine h.iconst (pc := 486) (v := 0) dL_isLaid_486 (by decide) ?_
  refine h.istore (pc := 487) [(13, .int 0), (0, .ref (gA G (0, 0, 0))), (3, .ref (gA G (28, 0, 0))), (6, .int v6), (9, .int v9), (10, .int v10), (11, .int v11)] dL_isLaid_487 (by decide) rfl ?_
  refine h.sub (pc := 489) [1, 2, 3, 4, 5, 6, 0] (lv' := [(0, .ref (gA G (0, 0, 0))), (3, .ref (gA G (28, 0, 0))), (6, .int v6), (9, .int v9), (10, .int v10), (11, .int v11), (13, .int 0)]) rfl ?_
  obtain ⟨n489, hw⟩ := hw
  exact l_L_isLaid_L489 h hG hr v1 v2 hk28 hk29 v6 v9 v10 _ (fun v11 M hw => by
      exact l_L_isLaid_L519 h hG hr v1 v2 hk28 hk29 v6 v9 v10 v11 M hw) n489 v11 0 M hw
def wp_L_isLaid_L379 (v1 : Int32) (v2 : Int32)  (Q : Int32 → Mem → Prop) (v6 : Int32) (v9 : Int32) (v10 : Int32) (v11 : Int32) (M : Mem) : Prop := ∃ n385, wp_L_isLaid_L385 v1 v2 v6 v9 v10 v11 (fun M => wp_L_isLaid_L486 v1 v2 Q v6 v9 v10 v11 M) Q n385 0 0 M
set_option maxHeartbeats 4000000 in
set_option maxRecDepth 100000 in
theorem l_L_isLaid_L379 {l : Launch} {G : GG} {Z : ZT} (h : AX l G cL_isLaid 17 RL wsL_isLaid F_L_isLaid L_L_isLaid Z) (hG : GoodG G) {Q : Int32 → Mem → Prop} (hr : RETz cL_isLaid Q Z) (v1 : Int32) (v2 : Int32) (hk28 : (28, 0, 0) ∈ KS G) (hk29 : (29, 0, 0) ∈ KS G) (v6 : Int32) (v9 : Int32) (v10 : Int32) (v11 : Int32)  (M : Mem) (hw : wp_L_isLaid_L379 v1 v2 Q v6 v9 v10 v11 M) : Z 379 [(0, .ref (gA G (0, 0, 0))), (2, .int v2), (3, .ref (gA G (28, 0, 0))), (4, .ref (gA G (29, 0, 0))), (6, .int v6), (9, .int v9), (10, .int v10), (11, .int v11)] [] M := by
  unfold wp_L_isLaid_L379 at hw
  refine h.iconst (pc := 379) (v := 0) dL_isLaid_379 (by decide) ?_
  refine h.istore (pc := 380) [(12, .int 0), (0, .ref (gA G (0, 0, 0))), (2, .int v2), (3, .ref (gA G (28, 0, 0))), (4, .ref (gA G (29, 0, 0))), (6, .int v6), (9, .int v9), (10, .int v10), (11, .int v11)] dL_isLaid_380 (by decide) rfl ?_
  refine h.iconst (pc := 382) (v := 0) dL_isLaid_382 (by decide) ?_
  refine h.istore (pc := 383) [(13, .int 0), (12, .int 0), (0, .ref (gA G (0, 0, 0))), (2, .int v2), (3, .ref (gA G (28, 0, 0))), (4, .ref (gA G (29, 0, 0))), (6, .int v6), (9, .int v9), (10, .int v10), (11, .int v11)] dL_isLaid_383 (by decide) rfl ?_
  refine h.sub (pc := 385) [2, 3, 4, 5, 6, 7, 8, 9, 1, 0] (lv' := [(0, .ref (gA G (0, 0, 0))), (2, .int v2), (3, .ref (gA G (28, 0, 0))), (4, .ref (gA G (29, 0, 0))), (6, .int v6), (9, .int v9), (10, .int v10), (11, .int v11), (12, .int 0), (13, .int 0)]) rfl ?_
  obtain ⟨n385, hw⟩ := hw
  exact l_L_isLaid_L385 h hG hr v1 v2 hk28 hk29 v6 v9 v10 v11 _ (fun M hw => by
      exact l_L_isLaid_L486 h hG hr v1 v2 hk28 hk29 v6 v9 v10 v11 M hw) n385 0 0 M hw
def wp_L_isLaid_L85 (v1 : Int32) (v2 : Int32)  (Q : Int32 → Mem → Prop) (v5 : Int32) (v6 : Int32) (v7 : Int32) (v8 : Int32) (M : Mem) : Prop := (wp_X4_many 4 M (fun r89 M89 => ((v8 = r89 → ((v8 ≤ v1 → ∃ n115, wp_L_isLaid_L115 v1 v2 v5 v6 v7 (fun v9 v10 v11 M => wp_L_isLaid_L379 v1 v2 Q v6 v9 v10 v11 M) Q n115 0 0 0 0 M89) ∧ (¬ (v8 ≤ v1) → Q 0 M89))) ∧ (¬ (v8 = r89) → Q 0 M89))))
set_option maxHeartbeats 4000000 in
set_option maxRecDepth 100000 in
theorem l_L_isLaid_L85 {l : Launch} {G : GG} {Z : ZT} (h : AX l G cL_isLaid 17 RL wsL_isLaid F_L_isLaid L_L_isLaid Z) (hG : GoodG G) {Q : Int32 → Mem → Prop} (hr : RETz cL_isLaid Q Z) (v1 : Int32) (v2 : Int32) (hk28 : (28, 0, 0) ∈ KS G) (hk29 : (29, 0, 0) ∈ KS G) (v5 : Int32) (v6 : Int32) (v7 : Int32) (v8 : Int32)  (M : Mem) (hw : wp_L_isLaid_L85 v1 v2 Q v5 v6 v7 v8 M) : Z 85 [(0, .ref (gA G (0, 0, 0))), (1, .int v1), (2, .int v2), (3, .ref (gA G (28, 0, 0))), (4, .ref (gA G (29, 0, 0))), (5, .int v5), (6, .int v6), (7, .int v7), (8, .int v8)] [] M := by
  unfold wp_L_isLaid_L85 at hw
  refine h.iload (pc := 85) dL_isLaid_85 8 rfl ?_
  refine h.aload_n (pc := 87) dL_isLaid_87 rfl 0 rfl ?_
  refine h.iconst (pc := 88) (v := 4) dL_isLaid_88 (by decide) ?_
  refine h.cVi (pc := 89) [.int 4] (0, 0, 0) [.int v8] (m_X4_many hG  hw) gL_isLaid_X4_many rfl hd_X4_many (by decide) (k_1 1 (by decide) (by decide)) rfl rfl rfl rfl rfl (Nat.le_of_ble_eq_true rfl) dL_isLaid_89 (fun r89 M89 hw => ?_)
  refine h.icmp_ne (pc := 92) 101 dL_isLaid_92 (by decide) (fun c92 => ?_) (fun c92 => ?_)
  · replace hw := hw.2 c92
    refine h.iconst (pc := 101) (v := 0) dL_isLaid_101 (by decide) ?_
    exact hr _ _ _ _ dL_isLaid_102 zb_0 hw
  · replace hw := hw.1 c92
    refine h.iload (pc := 95) dL_isLaid_95 8 rfl ?_
    refine h.iload_n (pc := 97) dL_isLaid_97 rfl 1 rfl ?_
    refine h.icmp_le (pc := 98) 103 dL_isLaid_98 (by decide) (fun c98 => ?_) (fun c98 => ?_)
    · replace hw := hw.1 c98
      refine h.iconst (pc := 103) (v := 0) dL_isLaid_103 (by decide) ?_
      refine h.istore (pc := 104) [(9, .int 0), (0, .ref (gA G (0, 0, 0))), (1, .int v1), (2, .int v2), (3, .ref (gA G (28, 0, 0))), (4, .ref (gA G (29, 0, 0))), (5, .int v5), (6, .int v6), (7, .int v7), (8, .int v8)] dL_isLaid_104 (by decide) rfl ?_
      refine h.iconst (pc := 106) (v := 0) dL_isLaid_106 (by decide) ?_
      refine h.istore (pc := 107) [(10, .int 0), (9, .int 0), (0, .ref (gA G (0, 0, 0))), (1, .int v1), (2, .int v2), (3, .ref (gA G (28, 0, 0))), (4, .ref (gA G (29, 0, 0))), (5, .int v5), (6, .int v6), (7, .int v7), (8, .int v8)] dL_isLaid_107 (by decide) rfl ?_
      refine h.iconst (pc := 109) (v := 0) dL_isLaid_109 (by decide) ?_
      refine h.istore (pc := 110) [(11, .int 0), (10, .int 0), (9, .int 0), (0, .ref (gA G (0, 0, 0))), (1, .int v1), (2, .int v2), (3, .ref (gA G (28, 0, 0))), (4, .ref (gA G (29, 0, 0))), (5, .int v5), (6, .int v6), (7, .int v7), (8, .int v8)] dL_isLaid_110 (by decide) rfl ?_
      refine h.iconst (pc := 112) (v := 0) dL_isLaid_112 (by decide) ?_
      refine h.istore (pc := 113) [(12, .int 0), (11, .int 0), (10, .int 0), (9, .int 0), (0, .ref (gA G (0, 0, 0))), (1, .int v1), (2, .int v2), (3, .ref (gA G (28, 0, 0))), (4, .ref (gA G (29, 0, 0))), (5, .int v5), (6, .int v6), (7, .int v7), (8, .int v8)] dL_isLaid_113 (by decide) rfl ?_
      refine h.sub (pc := 115) [4, 6, 7, 8, 9, 10, 11, 3, 2, 1, 0] (lv' := [(0, .ref (gA G (0, 0, 0))), (2, .int v2), (3, .ref (gA G (28, 0, 0))), (4, .ref (gA G (29, 0, 0))), (5, .int v5), (6, .int v6), (7, .int v7), (9, .int 0), (10, .int 0), (11, .int 0), (12, .int 0)]) rfl ?_
      obtain ⟨n115, hw⟩ := hw
      exact l_L_isLaid_L115 h hG hr v1 v2 hk28 hk29 v5 v6 v7 _ (fun v9 v10 v11 M hw => by
          exact l_L_isLaid_L379 h hG hr v1 v2 hk28 hk29 v6 v9 v10 v11 M hw) n115 0 0 0 0 M89 hw
    · replace hw := hw.2 c98
      refine h.iconst (pc := 101) (v := 0) dL_isLaid_101 (by decide) ?_
      exact hr _ _ _ _ dL_isLaid_102 zb_0 hw
def wp_L_isLaid (v1 : Int32) (v2 : Int32) (M : Mem) (Q : Int32 → Mem → Prop) : Prop := (wp_X4_many 0 M (fun r2 M2 => (wp_X4_many 1 M2 (fun r9 M9 => (wp_X4_many 2 M9 (fun r16 M16 => ∃ n30, wp_L_isLaid_L30 v1 v2 r2 r9 r16 (fun v8 M => wp_L_isLaid_L85 v1 v2 Q r2 r9 r16 v8 M) Q n30 (r2 - 1) 0 M16))))))
set_option maxHeartbeats 4000000 in
set_option maxRecDepth 100000 in
theorem m_L_isLaid {l : Launch} {G : GG} (hG : GoodG G) {v1 : Int32} {v2 : Int32}  {M : Mem} {Q : Int32 → Mem → Prop} (hk28 : (28, 0, 0) ∈ KS G) (hk29 : (29, 0, 0) ∈ KS G) (hw : wp_L_isLaid v1 v2 M Q) : CTi l G yL_isLaid wsL_isLaid F_L_isLaid L_L_isLaid [.ref (gA G (0, 0, 0)), .int v1, .int v2, .ref (gA G (28, 0, 0)), .ref (gA G (29, 0, 0))] M Q := by
  refine CTz_mk hG (by decide +kernel) rfl (Nat.le_of_ble_eq_true rfl) (fun Z (h : AX l G cL_isLaid 17 RL wsL_isLaid F_L_isLaid L_L_isLaid Z) hr => ?_)
  show Z 0 [(0, .ref (gA G (0, 0, 0))), (1, .int v1), (2, .int v2), (3, .ref (gA G (28, 0, 0))), (4, .ref (gA G (29, 0, 0)))] [] M
  unfold wp_L_isLaid at hw
  refine h.aload_n (pc := 0) dL_isLaid_0 rfl 0 rfl ?_
  refine h.iconst (pc := 1) (v := 0) dL_isLaid_1 (by decide) ?_
  refine h.cVi (pc := 2) [.int 0] (0, 0, 0) [] (m_X4_many hG  hw) gL_isLaid_X4_many rfl hd_X4_many (by decide) (k_1 1 (by decide) (by decide)) rfl rfl rfl rfl rfl (Nat.le_of_ble_eq_true rfl) dL_isLaid_2 (fun r2 M2 hw => ?_)
  refine h.istore (pc := 5) [(5, .int r2), (0, .ref (gA G (0, 0, 0))), (1, .int v1), (2, .int v2), (3, .ref (gA G (28, 0, 0))), (4, .ref (gA G (29, 0, 0)))] dL_isLaid_5 (by decide) rfl ?_
  refine h.aload_n (pc := 7) dL_isLaid_7 rfl 1 rfl ?_
  refine h.iconst (pc := 8) (v := 1) dL_isLaid_8 (by decide) ?_
  refine h.cVi (pc := 9) [.int 1] (0, 0, 0) [] (m_X4_many hG  hw) gL_isLaid_X4_many rfl hd_X4_many (by decide) (k_1 1 (by decide) (by decide)) rfl rfl rfl rfl rfl (Nat.le_of_ble_eq_true rfl) dL_isLaid_9 (fun r9 M9 hw => ?_)
  refine h.istore (pc := 12) [(6, .int r9), (5, .int r2), (0, .ref (gA G (0, 0, 0))), (1, .int v1), (2, .int v2), (3, .ref (gA G (28, 0, 0))), (4, .ref (gA G (29, 0, 0)))] dL_isLaid_12 (by decide) rfl ?_
  refine h.aload_n (pc := 14) dL_isLaid_14 rfl 2 rfl ?_
  refine h.iconst (pc := 15) (v := 2) dL_isLaid_15 (by decide) ?_
  refine h.cVi (pc := 16) [.int 2] (0, 0, 0) [] (m_X4_many hG  hw) gL_isLaid_X4_many rfl hd_X4_many (by decide) (k_1 1 (by decide) (by decide)) rfl rfl rfl rfl rfl (Nat.le_of_ble_eq_true rfl) dL_isLaid_16 (fun r16 M16 hw => ?_)
  refine h.istore (pc := 19) [(7, .int r16), (6, .int r9), (5, .int r2), (0, .ref (gA G (0, 0, 0))), (1, .int v1), (2, .int v2), (3, .ref (gA G (28, 0, 0))), (4, .ref (gA G (29, 0, 0)))] dL_isLaid_19 (by decide) rfl ?_
  refine h.iload (pc := 21) dL_isLaid_21 2 rfl ?_
  refine h.iconst (pc := 23) (v := 1) dL_isLaid_23 (by decide) ?_
  refine h.isub (pc := 24) dL_isLaid_24 ?_
  refine h.istore (pc := 25) [(8, .int (r2 - 1)), (7, .int r16), (6, .int r9), (5, .int r2), (0, .ref (gA G (0, 0, 0))), (1, .int v1), (2, .int v2), (3, .ref (gA G (28, 0, 0))), (4, .ref (gA G (29, 0, 0)))] dL_isLaid_25 (by decide) rfl ?_
  refine h.iconst (pc := 27) (v := 0) dL_isLaid_27 (by decide) ?_
  refine h.istore (pc := 28) [(9, .int 0), (8, .int (r2 - 1)), (7, .int r16), (6, .int r9), (5, .int r2), (0, .ref (gA G (0, 0, 0))), (1, .int v1), (2, .int v2), (3, .ref (gA G (28, 0, 0))), (4, .ref (gA G (29, 0, 0)))] dL_isLaid_28 (by decide) rfl ?_
  refine h.sub (pc := 30) [5, 6, 7, 8, 9, 4, 3, 2, 1, 0] (lv' := [(0, .ref (gA G (0, 0, 0))), (1, .int v1), (2, .int v2), (3, .ref (gA G (28, 0, 0))), (4, .ref (gA G (29, 0, 0))), (5, .int r2), (6, .int r9), (7, .int r16), (8, .int (r2 - 1)), (9, .int 0)]) rfl ?_
  obtain ⟨n30, hw⟩ := hw
  exact l_L_isLaid_L30 h hG hr v1 v2 hk28 hk29 r2 r9 r16 _ (fun v8 M hw => by
      exact l_L_isLaid_L85 h hG hr v1 v2 hk28 hk29 r2 r9 r16 v8 M hw) n30 (r2 - 1) 0 M16 hw
