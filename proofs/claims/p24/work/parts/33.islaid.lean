/-! isLaid() is true of what is laid out. -/
theorem sumN_sR {f : Nat → Int32} {h : Nat → Nat} {R : Nat} (e : ∀ r, r < R → f r = nI (h r)) : ∀ n, n ≤ R → sumN f n = nI (sR h 0 n)
  | 0, _ => rfl
  | n + 1, hn => by
    show sumN f n + f n = nI (sR h 0 n + h (0 + n))
    rw [sumN_sR e n (by omega), e n (by omega), nI_add, Nat.zero_add]
theorem il_rows {C R W H rm w P p l : Nat} {v1 v2 v5 v6 v7 v11 : Int32} {M : Mem} {X : Int32 → Int32 → Mem → Prop} {Q : Int32 → Mem → Prop} {nt h : Nat → Nat} {kp : Nat → Bool} {B N : Nat → Nat} (hI : Inv C R W H M) (hF : Fresh C R W H M) (hD : LD C R rm w P M nt h kp B N) (hp : p < P)
    (hX : X (nI (sR h 0 (B (p + 1)))) (nI (l + sR h (B p) (B (p + 1) - B p))) M) : ∃ n, wp_L_isLaid_L181 v1 v2 v5 v6 v7 (nI (B p)) v11 (nI p) (nI (B (p + 1) - B p)) X Q n (nI (sR h 0 (B p))) (nI l) (nI (B p)) M := by
  have hR := hI.1.2.2.2
  obtain ⟨j1, j2, j3, j4, j5, j6, j7, j8, j9, j10, j11, j12, j13⟩ := hD.2.2.2.2.1 p hp
  have eb : nI (B p) + nI (B (p + 1) - B p) = nI (B (p + 1)) := by rw [nI_add, show B p + (B (p + 1) - B p) = B (p + 1) by omega]
  have := up_det (W := fun n i => wp_L_isLaid_L181 v1 v2 v5 v6 v7 (nI (B p)) v11 (nI p) (nI (B (p + 1) - B p)) X Q n (nI (sR h 0 i)) (nI (l + sR h (B p) (i - B p))) (nI i) M) (B p) (B (p + 1)) j1 (fun n => ?_) (fun n i h0 hi ih => ?_)
  · obtain ⟨n, hn⟩ := this
    refine ⟨n, ?_⟩
    rw [Nat.sub_self] at hn
    exact hn
  · unfold wp_L_isLaid_L181
    rw [eb]
    exact ⟨fun _ => hX, fun z => absurd (Int32.le_refl _) z⟩
  · have e := LD_rowF hD i
    have dh := hD.2.2.2.2.2.1 i (by omega)
    unfold wp_L_isLaid_L181
    rw [eb]
    refine ⟨fun z => absurd z (nI_ge (a := i) (b := B (p + 1)) hi (by omega)), fun _ => sp_ofRow hI hF (show i < R by omega) (w := 1) (by decide) ?_⟩
    rw [e.2.1, j10 i h0 hi]
    refine ⟨fun _ => sp_ofRow hI hF (show i < R by omega) (w := 0) (by decide) ?_, fun z => absurd rfl z⟩
    rw [e.1, dh.1]
    have hrm := hD.2.2.2.2.2.2.2.2.2.2.2.2.1
    refine ⟨fun _ => sp_ofRow hI hF (show i < R by omega) (w := 0) (by decide) (sp_ofRow hI hF (show i < R by omega) (w := 0) (by decide) ?_), fun z => absurd (nI_le (a := 1) dh.2.1 (by omega)) z⟩
    rw [e.1, dh.1, nI_add, nI_add, s_nI]
    have e1 : sR h 0 (i + 1) = sR h 0 i + h i := by show sR h 0 i + h (0 + i) = _; rw [Nat.zero_add]
    have e2 := sR_one h h0
    rw [e1, e2, ← Nat.add_assoc] at ih
    exact ih
theorem il_notes {C R W H rm w P p l : Nat} {v1 v2 v5 v7 v9 v10 v11 : Int32} {M : Mem} {X : Int32 → Int32 → Mem → Prop} {Q : Int32 → Mem → Prop} {nt h : Nat → Nat} {kp : Nat → Bool} {B N : Nat → Nat} (hI : Inv C R W H M) (hF : Fresh C R W H M) (hD : LD C R rm w P M nt h kp B N) (hp : p < P)
    (hX : X (nI (l + sR nt (N p) (N (p + 1) - N p))) (nI (sR (pos nt) (N p) (N (p + 1) - N p))) M) : ∃ n, wp_L_isLaid_L259 v1 v2 v5 (nI R) v7 v9 v10 v11 (nI p) X Q n (nI l) 0 0 M := by
  have hR := hI.1.2.2.2
  have hD0 := hD
  obtain ⟨d1, d2, d3, ⟨d4, d5, d6, d7, d8⟩, d9, d10, d11, d12, d13, d14, d15, d16, d17, d18⟩ := hD
  have mN : ∀ p, p < P → N p ≤ N (p + 1) := fun p hp => (d9 p hp).2.2.1
  obtain ⟨j1, j2, j3, j4, j5, j6, j7, j8, j9, j10, j11, j12, j13⟩ := d9 p hp
  have w1 := sR_win (f := nt) (R := R) j3 (by omega)
  have w2 := sR_win (f := pos nt) (R := R) j3 (by omega)
  have := up_det (W := fun n i => wp_L_isLaid_L259 v1 v2 v5 (nI R) v7 v9 v10 v11 (nI p) X Q n (nI (l + sR (win nt (N p) (N (p + 1))) 0 i)) (nI (sR (win (pos nt) (N p) (N (p + 1))) 0 i)) (nI i) M) 0 R (Nat.zero_le _) (fun n => ?_) (fun n i _ hi ih => ?_)
  · exact this
  · unfold wp_L_isLaid_L259
    rw [w1, w2]
    exact ⟨fun _ => hX, fun z => absurd (Int32.le_refl _) z⟩
  · have hii : (nI i).toNatClampNeg = i := ncl (by omega)
    have hvi := vin (n := i) (N := 30) (by omega) (by decide)
    have dn := d11 i hi
    have s1 : sR (win nt (N p) (N (p + 1))) 0 (i + 1) = sR (win nt (N p) (N (p + 1))) 0 i + win nt (N p) (N (p + 1)) i := by show _ + win nt (N p) (N (p + 1)) (0 + i) = _; rw [Nat.zero_add]
    have s2 : sR (win (pos nt) (N p) (N (p + 1))) 0 (i + 1) = sR (win (pos nt) (N p) (N (p + 1))) 0 i + win (pos nt) (N p) (N (p + 1)) i := by show _ + win (pos nt) (N p) (N (p + 1)) (0 + i) = _; rw [Nat.zero_add]
    rw [s1, s2] at ih
    unfold wp_L_isLaid_L259
    rw [hii]
    refine ⟨fun z => absurd z (nI_ge (a := i) (b := R) hi (by omega)), fun _ => ⟨hvi, fun z => ?_, fun z => ?_⟩⟩
    · have z0 : nt i = 0 := nI_inj (by omega) (by omega) (dn.1.symm.trans z)
      have y1 : win nt (N p) (N (p + 1)) i = 0 := by unfold win; split <;> simp [z0]
      have y2 : win (pos nt) (N p) (N (p + 1)) i = 0 := by unfold win; split <;> simp [pos, z0]
      rw [y1, y2] at ih
      unfold wp_L_isLaid_L300
      rw [s_nI]
      exact ih
    · have z0 : ¬ nt i = 0 := fun y => z (by rw [dn.1, y]; rfl)
      have e := (LD_rowF hD0 i).2.2
      refine sp_ofRow hI hF hi (w := 2) (by decide) ?_
      rw [e]
      by_cases y : N p ≤ i ∧ i < N (p + 1)
      · have y1 : win nt (N p) (N (p + 1)) i = nt i := if_pos y
        have y2 : win (pos nt) (N p) (N (p + 1)) i = 1 := by unfold win; rw [if_pos y]; simp [pos, z0]
        rw [y1, y2] at ih
        have en : M 21 (chq M) 0 i = nI p := by rw [j11 i y.1 y.2, if_neg z0]
        refine ⟨fun _ => ⟨hvi, ?_⟩, fun u => absurd en u⟩
        unfold wp_L_isLaid_L300
        rw [dn.1, nI_add, s_nI, s_nI, Nat.add_assoc]
        exact ih
      · have y1 : win nt (N p) (N (p + 1)) i = 0 := if_neg y
        have y2 : win (pos nt) (N p) (N (p + 1)) i = 0 := if_neg y
        rw [y1, y2] at ih
        obtain ⟨p', q1, q2, q3, q4⟩ := LD_note hD0 hi
        rw [if_neg z0] at q4
        refine ⟨fun u => ?_, fun _ => ?_⟩
        · rw [q4] at u
          have := nI_inj (by omega) (by omega) u
          subst this
          exact absurd ⟨q2, q3⟩ y
        · unfold wp_L_isLaid_L300
          rw [s_nI]
          exact ih
theorem il_carry {C R W H rm w P p : Nat} {v1 v2 v6 v7 v10 v11 : Int32} {M : Mem} {X : Mem → Prop} {Q : Int32 → Mem → Prop} {nt h : Nat → Nat} {kp : Nat → Bool} {B N : Nat → Nat} (hI : Inv C R W H M) (hF : Fresh C R W H M) (hD : LD C R rm w P M nt h kp B N) (hp : p < P)
    (hX : X M) : ∃ n, wp_L_isLaid_L336 v1 v2 (nI C) v6 v7 (nI (B (p + 1))) v10 v11 (nI p) X Q n 0 M := by
  have hR := hI.1.2.2.2
  have hC6 := hI.1.2.1
  obtain ⟨d1, d2, d3, ⟨d4, d5, d6, d7, d8⟩, d9, d10⟩ := hD
  have mB : ∀ p, p < P → B p ≤ B (p + 1) := fun p hp => (d9 p hp).1
  obtain ⟨j1, j2, j3, j4, j5, j6, j7, j8, j9, j10, j11, j12, j13⟩ := d9 p hp
  have hb : 0 < B (p + 1) := Nat.lt_of_lt_of_le (d8 (by omega)) (mono_p mB (p + 1) (by omega) (by omega))
  rw [p_nI hb] at j9
  refine up_det (W := fun n i => wp_L_isLaid_L336 v1 v2 (nI C) v6 v7 (nI (B (p + 1))) v10 v11 (nI p) X Q n (nI i) M) 0 C (Nat.zero_le _) (fun n => ?_) (fun n i _ hi ih => ?_)
  · unfold wp_L_isLaid_L336
    exact ⟨fun _ => hX, fun z => absurd (Int32.le_refl _) z⟩
  · unfold wp_L_isLaid_L336
    rw [p_nI hb]
    refine ⟨fun z => absurd z (nI_ge (a := i) (b := C) hi (by omega)), fun _ => sp_carried hI hF d2 hp d3 hi (fun _ => by rw [j9]; exact vin (by omega) (by decide)) (sp_cell hI hF (show B (p + 1) - 1 < R by omega) hi (w := 3) (by decide) ?_)⟩
    have e : caF M (chq M) 0 p i = cellF C M (B (p + 1) - 1) i 3 := by
      unfold caF
      rw [j9]
      rfl
    rw [s_nI]
    exact ⟨fun _ => ih, fun z => absurd e z⟩
theorem il_pages {C R W H rm w P : Nat} {v1 : Int32} {M : Mem} {X : Int32 → Int32 → Int32 → Mem → Prop} {Q : Int32 → Mem → Prop} {nt h : Nat → Nat} {kp : Nat → Bool} {B N : Nat → Nat} (hI : Inv C R W H M) (hF : Fresh C R W H M) (hD : LD C R rm w P M nt h kp B N)
    (hX : X (nI R) (nI (sR h 0 R)) (nI (sR (pos nt) 0 R)) M) : ∃ n, wp_L_isLaid_L115 v1 (nI rm) (nI C) (nI R) (nI P) X Q n 0 0 0 0 M := by
  have hR := hI.1.2.2.2
  have hC6 := hI.1.2.1
  have hD0 := hD
  obtain ⟨d1, d2, d3, ⟨d4, d5, d6, d7, d8⟩, d9, d10, d11, d12, d13, d14, d15, d16, d17, d18⟩ := hD
  have := up_det (W := fun n i => wp_L_isLaid_L115 v1 (nI rm) (nI C) (nI R) (nI P) X Q n (nI (B i)) (nI (sR h 0 (B i))) (nI (sR (pos nt) 0 (N i))) (nI i) M) 0 P (Nat.zero_le _) (fun n => ?_) (fun n p _ hp ih => ?_)
  · obtain ⟨n, hn⟩ := this
    refine ⟨n, ?_⟩
    rw [d4, d5] at hn
    exact hn
  · unfold wp_L_isLaid_L115
    rw [d6, d7]
    exact ⟨fun _ => hX, fun z => absurd (Int32.le_refl _) z⟩
  · obtain ⟨j1, j2, j3, j4, j5, j6, j7, ⟨l, j8, j8'⟩, j9, j10, j11, j12, j13⟩ := d9 p hp
    have e0 : pageF C R M p 0 = M 22 (chq M) 0 p := rfl
    have e1 : pageF C R M p 1 = nI (B (p + 1) - B p) := j6
    have e2 : pageF C R M p 2 = nI (sR (pos nt) (N p) (N (p + 1) - N p)) := j7
    have e3 : pageF C R M p 3 = nI l := j8
    have pl := sR_pos_le nt (N p) (N (p + 1) - N p)
    have eb : nI (B p) + nI (B (p + 1) - B p) = nI (B (p + 1)) := by rw [nI_add, show B p + (B (p + 1) - B p) = B (p + 1) by omega]
    have en : nI (sR (pos nt) 0 (N p)) + nI (sR (pos nt) (N p) (N (p + 1) - N p)) = nI (sR (pos nt) 0 (N (p + 1))) := by
      have := sR_split (pos nt) (Nat.zero_le (N p)) j3
      rw [Nat.sub_zero, Nat.sub_zero] at this
      rw [nI_add, this]
    have main : wp_L_isLaid_L157 v1 (nI rm) (wp_L_isLaid_L115 v1 (nI rm) (nI C) (nI R) (nI P) X Q n) X Q (nI C) (nI R) (nI P) (nI (B p)) (nI (sR h 0 (B p))) (nI (sR (pos nt) 0 (N p))) (nI p) (nI (B (p + 1) - B p)) (nI l) M := by
      unfold wp_L_isLaid_L157
      refine sp_ofPage hI hF d2 hp d3 (w := 2) (by decide) ?_
      rw [e2, nI_add]
      refine ⟨fun z => absurd z (nI_ne0 (by omega) (by omega)), fun _ => ⟨fun _ => ?_, fun z => absurd (nI_pos' (by omega)) z⟩⟩
      refine il_rows hI hF hD0 hp ?_
      show wp_L_isLaid_L246 _ _ _ _ _ _ _ _ _ _ _ _ _ _ _
      unfold wp_L_isLaid_L246
      rw [eb]
      refine il_notes hI hF hD0 hp ?_
      show wp_L_isLaid_L306 _ _ _ _ _ _ _ _ _ _ _ _ _ _ _
      unfold wp_L_isLaid_L306
      rw [j8', en]
      refine ⟨fun _ => sp_ofPage hI hF d2 hp d3 (w := 2) (by decide) ?_, fun z => absurd rfl z⟩
      rw [e2]
      refine ⟨fun _ => il_carry hI hF hD0 hp ?_, fun z => absurd rfl z⟩
      show wp_L_isLaid_L373 _ _ _ _ _ _ _ _ _ _ _ _ _
      unfold wp_L_isLaid_L373
      rw [s_nI]
      exact ih
    unfold wp_L_isLaid_L115
    refine ⟨fun z => absurd z (nI_ge (a := p) (b := P) hp (by omega)), fun _ => sp_ofPage hI hF d2 hp d3 (w := 1) (by decide) (sp_ofPage hI hF d2 hp d3 (w := 3) (by decide) ?_)⟩
    rw [e1, e3]
    refine ⟨fun _ => main, fun z => sp_ofPage hI hF d2 hp d3 (w := 0) (by decide) ?_⟩
    have hlt : B p < B (p + 1) := by
      rcases Nat.lt_or_ge (B p) (B (p + 1)) with y | y
      · exact y
      · rw [show B (p + 1) - B p = 0 by omega] at z
        exact absurd (Int32.le_refl _) z
    exact ⟨fun _ => main, fun y => absurd (j5 hlt) y⟩
theorem il_order {C R W H rm w P : Nat} {v1 v9 v10 v11 : Int32} {M : Mem} {X : Mem → Prop} {Q : Int32 → Mem → Prop} {nt h : Nat → Nat} {kp : Nat → Bool} {B N : Nat → Nat} (hI : Inv C R W H M) (hF : Fresh C R W H M) (hD : LD C R rm w P M nt h kp B N)
    (hX : X M) : ∃ n, wp_L_isLaid_L385 v1 (nI rm) (nI R) v9 v10 v11 X Q n 0 0 M := by
  have hR := hI.1.2.2.2
  have hD0 := hD
  obtain ⟨d1, d2, d3, ⟨d4, d5, d6, d7, d8⟩, d9, d10, d11, d12, d13, d14, d15, d16, d17, d18⟩ := hD
  have mN : ∀ p, p < P → N p ≤ N (p + 1) := fun p hp => (d9 p hp).2.2.1
  have mB : ∀ p, p < P → B p ≤ B (p + 1) := fun p hp => (d9 p hp).1
  refine up_loop2 (W := fun n x v M => wp_L_isLaid_L385 v1 (nI rm) (nI R) v9 v10 v11 X Q n x v M) (fun k x M' => M' = M ∧ ∃ b, b ≤ 60 ∧ x = nI b ∧ ∀ p, p < P → k < N (p + 1) → b ≤ p) R 0 M ⟨rfl, 0, by omega, rfl, fun p _ _ => Nat.zero_le _⟩ ?_ ?_
  · rintro n x M' ⟨rfl, -⟩
    unfold wp_L_isLaid_L385
    exact ⟨fun _ => hX, fun z => absurd (Int32.le_refl _) z⟩
  · rintro n i x M' hi ⟨rfl, b, b1, rfl, b2⟩ ih
    have hii : (nI i).toNatClampNeg = i := ncl (by omega)
    have hvi := vin (n := i) (N := 30) (by omega) (by decide)
    have dn := d11 i hi
    have er := LD_rowF hD0 i
    obtain ⟨p, q1, q2, q3, q4⟩ := LD_note hD0 hi
    unfold wp_L_isLaid_L385
    refine ⟨fun z => absurd z (nI_ge (a := i) (b := R) hi (by omega)), fun _ => sp_ofRow hI hF hi (w := 2) (by decide) ?_⟩
    rw [er.2.2, hii]
    by_cases z : nt i = 0
    · have en : M' 28 0 0 i = 0 := by rw [dn.1, z]; rfl
      rw [q4, if_pos z]
      refine ⟨hvi, fun _ => ?_, fun y => absurd en y⟩
      unfold wp_L_isLaid_L413
      refine ⟨fun y => absurd y (by decide), fun _ => ?_⟩
      unfold wp_L_isLaid_L423
      rw [hii]
      refine ⟨fun _ => ⟨hvi, fun _ => ?_, fun y => absurd (by rw [en]; exact Int32.le_refl _) y⟩, fun y => absurd rfl y⟩
      unfold wp_L_isLaid_L454
      refine sp_isTogether hI hF hD0 hi ⟨fun y => absurd y one_ne, fun _ => ?_⟩
      have hm : ¬ nI b < -1 := fun y => by
        have y2 := (t_lt.mp y)
        rw [t_nI (by omega), show (-1 : Int32).toInt = -1 by decide] at y2
        omega
      rw [if_neg hm, s_nI]
      exact ih _ _ ⟨rfl, b, b1, rfl, fun p hp hk => b2 p hp (by omega)⟩
    · have en : ¬ M' 28 0 0 i = 0 := by rw [dn.1]; exact nI_ne0 (by omega) (by omega)
      have enl : ¬ M' 28 0 0 i ≤ 0 := by rw [dn.1]; exact nI_nle (by omega) (by omega)
      rw [q4, if_neg z]
      refine ⟨hvi, fun y => absurd y en, fun _ => ?_⟩
      unfold wp_L_isLaid_L413
      refine ⟨fun _ => ?_, fun y => absurd (nI_pos' (by omega)) y⟩
      unfold wp_L_isLaid_L423
      rw [hii]
      obtain ⟨p', u1, u2, u3, u4⟩ := LD_row hD0 hi
      have hb := b2 p q1 q3
      have hpp : p' ≤ p := lt_p mB (by omega) u2 (show i < B (p + 1) by have := (d9 p q1).2.2.2.1; omega)
      refine ⟨fun _ => ⟨hvi, fun y => absurd y enl, fun _ => sp_ofRow hI hF hi (w := 1) (by decide) ?_⟩, fun y => absurd rfl y⟩
      rw [er.2.1, u4]
      refine ⟨fun y => absurd y (nI_nlt hpp (by omega)), fun _ => ⟨fun _ => ?_, fun y => absurd (nI_le hb (by omega)) y⟩⟩
      unfold wp_L_isLaid_L454
      refine sp_isTogether hI hF hD0 hi ⟨fun y => absurd y one_ne, fun _ => ?_⟩
      rw [s_nI]
      refine ih _ _ ⟨rfl, p, by omega, ?_, fun p2 hp2 hk => lt_p mN (by omega) q2 (by omega)⟩
      split
      · rfl
      · rename_i y
        have : ¬ b < p := fun u => y (nI_lt u (by omega))
        rw [show b = p by omega]
theorem il_count {C R W H rm w P : Nat} {v1 v9 v10 : Int32} {M : Mem} {X : Int32 → Mem → Prop} {Q : Int32 → Mem → Prop} {nt h : Nat → Nat} {kp : Nat → Bool} {B N : Nat → Nat} (hI : Inv C R W H M) (hD : LD C R rm w P M nt h kp B N)
    (hX : X 0 M) : ∃ n, wp_L_isLaid_L489 v1 (nI rm) (nI R) v9 v10 X Q n (nI (sR (pos nt) 0 R)) 0 M := by
  have hR := hI.1.2.2.2
  refine up_det (W := fun n i => wp_L_isLaid_L489 v1 (nI rm) (nI R) v9 v10 X Q n (nI (sR (pos nt) i (R - i))) (nI i) M) 0 R (Nat.zero_le _) (fun n => ?_) (fun n i _ hi ih => ?_)
  · unfold wp_L_isLaid_L489
    rw [Nat.sub_self]
    exact ⟨fun _ => hX, fun z => absurd (Int32.le_refl _) z⟩
  · have hii : (nI i).toNatClampNeg = i := ncl (by omega)
    have hvi := vin (n := i) (N := 30) (by omega) (by decide)
    have dn := hD.2.2.2.2.2.2.1 i hi
    have e := sR_first (pos nt) hi
    unfold wp_L_isLaid_L489
    rw [hii]
    refine ⟨fun z => absurd z (nI_ge (a := i) (b := R) hi (by omega)), fun _ => ⟨hvi, fun z => ?_, fun z => ?_⟩⟩
    · have z0 : nt i = 0 := by
        rcases Nat.eq_zero_or_pos (nt i) with y | y
        · exact y
        · rw [dn.1] at z; exact absurd z (nI_nle y (by omega))
      have e0 : pos nt i = 0 := by simp [pos, z0]
      unfold wp_L_isLaid_L510
      rw [s_nI, e, e0, Nat.zero_add, show (0 : Int32) = nI 0 from rfl, pk_sub (Nat.zero_le _), Nat.sub_zero]
      exact ih
    · have z0 : ¬ nt i = 0 := fun y => z (by rw [dn.1, y]; exact Int32.le_refl _)
      have e0 : pos nt i = 1 := by simp [pos, z0]
      unfold wp_L_isLaid_L510
      rw [s_nI, e, e0, show (1 : Int32) = nI 1 from rfl, pk_sub (by omega), Nat.add_sub_cancel_left]
      exact ih
theorem sp_isLaid {C R W H rm w P : Nat} {M : Mem} {Q : Int32 → Mem → Prop} {nt h : Nat → Nat} {kp : Nat → Bool} {B N : Nat → Nat} (hI : Inv C R W H M) (hF : Fresh C R W H M) (hD : LD C R rm w P M nt h kp B N) (hQ : Q 1 M) : wp_L_isLaid (nI w) (nI rm) M Q := by
  have hR := hI.1.2.2.2
  have hC6 := hI.1.2.1
  have hD0 := hD
  obtain ⟨d1, d2, d3, ⟨d4, d5, d6, d7, d8⟩, d9, d10, d11, d12, d13, d14, d15, d16, d17, d18⟩ := hD
  have hne : ¬ M 3 (chq M) 0 0 = 0 := by rw [d1]; decide
  have e0 : tblF C R M 0 = nI C := rfl
  have e1 : tblF C R M 1 = nI R := rfl
  have e2 : tblF C R M 2 = nI P := by
    show pnv M (chq M) = nI P
    unfold pnv
    rw [if_neg hne, d2]
  have e4 : tblF C R M 4 = twF (nI C) (M 18 (chq M) 0) C := if_neg hne
  have e5 : tblF C R M 5 = nI (sR h 0 R) := by
    have : tblF C R M 5 = sumN (M 19 (chq M) 0) R := if_neg hne
    rw [this]
    exact sumN_sR (fun r hr => (d10 r hr).1) R (Nat.le_refl _)
  unfold wp_L_isLaid
  refine sp_manyF hI hF (w := 0) (by decide) (sp_manyF hI hF (w := 1) (by decide) (sp_manyF hI hF (w := 2) (by decide) ?_))
  rw [e0, e1, e2]
  refine up_loop2 (W := fun n x v M => wp_L_isLaid_L30 (nI w) (nI rm) (nI C) (nI R) (nI P) _ Q n x v M) (fun k x M' => M' = M ∧ x = twF (nI C) (M 18 (chq M) 0) k) C _ M ⟨rfl, rfl⟩ ?_ ?_
  · rintro n x M' ⟨rfl, rfl⟩
    unfold wp_L_isLaid_L30
    refine ⟨fun _ => ?_, fun z => absurd (Int32.le_refl _) z⟩
    unfold wp_L_isLaid_L85
    refine sp_manyF hI hF (w := 4) (by decide) ?_
    rw [e4]
    refine ⟨fun _ => ⟨fun _ => ?_, fun z => absurd d14 z⟩, fun z => absurd rfl z⟩
    refine il_pages hI hF hD0 ?_
    show wp_L_isLaid_L379 _ _ _ _ _ _ _ _
    unfold wp_L_isLaid_L379
    refine il_order hI hF hD0 ?_
    show wp_L_isLaid_L486 _ _ _ _ _ _ _ _
    unfold wp_L_isLaid_L486
    refine il_count hI hD0 ?_
    show wp_L_isLaid_L519 _ _ _ _ _ _ _ _
    unfold wp_L_isLaid_L519
    refine ⟨fun _ => sp_manyF hI hF (w := 5) (by decide) ?_, fun z => absurd rfl z⟩
    rw [e5]
    exact ⟨fun _ => ⟨fun _ => hQ, fun z => absurd rfl z⟩, fun z => absurd rfl z⟩
  · rintro n k x M' hk ⟨rfl, rfl⟩ ih
    have e3 : colF R M' k 3 = M' 18 (chq M') 0 k := if_neg hne
    have dk := d13 k hk
    unfold wp_L_isLaid_L30
    refine ⟨fun z => absurd z (nI_ge (a := k) (b := C) hk (by omega)), fun _ => sp_ofColumn hI hF hk (w := 3) (by decide) (sp_ofColumn hI hF hk (w := 1) (by decide) ?_)⟩
    rw [e3, s_nI]
    refine ⟨fun z => absurd z (Int32.not_lt.mpr dk.1), fun _ => sp_ofColumn hI hF hk (w := 2) (by decide) ⟨fun _ => ih _ _ ⟨rfl, rfl⟩, fun z => absurd dk.2 z⟩⟩
