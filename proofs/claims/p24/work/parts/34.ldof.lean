/-! What is laid out is as the law's eye wants it. -/
theorem LD_of {C R W H w L : Nat} {M : Mem} (hI : Inv C R W H M) (hF : Fresh C R W H M) (hL : 10 ≤ L) (hL2 : L ≤ 60) (hw : w ≤ 60) {wd : Nat → Int32} {a : AS} (hc : chL C R W H M = some (wd, a)) (h : LAYF (vw M 0) C R (nI w) (L - 3) = some (wd, a))
    (h28 : ∀ r, r < R → M 28 0 0 r = M 4 0 r 4) (h29 : ∀ r, r < R → M 29 0 0 r = M 4 0 r 5) : ∃ nt hh kp B N P, LD C R (L - 3) w P M nt hh kp B N := by
  have hR := hI.1.2.2.2
  have hC6 := hI.1.2.1
  obtain ⟨l1, l2, l3⟩ := LAYF_some h
  obtain ⟨r1, r2, r3⟩ := lay_rng hI hL hL2 h
  obtain ⟨B, N, ⟨i1, i2, i3, i4, i5, i6, i7, i8, i9, i11, i10⟩, hA2, hA3⟩ := lay_pages hI hL hL2 h
  have hl := ch_LYS hF
  rw [hc] at hl
  obtain ⟨m1, m2, m3, m4, m5, m6, m7, m8, m9⟩ := hl
  have hP := LAYF_pg h
  have hb : ∀ j, j < C → 0 ≤ (cut0 C (vw M 0 9 0) j).toInt ∧ (cut0 C (vw M 0 9 0) j).toInt ≤ (cut0 C (vw M 0 10 0) j).toInt ∧ (cut0 C (vw M 0 10 0) j).toInt ≤ 100 := fun j hj => by
    have e9 : cut0 C (vw M 0 9 0) j = LEA (vw M 0) C R j := by
      simp only [cut0, if_pos hj]; exact (hF.2.1.2 j hj).1
    have e10 : cut0 C (vw M 0 10 0) j = BST (vw M 0) C R j := by
      simp only [cut0, if_pos hj]; exact (hF.2.1.2 j hj).2
    rw [e9, e10]
    have a3 := hI.2.2.1 j hj
    exact LB_t a3.2.1 a3.2.2 (fun r hr => (hI.2.2.2.2.1 r (by omega) j (by omega)).2.2.2.1)
  obtain ⟨c0, cR, c1, c2⟩ := WID_t hC6 (show w ≤ 1000 by omega) l1 hb
  have e18 : ∀ j, j < C → M 18 (chq M) 0 j = wd j := m2
  refine ⟨ntY (vw M 0) R, hY (vw M 0) C R wd, kpY (vw M 0) R, B, N, a.1, m1, m4, hP, ⟨i4, i5, i6.trans hA2, i7.trans hA3, i11⟩, fun p hp => ?_, fun r hr => ?_, fun r hr => ?_, fun r hr => ?_, fun j hj => ?_, ?_, by omega, by omega, by omega, hR⟩
  · obtain ⟨n1, n2, n3, n4, n5⟩ := m9 p hp
    obtain ⟨j1, j2, j3, j4, j5, j6, j7, j8, j9, j10, j11, j12, j13⟩ := i10 p hp
    rw [n1, n2, n3, n4, n5]
    exact ⟨j1, j2, j3, j4, j5, j6, j7, j8, j9, fun r h1 h2 => by rw [m7 r (by omega)]; exact j10 r h1 h2, fun r h1 h2 => by rw [m8 r (by have := (i9 (p + 1) (by omega)).2; omega)]; exact j11 r h1 h2, j12, j13⟩
  · have e := r1 r hr
    refine ⟨(m3 r hr).trans e.1, ?_, e.2⟩
    have h0 : vw M 0 17 r 0 = 0 := by
      show M 17 0 r 0 = 0
      by_cases z : M 5 0 0 0 = 1
      · rw [(hF.2.1.1 r hr 0 (by omega)).1 z]; rfl
      · exact hI.2.2.2.2.2 0 (by decide) r (by omega) 0 (by omega) (fun y => z y.2)
    have := rhF_1 (Y := vw M 0) (C := C) (wd := wd) (r := r) h0 C (by omega)
    rw [e.1] at this
    rcases Nat.eq_zero_or_pos (hY (vw M 0) C R wd r) with z | z
    · rw [z] at this; exact absurd this (by decide)
    · exact z
  · rw [h28 r hr]; exact r2 r hr
  · rw [h29 r hr]; exact r3 r hr
  · have := c1 j hj
    have g9 : cut0 C (vw M 0 9 0) j = M 9 0 0 j := by simp only [cut0, if_pos hj]; rfl
    have g10 : cut0 C (vw M 0 10 0) j = M 10 0 0 j := by simp only [cut0, if_pos hj]; rfl
    rw [g9, g10] at this
    rw [e18 j hj, t_le, t_le]
    exact this
  · rw [twF_c C (fun j hj => e18 j hj), t_le, t_nI (by omega)]
    exact c2
/-! below() is a number from 0 on -/
theorem sp_below {x : Int32} {n : Nat} {M : Mem} {Q : Int32 → Mem → Prop} (h0 : 0 < n) (hn : n < 2 ^ 31) (hQ : ∀ j, j < n → Q (nI j) M) : wp_L_below x (nI n) M Q := by
  obtain ⟨j, hj, e⟩ := pk_andE x (m := 2147483647) 31 (by decide)
  unfold wp_L_below
  rw [e, pk_rem hj h0 hn]
  exact ⟨nI_ne0 h0 hn, hQ _ (Nat.mod_lt _ h0)⟩
/-- the law's own arrays are not the table's -/
theorem Tab_up {C R W H : Nat} {M M' : Mem} (hk : ∀ f, f < 27 → M' f = M f) (h : Tab C R W H M) : Tab C R W H M' := by
  have sY : sameY (vw M' 0) (vw M 0) C R := sameY_of (fun f hf => by rw [hk f (by omega)])
  have sY2 : sameY (vw M 0) (vw M' 0) C R := sameY_of (fun f hf => by rw [hk f (by omega)])
  have kv : ∀ f, f < 27 → ∀ i j, vw M' 0 f i j = vw M 0 f i j := fun f hf i j => by
    show M' f 0 i j = M f 0 i j
    rw [hk f hf]
  have sW : sameW (vw M' 0) (vw M 0) C R := ⟨fun c _ => ⟨kv 5 (by decide) 0 c, kv 6 (by decide) 0 c⟩, fun r _ c _ => ⟨kv 12 (by decide) r c, kv 13 (by decide) r c, kv 14 (by decide) r c, kv 15 (by decide) r c⟩⟩
  have eu : upL C R W H M' = upL C R W H M := LAYF_c sY
  have et : tuL C R W H M' = tuL C R W H M := LAYF_c sY
  obtain ⟨hI, hF⟩ := h
  refine ⟨?_, fun z => ?_⟩
  · unfold Inv at hI ⊢
    rw [hk 0 (by decide), hk 1 (by decide), hk 4 (by decide), hk 5 (by decide), hk 6 (by decide), hk 12 (by decide), hk 13 (by decide), hk 14 (by decide), hk 15 (by decide), hk 17 (by decide)]
    exact hI
  · obtain ⟨f1, f2, f3, f4, f5⟩ := hF (by rw [hk 0 (by decide)] at z; exact z)
    refine ⟨by rw [hk 0 (by decide)]; exact f1, ⟨fun r hr c hc => ?_, fun c hc => ?_⟩, ?_, ?_, ?_⟩
    · rw [hk 5 (by decide), hk 12 (by decide), hk 15 (by decide), hk 16 (by decide), hk 17 (by decide)]; exact f2.1 r hr c hc
    · rw [hk 9 (by decide), hk 10 (by decide), LEA_c sW hc, BST_c sW hc]; exact f2.2 c hc
    · rw [eu]; exact LYS_y (LYS_k f3 (fun f hf => by rw [hk f (by omega)])) sY2
    · rw [et]; exact LYS_y (LYS_k f4 (fun f hf => by rw [hk f (by omega)])) sY2
    · rw [eu, et, hk 2 (by decide)]; exact f5
theorem up_set {M : Mem} {f o i j : Nat} {x : Int32} (hf : 27 ≤ f) : ∀ g, g < 27 → sM M f o i j x g = M g := fun g hg => by
  funext o' i' j'
  rw [rd, if_neg (fun z => by omega)]
/-- the table and the law's own arrays -/
def LW (k R W H : Nat) (M : Mem) : Prop := Tab k R W H M ∧ (∀ j, j < k → M 27 0 0 j = M 5 0 0 j) ∧ ∀ r, r < 30 → M 28 0 0 r = (if r < R then M 4 0 r 4 else 0) ∧ M 29 0 0 r = (if r < R then M 4 0 r 5 else 0)
theorem LW_LK {k R W H W' H' : Nat} {M M' : Mem} (h : LW k R W H M) (hl : LK M M') (hT : Tab k R W' H' M') : LW k R W' H' M' := by
  refine ⟨hT, fun j hj => ?_, fun r hr => ?_⟩
  · rw [hl.2.2 27 (by decide), hl.1]; exact h.2.1 j hj
  · rw [hl.2.2 28 (by decide), hl.2.2 29 (by decide), hl.2.1]; exact h.2.2 r hr
/-- the first loop: columns are added -/
theorem lawA_loop {nT : Nat} {sc : Int32 → Int32} {k : Nat} {X : Mem → Prop} {Q : Int32 → Mem → Prop} {M : Mem} (hk6 : k ≤ 6) (hnT : nT = k) (hT : Tab 0 0 40 30 M) (h28 : M 28 0 = fun _ _ => 0) (h29 : M 29 0 = fun _ _ => 0)
    (hX : ∀ M', LW k 0 40 30 M' → M' 28 0 = (fun _ _ => 0) → M' 29 0 = (fun _ _ => 0) → X M') : ∃ n, wp_L_lawA_L27 nT sc (nI k) X Q n 0 M := by
  subst hnT
  refine up_loop (W := fun n v M => wp_L_lawA_L27 nT sc (nI nT) X Q n v M) (fun i M' => Tab i 0 40 30 M' ∧ (∀ j, j < i → M' 27 0 0 j = M' 5 0 0 j) ∧ M' 28 0 = (fun _ _ => 0) ∧ M' 29 0 = (fun _ _ => 0)) nT M ⟨hT, fun j hj => absurd hj (Nat.not_lt_zero _), h28, h29⟩ ?_ ?_
  · rintro n M' ⟨i1, i2, i3, i4⟩
    unfold wp_L_lawA_L27
    exact ⟨fun _ => hX M' ⟨i1, i2, fun r hr => by rw [i3, i4, if_neg (Nat.not_lt_zero _), if_neg (Nat.not_lt_zero _)]; exact ⟨rfl, rfl⟩⟩ i3 i4, fun z => absurd (Int32.le_refl _) z⟩
  · rintro n i M' hi ⟨i1, i2, i3, i4⟩ ih
    have hii : (nI i).toNatClampNeg = i := ncl (by omega)
    have hvi := vin (n := i) (N := nT) hi (by omega)
    have step : ∀ t0 : Int32, zb t0 → wp_L_lawA_L54 nT sc (nI nT) (wp_L_lawA_L27 nT sc (nI nT) X Q n) X Q (nI i) t0 (nI i) M' := fun t0 hz => by
      unfold wp_L_lawA_L54
      rw [hii]
      refine ⟨hvi, hz, fun M54 e54 => ⟨hvi, nI_pos' (by omega), sp_below (n := 12) (by decide) (by decide) (fun t ht => ?_)⟩⟩
      have e : ∀ f o i' j, M54 f o i' j = if f = 27 ∧ o = 0 ∧ i' = 0 ∧ j = i then t0 else M' f o i' j := fun f o i' j => by rw [e54, rd]
      have ef : ∀ f, ¬ f = 27 → M54 f = M' f := fun f hf => by funext o i' j; rw [e]; simp [hf]
      have e27 : M54 27 0 0 i = t0 := by rw [e]; simp
      have T54 : Tab i 0 40 30 M54 := Tab_up (fun f hf => ef f (by omega)) i1
      rw [e27, show (1 : Int32) = nI 1 from rfl, nI_add]
      refine sp_column T54 (by omega) (nI_le (a := 1) (by omega) (by omega)) (nI_le (b := 12) (by omega) (by decide)) (fun M75 hT h5 h4 hf => ⟨fun _ => ?_, fun z => absurd rfl z⟩)
      rw [nI_add]
      refine ih _ ⟨hT, fun j hj => ?_, by rw [hf 28 (by decide), ef 28 (by decide)]; exact i3, by rw [hf 29 (by decide), ef 29 (by decide)]; exact i4⟩
      rw [hf 27 (by decide), h5, e]
      by_cases z : j = i
      · rw [if_pos z, if_pos ⟨rfl, rfl, rfl, z⟩]
        rcases hz with y | y
        · rw [y]; rfl
        · rw [y]; rfl
      · rw [if_neg z, if_neg (fun y => z y.2.2.2), ef 5 (by decide)]
        exact i2 j (by omega)
    unfold wp_L_lawA_L27
    refine ⟨fun z => absurd z (nI_ge (a := i) (b := nT) hi (by omega)), fun _ => ⟨nI_pos' (by omega), sp_below (n := 3) (by decide) (by decide) (fun t ht => ⟨fun _ => step 0 zb_0, fun _ => step 1 zb_1⟩)⟩⟩
