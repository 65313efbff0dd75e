/-! changedBy() with the value that stands there: no page changes, and the table stays. -/
theorem sp_isPageOther {C q q2 p : Nat} {M : Mem} {Q : Int32 → Mem → Prop} (hC : M 1 0 0 0 = nI C) (hC6 : C ≤ 6) (hp : p < 60) (e22 : M 22 q 0 p = M 22 q2 0 p) (e23 : M 23 q 0 p = M 23 q2 0 p) (hl : 0 ≤ M 26 q 0 p → vp_in (M 26 q 0 p) 30) (hl2 : 0 ≤ M 26 q2 0 p → vp_in (M 26 q2 0 p) 30) (hca : ∀ c, c < C → caF M q 0 p c = caF M q2 1 p c) (hQ : Q 0 M) : wp_X4_isPageOther q q2 (nI p) M Q := by
  have hpp : (nI p).toNatClampNeg = p := ncl (by omega)
  have hv := vin (n := p) (N := 60) hp (by decide)
  unfold wp_X4_isPageOther
  rw [hpp]
  refine ⟨hv, hv, fun _ => ⟨hv, hv, fun _ => ?_, fun z => absurd e23 z⟩, fun z => absurd e22 z⟩
  refine up_loop (W := fun n v M => wp_X4_isPageOther_L35 q q2 (nI p) _ Q n v M) (fun _ M' => M' = M) C M rfl ?_ ?_
  · rintro n M' rfl
    unfold wp_X4_isPageOther_L35
    exact ⟨fun _ => hQ, fun z => absurd (by rw [hC]; exact Int32.le_refl _) z⟩
  · rintro n k M' hk rfl ih
    unfold wp_X4_isPageOther_L35
    refine ⟨fun z => absurd (by rw [hC] at z; exact z) (nI_ge (a := k) (b := C) hk (by omega)), fun _ => sp_carriedOn hp (by omega) hl (sp_carriedOn hp (by omega) hl2 ⟨fun _ => ?_, fun z => absurd (hca k hk) z⟩)⟩
    rw [s_nI]
    exact ih _ rfl
theorem ch_loop {C q q2 pg : Nat} {v1 v2 v3 : Int32} {M : Mem} {Q : Int32 → Mem → Prop} (hC : M 1 0 0 0 = nI C) (hC6 : C ≤ 6) (hpg : pg ≤ 60) (h6 : M 3 q 0 6 = nI pg) (h62 : M 3 q2 0 6 = nI pg) (e22 : ∀ p, p < pg → M 22 q 0 p = M 22 q2 0 p) (e23 : ∀ p, p < pg → M 23 q 0 p = M 23 q2 0 p)
    (hl : ∀ p, p < pg → 0 ≤ M 26 q 0 p → vp_in (M 26 q 0 p) 30) (hl2 : ∀ p, p < pg → 0 ≤ M 26 q2 0 p → vp_in (M 26 q2 0 p) 30) (hca : ∀ p, p < pg → ∀ c, c < C → caF M q 0 p c = caF M q2 1 p c) (hQ : Q 0 M) :
    ∃ n, wp_X4_changedBy_L73 v1 v2 v3 q q2 (nI pg) (fun v7 M => Q v7 M) Q n 0 0 M := by
  refine up_loop2 (W := fun n x v M => wp_X4_changedBy_L73 v1 v2 v3 q q2 (nI pg) _ Q n x v M) (fun _ x M' => M' = M ∧ x = 0) pg 0 M ⟨rfl, rfl⟩ ?_ ?_
  · rintro n x M' ⟨rfl, rfl⟩
    unfold wp_X4_changedBy_L73
    exact ⟨fun _ => hQ, fun z => absurd (Int32.le_refl _) z⟩
  · rintro n k x M' hk ⟨rfl, rfl⟩ ih
    unfold wp_X4_changedBy_L73
    refine ⟨fun z => absurd z (nI_ge (a := k) (b := pg) hk (by omega)), fun _ => ⟨fun z => absurd (by rw [h6] at z; exact z) (nI_ge (a := k) (b := pg) hk (by omega)), fun _ => ⟨fun z => absurd (by rw [h62] at z; exact z) (nI_ge (a := k) (b := pg) hk (by omega)), fun _ => ?_⟩⟩⟩
    unfold wp_X4_changedBy_L105
    refine ⟨fun z => absurd z one_ne, fun _ => sp_isPageOther hC hC6 (by omega) (e22 k hk) (e23 k hk) (hl k hk) (hl2 k hk) (hca k hk) ⟨fun _ => ?_, fun z => absurd rfl z⟩⟩
    unfold wp_X4_changedBy_L128
    rw [s_nI]
    exact ih _ _ ⟨rfl, rfl⟩
set_option maxHeartbeats 1000000 in
theorem sp_changedBy {C R W H r c : Nat} {M : Mem} {Q : Int32 → Mem → Prop} (hI : Inv C R W H M) (hF : Fresh C R W H M) (hr : r < R) (hc : c < C) (hk : M 5 0 0 c = 0)
    (hQ : ∀ M', MEq M M' → Inv C R W H M' → Q 0 M') : wp_X4_changedBy (nI r) (nI c) (M 12 0 r c) M Q := by
  have hI0 := hI
  obtain ⟨a1, a2, a3, a4, a5, a6⟩ := hI
  have hC6 := a1.2.1
  have hR30 := a1.2.2.2
  have hrr : (nI r).toNatClampNeg = r := ncl (by omega)
  have hcc : (nI c).toNatClampNeg = c := ncl (by omega)
  have hv12 := (a4 r (by omega)).2.2 c (by omega)
  unfold wp_X4_changedBy
  refine sp_rNumber a1.1 a1.2.1 a1.2.2.1 hR30 hr hc hk hv12.1 hv12.2 (ref_same hI0 hF (sp_chosen0 (sp_cps (by decide) a1.1 hC6 a1.2.2.1 hR30 (fun r hr j hj => (a5 r (by omega) j hj).2.2.2.2) (fun r hr => (a4 r (by omega)).2.1) ⟨vin (by omega) (by decide), vin (by omega) (by decide), fun M45 e45 => ?_⟩)))
  rw [hrr, hcc] at e45
  have e : ∀ f o i j, M45 f o i j = if f = 12 ∧ o = 1 ∧ i = r ∧ j = c then M 12 0 r c else if o = 1 ∧ ((f = 1 ∧ i = 0 ∧ (j = 0 ∨ j = 5)) ∨ ((f = 5 ∨ f = 6 ∨ f = 7 ∨ f = 8) ∧ i = 0 ∧ j < C) ∨ ((f = 12 ∨ f = 13 ∨ f = 14 ∨ f = 15) ∧ i < R ∧ j < 6) ∨ (f = 4 ∧ i < R ∧ (j = 4 ∨ j = 5))) then M f 0 i j else M f o i j := fun f o i j => by rw [e45, rd]; rfl
  have k45 : ∀ f o, ¬ o = 1 → M45 f o = M f o := fun f o ho => by funext i j; rw [e]; simp [ho]
  have k17 : M45 17 1 = M 17 1 := by funext i j; rw [e]; simp
  have kf : ∀ f, (f = 3 ∨ 18 ≤ f) → M45 f = M f := fun f hf => by
    funext o i j
    rw [e]
    simp [show ¬ f = 12 by omega, show ¬ f = 1 by omega, show ¬ f = 5 by omega, show ¬ f = 6 by omega, show ¬ f = 7 by omega, show ¬ f = 8 by omega, show ¬ f = 13 by omega, show ¬ f = 14 by omega, show ¬ f = 15 by omega, show ¬ f = 4 by omega]
  have k2 : M45 2 = M 2 := by funext o i j; rw [e]; simp
  have c5 : ∀ j, j < C → M45 5 1 0 j = M 5 0 0 j := fun j hj => by rw [e]; simp [hj]
  have c6 : ∀ j, j < C → M45 6 1 0 j = M 6 0 0 j := fun j hj => by rw [e]; simp [hj]
  have c12 : ∀ i, i < R → ∀ j, j < C → M45 12 1 i j = M 12 0 i j := fun i hi j hj => by
    rw [e]
    by_cases z : i = r ∧ j = c
    · simp [z]
    · simp [z, hi, show j < 6 by omega]
  have c13 : ∀ i, i < R → ∀ j, j < C → M45 13 1 i j = M 13 0 i j := fun i hi j hj => by rw [e]; simp [hi, show j < 6 by omega]
  have c14 : ∀ i, i < R → ∀ j, j < C → M45 14 1 i j = M 14 0 i j := fun i hi j hj => by rw [e]; simp [hi, show j < 6 by omega]
  have c15 : ∀ i, i < R → ∀ j, j < C → M45 15 1 i j = M 15 0 i j := fun i hi j hj => by rw [e]; simp [hi, show j < 6 by omega]
  have c44 : ∀ i, i < R → M45 4 1 i 4 = M 4 0 i 4 := fun i hi => by rw [e]; simp [hi]
  have c45 : ∀ i, i < R → M45 4 1 i 5 = M 4 0 i 5 := fun i hi => by rw [e]; simp [hi]
  have sW : sameW (vw M45 1) (vw M 0) C R := ⟨fun j hj => ⟨c5 j hj, c6 j hj⟩, fun i hi j hj => ⟨c12 i hi j hj, c13 i hi j hj, c14 i hi j hj, c15 i hi j hj⟩⟩
  have hC1 : M45 1 1 0 0 = nI C := by rw [e]; simp [a1.1]
  have hR1 : M45 1 1 0 5 = nI R := by rw [e]; simp [a1.2.2.1]
  unfold wp_X4_layoutOfTrial
  refine sp_reckon hC1 hC6 hR1 hR30 (fun j hj => by rw [c5 j hj]; exact (a3 j hj).1) (fun i j hi hj hkj => by rw [c5 j hj] at hkj; rw [k17]; exact a6 1 (by decide) i (by omega) j (by omega) (fun z => hkj z.2)) ?_
  have r0 : ∀ f o, ¬ o = 1 → rkM M45 1 C R f o = M f o := fun f o ho => by
    rw [← k45 f o ho]; funext i j; simp [rkM, ho]
  rw [r0 0 0 (by decide), a2.1, a2.2.2.2.1]
  have hid : ∀ i, i < R → ∀ j, j < C → rkM M45 1 C R 17 1 i j = M 17 0 i j := fun i hi j hj => by
    by_cases q : M 5 0 0 j = 1
    · have q1 : M45 5 1 0 j = 1 := by rw [c5 j hj]; exact q
      rw [(hF.2.1.1 i hi j hj).1 q]
      have e1 : rkM M45 1 C R 17 1 i j = hidF (M45 5 1 0) (M45 15 1 i) j := by simp [rkM, hi, hj, q1]
      rw [e1]
      exact hidF_c j (fun j' hj' => ⟨c5 j' (by omega), c15 i hi j' (by omega)⟩)
    · have q1 : ¬ M45 5 1 0 j = 1 := by rw [c5 j hj]; exact q
      have e1 : rkM M45 1 C R 17 1 i j = M45 17 1 i j := by simp [rkM, q1]
      rw [e1, k17, a6 1 (by decide) i (by omega) j (by omega) (fun z => q z.2), a6 0 (by decide) i (by omega) j (by omega) (fun z => q z.2)]
  have keep : ∀ f, ¬ f = 17 → ¬ f = 16 → ¬ f = 9 → ¬ f = 10 → rkM M45 1 C R f 1 = M45 f 1 := fun f z1 z2 z3 z4 => by funext i j; simp [rkM, z1, z2, z3, z4]
  have sY : sameY (vw (rkM M45 1 C R) 1) (vw M 0) C R := by
    refine ⟨fun j hj => ⟨?_, ?_, ?_⟩, fun i hi => ⟨⟨?_, ?_⟩, fun j hj => ⟨?_, hid i hi j hj⟩⟩⟩
    · show rkM M45 1 C R 5 1 0 j = M 5 0 0 j
      rw [keep 5 (by decide) (by decide) (by decide) (by decide)]; exact c5 j hj
    · show rkM M45 1 C R 9 1 0 j = M 9 0 0 j
      rw [(hF.2.1.2 j hj).1, ← LEA_c sW hj]; simp [rkM, hj]
    · show rkM M45 1 C R 10 1 0 j = M 10 0 0 j
      rw [(hF.2.1.2 j hj).2, ← BST_c sW hj]; simp [rkM, hj]
    · show rkM M45 1 C R 4 1 i 4 = M 4 0 i 4
      rw [keep 4 (by decide) (by decide) (by decide) (by decide)]; exact c44 i hi
    · show rkM M45 1 C R 4 1 i 5 = M 4 0 i 5
      rw [keep 4 (by decide) (by decide) (by decide) (by decide)]; exact c45 i hi
    · show rkM M45 1 C R 13 1 i j = M 13 0 i j
      rw [keep 13 (by decide) (by decide) (by decide) (by decide)]; exact c13 i hi j hj
  refine sp_setArrange (t := 1) (by decide) (by rw [keep 1 (by decide) (by decide) (by decide) (by decide)]; exact hC1) hC6 (by rw [keep 1 (by decide) (by decide) (by decide) (by decide)]; exact hR1) hR30 (by omega) a2.2.2.1 (by omega) a2.2.2.2.2.2.1 (fun i hi => by rw [keep 4 (by decide) (by decide) (by decide) (by decide), c44 i hi]; exact (a4 i (by omega)).1) (fun M23 hu ht htr hfr => ?_)
  rw [LAYF_c sY] at hu ht
  rw [LAYF_c sY, LAYF_c sY] at htr
  have hu := LYS_y hu sY
  have ht := LYS_y ht sY
  have htr : M23 2 1 0 2 = M 2 0 0 2 := by rw [hF.2.2.2.2]; exact htr
  have k23 : ∀ f o, mnk f o → M23 f o = M f o := fun f o hm => by
    rw [hfr f o (by unfold mnk at hm; omega)]
    by_cases z : o = 1
    · subst z
      have hf : f = 0 ∨ f = 3 ∨ 18 ≤ f := by unfold mnk at hm; omega
      have e1 : rkM M45 1 C R f 1 = M45 f 1 := keep f (by omega) (by omega) (by omega) (by omega)
      rw [e1]
      rcases hf with rfl | hf
      · funext i j; rw [e]; simp
      · rw [kf f hf]
    · exact r0 f o z
  have hME : MEq M M23 := k23
  have hI23 : Inv C R W H M23 := MEq_Inv hME hI0 (fun i hi j hj hn => by
    rw [hfr 17 1 (by omega)]
    by_cases z : i < R ∧ j < C
    · rw [hid i z.1 j z.2]
      exact a6 0 (by decide) i hi j hj hn
    · have e1 : rkM M45 1 C R 17 1 i j = M45 17 1 i j := by
        have : ¬ (i < R ∧ j < C ∧ M45 5 1 0 j = 1) := fun y => z ⟨y.1, y.2.1⟩
        simp [rkM, this]
      rw [e1, k17]
      exact a6 1 (by decide) i hi j hj hn)
  have hF23 : Fresh C R W H M23 := MEq_Fresh hME hF
  refine sp_chosen ?_
  have eq : 2 * 1 + (if M23 2 1 0 2 = 0 then 0 else 1) = 2 + chq M23 := by
    unfold chq
    rw [htr, k23 2 0 (by unfold mnk; omega)]
  rw [eq, ← MEq_chq hME]
  have hl1 := ch_LYS hF23
  have hl2 : LYS M23 (2 + chq M23) (vw M23 0) C R (chL C R W H M23) := by
    rw [MEq_vw hME]
    unfold chq chL upL tuL
    rw [hF23.2.2.2.2]
    unfold upL tuL
    rw [MEq_vw hME]
    by_cases z : trn (LAYF (vw M 0) C R (nI W) (H - 3)) (LAYF (vw M 0) C R (nI H) (W - 3)) = 0
    · rw [if_pos z, if_pos z]; exact hu
    · rw [if_neg z, if_neg z]; exact ht
  obtain ⟨g1, g2, g3⟩ := ch_pg hI23 hF23
  have g6 : M23 3 (2 + chq M23) 0 6 = nI (pgN M23) := by
    rw [← g1]
    cases hc : chL C R W H M23 with
    | none => rw [hc] at hl1 hl2; rw [hl1.2, hl2.2]
    | some x => rw [hc] at hl1 hl2; exact hl2.2.2.2.1.trans hl1.2.2.2.1.symm
  have same : ∀ p, p < pgN M23 → M23 22 (chq M23) 0 p = M23 22 (2 + chq M23) 0 p ∧ M23 23 (chq M23) 0 p = M23 23 (2 + chq M23) 0 p ∧ M23 26 (chq M23) 0 p = M23 26 (2 + chq M23) 0 p := fun p hp => by
    obtain ⟨wd, a, h1, h2, h3⟩ := g3 p hp
    rw [h1] at hl1 hl2
    have x1 := hl1.2.2.2.2.2.2.2.2 p h2
    have x2 := hl2.2.2.2.2.2.2.2.2 p h2
    exact ⟨x1.1.trans x2.1.symm, x1.2.1.trans x2.2.1.symm, x1.2.2.2.2.trans x2.2.2.2.2.symm⟩
  have emax : (if M23 3 (chq M23) 0 6 < M23 3 (2 + chq M23) 0 6 then M23 3 (2 + chq M23) 0 6 else M23 3 (chq M23) 0 6) = nI (pgN M23) := by
    rw [g1, g6]; simp
  dsimp only
  rw [emax]
  have s16 : ∀ i, i < R → ∀ j, j < C → ¬ M 5 0 0 j = 1 → M23 16 1 i j = M23 16 0 i j := fun i hi j hj q => by
    have q1 : ¬ M45 5 1 0 j = 1 := by rw [c5 j hj]; exact q
    rw [k23 16 0 (by unfold mnk; omega), (hF.2.1.1 i hi j hj).2 q, hfr 16 1 (by omega)]
    have e1 : rkM M45 1 C R 16 1 i j = sumF (fun i => M45 12 1 i j) (i + 1) := by simp [rkM, hi, hj, q1]
    rw [e1]
    exact sumF_c (i + 1) (fun i' hi' => c12 i' (by omega) j hj)
  refine ch_loop hI23.1.1 hC6 g2 g1 g6 (fun p hp => (same p hp).1) (fun p hp => (same p hp).2.1) (fun p hp => ?_) (fun p hp => ?_) (fun p hp j hj => ?_) (hQ M23 hME hI23)
  · obtain ⟨b, b1, b2⟩ := last_M hI23 hF23 hp
    exact fun z => in_last b1 hR30 b2 z
  · obtain ⟨b, b1, b2⟩ := last_M hI23 hF23 hp
    rw [← (same p hp).2.2]
    exact fun z => in_last b1 hR30 b2 z
  · obtain ⟨b, b1, b2⟩ := last_M hI23 hF23 hp
    unfold caF
    rw [← (same p hp).2.2, b2]
    unfold suv
    have e5 : M23 5 1 0 j = M23 5 0 0 j := by
      rw [hfr 5 1 (by omega), keep 5 (by decide) (by decide) (by decide) (by decide), c5 j hj, k23 5 0 (by unfold mnk; omega)]
    rw [ncl (show j < 2 ^ 31 by omega), e5, k23 5 0 (by unfold mnk; omega)]
    by_cases q : M 5 0 0 j = 1
    · rw [if_pos q, if_pos q]
    · rw [if_neg q, if_neg q]
      rcases Nat.eq_zero_or_pos b with z | z
      · subst z; rfl
      · rw [p_nI z, ncl (show b - 1 < 2 ^ 31 by omega), s16 (b - 1) (by omega) j hj q]
