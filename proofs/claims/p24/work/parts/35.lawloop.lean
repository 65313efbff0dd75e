/-! The law's loop. -/
def UP (t0 : Int32) (up tu : Option ((Nat → Int32) × AS)) : Prop := (t0 = 1 ∧ trn up tu = 0 ∧ ∃ wd a, up = some (wd, a)) ∨ (t0 = 0 ∧ ¬ trn up tu = 0 ∧ ∃ wd a, tu = some (wd, a)) ∨ (t0 = 0 ∧ up = none ∧ tu = none)
theorem lawB_545 {nT k R W H : Nat} {sc : Int32 → Int32} {v6 v13 v14 v15 t0 : Int32} {B : Int32 → Mem → Prop} {X : Mem → Prop} {Q : Int32 → Mem → Prop} {M : Mem} (hI : Inv k R W H M) (hF : Fresh k R W H M) (hW : LW k R W H M) (e13 : v13 = pnO (chL k R W H M)) (e14 : v14 = pnO (upL k R W H M)) (e15 : v15 = pnO (tuL k R W H M))
    (hU : UP t0 (upL k R W H M) (tuL k R W H M)) (hB : wp_L_lawB_L647 nT sc (nI k) B X Q v6 M) : wp_L_lawB_L545 nT sc (nI k) B X Q v6 (nI W) (nI H) v13 v14 v15 t0 M := by
  have hw := hI.2.1
  have hR := hI.1.2.2.2
  have e2 : tblF k R M 2 = v13 := by rw [e13]; exact LYS_pnv (ch_LYS hF)
  have h28 : ∀ r, r < R → M 28 0 0 r = M 4 0 r 4 := fun r hr => by rw [(hW.2.2 r (by omega)).1, if_pos hr]
  have h29 : ∀ r, r < R → M 29 0 0 r = M 4 0 r 5 := fun r hr => by rw [(hW.2.2 r (by omega)).2, if_pos hr]
  have hl := ch_LYS hF
  have e3 : tblF k R M 3 = if M 3 (chq M) 0 0 = 0 then -1 else if M 2 0 0 2 = 0 then 0 else 1 := rfl
  have f5 := hF.2.2.2.2
  unfold wp_L_lawB_L545
  refine sp_manyF hI hF (w := 2) (by decide) ?_
  rw [e2]
  refine ⟨fun _ => ?_, fun z => absurd rfl z⟩
  rcases hU with ⟨rfl, u1, wd, a, u2⟩ | ⟨rfl, u1, wd, a, u2⟩ | ⟨rfl, u1, u2⟩
  · have hc : chL k R W H M = some (wd, a) := by unfold chL; rw [if_pos u1, u2]
    have hpg := LAYF_pg (show LAYF (vw M 0) k R (nI W) (H - 3) = some (wd, a) from u2)
    have p13 : v13 = nI a.1 := by rw [e13, hc]; rfl
    have p14 : v14 = nI a.1 := by rw [e14, u2]; rfl
    rw [hc] at hl
    rw [f5, u1, hl.1, if_neg one_ne, if_pos rfl] at e3
    obtain ⟨nt, hh, kp, Bf, Nf, P, hD⟩ := LD_of hI hF hw.2.2.2.2.1 hw.2.2.2.2.2.1 hw.2.2.1 hc u2 h28 h29
    refine ⟨fun z => absurd z one_ne, fun _ => ?_⟩
    unfold wp_L_lawB_L571
    refine ⟨fun _ => sp_manyF hI hF (w := 3) (by decide) ?_, fun z => absurd (p13.trans p14.symm) z⟩
    rw [e3]
    refine ⟨fun _ => ⟨fun z => absurd z one_ne, fun _ => ?_⟩, fun z => absurd (by rw [p13]; exact nI_pos' (by omega)) z⟩
    unfold wp_L_lawB_L598
    refine ⟨fun _ => ⟨fun z => absurd z (by rw [p13]; exact nI_pos (by omega)), fun _ => ⟨fun z => absurd z one_ne, fun _ => ?_⟩⟩, fun z => absurd rfl z⟩
    unfold wp_L_lawB_L621
    refine ⟨fun z => absurd z one_ne, fun _ => ?_⟩
    unfold wp_L_lawB_L633
    rw [show (3 : Int32) = nI 3 from rfl, pk_sub (show 3 ≤ H by omega)]
    exact sp_isLaid hI hF hD ⟨fun z => absurd z one_ne, fun _ => hB⟩
  · have hc : chL k R W H M = some (wd, a) := by unfold chL; rw [if_neg u1, u2]
    have hpg := LAYF_pg (show LAYF (vw M 0) k R (nI H) (W - 3) = some (wd, a) from u2)
    have p13 : v13 = nI a.1 := by rw [e13, hc]; rfl
    have p15 : v15 = nI a.1 := by rw [e15, u2]; rfl
    rw [hc] at hl
    rw [f5, hl.1, if_neg one_ne, if_neg u1] at e3
    obtain ⟨nt, hh, kp, Bf, Nf, P, hD⟩ := LD_of hI hF hw.2.1 hw.2.2.1 hw.2.2.2.2.2.1 hc u2 h28 h29
    refine ⟨fun _ => ?_, fun z => absurd rfl z⟩
    unfold wp_L_lawB_L571
    refine ⟨fun _ => sp_manyF hI hF (w := 3) (by decide) ?_, fun z => absurd (p13.trans p15.symm) z⟩
    rw [e3]
    refine ⟨fun _ => ⟨fun _ => ?_, fun z => absurd rfl z⟩, fun z => absurd (by rw [p13]; exact nI_pos' (by omega)) z⟩
    unfold wp_L_lawB_L598
    refine ⟨fun _ => ⟨fun z => absurd z (by rw [p13]; exact nI_pos (by omega)), fun _ => ⟨fun _ => ?_, fun z => absurd rfl z⟩⟩, fun z => absurd rfl z⟩
    unfold wp_L_lawB_L621
    refine ⟨fun _ => ?_, fun z => absurd rfl z⟩
    unfold wp_L_lawB_L633
    rw [show (3 : Int32) = nI 3 from rfl, pk_sub (show 3 ≤ W by omega)]
    exact sp_isLaid hI hF hD ⟨fun z => absurd z one_ne, fun _ => hB⟩
  · have hc : chL k R W H M = none := by unfold chL; rw [u1, u2]; split <;> rfl
    have p13 : v13 = -1 := by rw [e13, hc]; rfl
    have p15 : v15 = -1 := by rw [e15, u2]; rfl
    rw [hc] at hl
    rw [if_pos hl.1] at e3
    refine ⟨fun _ => ?_, fun z => absurd rfl z⟩
    unfold wp_L_lawB_L571
    refine ⟨fun _ => sp_manyF hI hF (w := 3) (by decide) ?_, fun z => absurd (p13.trans p15.symm) z⟩
    rw [e3]
    refine ⟨fun z => absurd z (by rw [p13]; decide), fun _ => ?_⟩
    unfold wp_L_lawB_L598
    exact ⟨fun _ => ⟨fun _ => hB, fun z => absurd (by rw [p13]; decide) z⟩, fun z => absurd rfl z⟩
theorem pnO_n {x : Option ((Nat → Int32) × AS)} (hx : ∀ wd a, x = some (wd, a) → a.1 ≤ 60) : (pnO x < 0 → x = none) ∧ (¬ pnO x < 0 → ∃ wd a, x = some (wd, a)) := by
  cases x with
  | none => exact ⟨fun _ => rfl, fun z => absurd (by decide) z⟩
  | some b =>
    obtain ⟨wd, a⟩ := b
    have := hx wd a rfl
    exact ⟨fun z => absurd z (nI_pos (n := a.1) (by omega)), fun _ => ⟨wd, a, rfl⟩⟩
theorem lawB_451 {nT k R W H i : Nat} {sc : Int32 → Int32} {v7 : Int32} {B : Int32 → Mem → Prop} {X : Mem → Prop} {Q : Int32 → Mem → Prop} {M : Mem} (hW : LW k R W H M)
    (hB : ∀ M' W' H', LW k R W' H' M' → B (nI (i + 1)) M') : wp_L_lawB_L451 nT sc (nI k) B X Q (nI i) v7 M := by
  have hB : ∀ M' W' H', LW k R W' H' M' → wp_L_lawB_L647 nT sc (nI k) B X Q (nI i) M' := fun M' W' H' h => by
    unfold wp_L_lawB_L647
    rw [s_nI]
    exact hB M' W' H' h
  unfold wp_L_lawB_L451
  refine ⟨fun _ => sp_below (n := 51) (by decide) (by decide) (fun p hp => sp_below (n := 21) (by decide) (by decide) (fun q hq => ?_)), fun _ => hB M W H hW⟩
  rw [show (10 : Int32) = nI 10 from rfl, nI_add, nI_add]
  refine sp_paper hW.1 (by omega) (by omega) (by omega) (by omega) (fun M1 hI hF hl => ?_)
  have hW1 : LW k R (10 + p) (10 + q) M1 := LW_LK hW hl ⟨hI, fun _ => hF⟩
  refine sp_pagesWith hI hF (by omega) (by omega) (by omega) (by omega) (fun M2 f2 => ?_)
  have m2 := MEq_frL (by decide) f2
  have hI2 : Inv k R (10 + p) (10 + q) M2 := MEq_Inv m2 hI (fun r hr c hc hn => by rw [f2 17 1 (by omega)]; exact hI.2.2.2.2.2 1 (by decide) r hr c hc hn)
  have hF2 := MEq_Fresh m2 hF
  refine sp_pagesWith hI2 hF2 (by omega) (by omega) (by omega) (by omega) (fun M3 f3 => ?_)
  have m3 := MEq_frL (by decide) f3
  have hI3 : Inv k R (10 + p) (10 + q) M3 := MEq_Inv m3 hI2 (fun r hr c hc hn => by rw [f3 17 1 (by omega)]; exact hI2.2.2.2.2.2 1 (by decide) r hr c hc hn)
  have hF3 := MEq_Fresh m3 hF2
  have v2 := MEq_vw m2
  have v3 := MEq_vw m3
  have hW3 : LW k R (10 + p) (10 + q) M3 := LW_LK hW1 (LK_tr (MEq_LK m2) (MEq_LK m3)) ⟨hI3, fun _ => hF3⟩
  have eu : pnO (if (0 : Int32) = 0 then LAYF (vw M1 0) k R (nI (10 + p)) (10 + q - 3) else LAYF (vw M1 0) k R (nI (10 + q)) (10 + p - 3)) = pnO (upL k R (10 + p) (10 + q) M3) := by
    rw [if_pos rfl]; unfold upL; rw [v3, v2]
  have et : pnO (if (1 : Int32) = 0 then LAYF (vw M2 0) k R (nI (10 + p)) (10 + q - 3) else LAYF (vw M2 0) k R (nI (10 + q)) (10 + p - 3)) = pnO (tuL k R (10 + p) (10 + q) M3) := by
    rw [if_neg one_ne]; unfold tuL; rw [v3]
  have ec : pnO (chL k R (10 + p) (10 + q) M1) = pnO (chL k R (10 + p) (10 + q) M3) := by
    unfold chL upL tuL; rw [v3, v2]
  rw [eu, et, ec]
  have gu := pnO_n (x := upL k R (10 + p) (10 + q) M3) (fun wd a h => LAYF_pg h)
  have gt := pnO_n (x := tuL k R (10 + p) (10 + q) M3) (fun wd a h => LAYF_pg h)
  have lu : ∀ wd a, upL k R (10 + p) (10 + q) M3 = some (wd, a) → a.1 ≤ 60 := fun wd a h => LAYF_pg h
  have lt : ∀ wd a, tuL k R (10 + p) (10 + q) M3 = some (wd, a) → a.1 ≤ 60 := fun wd a h => LAYF_pg h
  have fin : ∀ t0, UP t0 (upL k R (10 + p) (10 + q) M3) (tuL k R (10 + p) (10 + q) M3) → wp_L_lawB_L545 nT sc (nI k) B X Q (nI i) (nI (10 + p)) (nI (10 + q)) (pnO (chL k R (10 + p) (10 + q) M3)) (pnO (upL k R (10 + p) (10 + q) M3)) (pnO (tuL k R (10 + p) (10 + q) M3)) t0 M3 := fun t0 hU => lawB_545 hI3 hF3 hW3 rfl rfl rfl hU (hB M3 _ _ hW3)
  refine ⟨fun z => ?_, fun z => ⟨fun y => ?_, fun y => ⟨fun x => ?_, fun x => ?_⟩⟩⟩
  · unfold wp_L_lawB_L544
    refine fin 0 ?_
    have e := gu.1 z
    rw [e]
    cases ht : tuL k R (10 + p) (10 + q) M3 with
    | none => exact Or.inr (Or.inr ⟨rfl, rfl, rfl⟩)
    | some b => exact Or.inr (Or.inl ⟨rfl, one_ne, b.1, b.2, rfl⟩)
  · unfold wp_L_lawB_L540
    refine fin 1 ?_
    obtain ⟨wd, a, e⟩ := gu.2 z
    rw [e, gt.1 y]
    exact Or.inl ⟨rfl, rfl, wd, a, rfl⟩
  · unfold wp_L_lawB_L544
    refine fin 0 ?_
    obtain ⟨wd, a, e⟩ := gu.2 z
    obtain ⟨wd', a', e'⟩ := gt.2 y
    have b1 := lu wd a e
    have b2 := lt wd' a' e'
    rw [e, e'] at x ⊢
    have x : nI a'.1 < nI a.1 := x
    have x := (nI_ltI (by omega) (by omega)).mp x
    exact Or.inr (Or.inl ⟨rfl, by show ¬ (if a'.1 < a.1 then (1 : Int32) else 0) = 0; rw [if_pos x]; exact one_ne, wd', a', rfl⟩)
  · unfold wp_L_lawB_L540
    refine fin 1 ?_
    obtain ⟨wd, a, e⟩ := gu.2 z
    obtain ⟨wd', a', e'⟩ := gt.2 y
    have b1 := lu wd a e
    have b2 := lt wd' a' e'
    rw [e, e'] at x ⊢
    have x : ¬ nI a'.1 < nI a.1 := x
    have x : ¬ a'.1 < a.1 := fun u => x (nI_lt u (by omega))
    exact Or.inl ⟨rfl, by show (if a'.1 < a.1 then (1 : Int32) else 0) = 0; rw [if_neg x], wd, a, rfl⟩
theorem lawB_192 {nT k R W H i c : Nat} {sc : Int32 → Int32} {v7 v9 t0 : Int32} {B : Int32 → Mem → Prop} {X : Mem → Prop} {Q : Int32 → Mem → Prop} {M : Mem} (hnT : nT = k) (hW : LW k R W H M) (hc : c < k) (hv9 : t0 = 0 ∨ ∃ r, r < R ∧ v9 = nI r)
    (hB : ∀ M' R' W' H', LW k R' W' H' M' → B (nI (i + 1)) M') : wp_L_lawB_L192 nT sc (nI k) B X Q (nI i) v7 (nI R) v9 (nI c) t0 M := by
  subst hnT
  have hI := hW.1.1
  have hR := hI.1.2.2.2
  have hC6 := hI.1.2.1
  have hcc : (nI c).toNatClampNeg = c := ncl (by omega)
  have hvc := vin (n := c) (N := nT) hc (by omega)
  have k0 := (hI.2.2.1 c hc).1
  have hK : ∀ M' R' W' H', LW nT R' W' H' M' → wp_L_lawB_L451 nT sc (nI nT) B X Q (nI i) v7 M' := fun M' R' W' H' h => lawB_451 h (fun M2 W2 H2 h2 => hB M2 R' W2 H2 h2)
  unfold wp_L_lawB_L192
  refine ⟨fun _ => ⟨fun _ => hK M R W H hW, fun z => ?_⟩, fun z => ?_, fun z => ?_, fun z => ?_, fun z1 z2 z3 z4 => ?_⟩
  · have hR3 : R < 30 := by
      rcases Nat.lt_or_ge R 30 with y | y
      · exact y
      · exact absurd (nI_le (a := 30) y (by omega)) z
    refine sp_row hW.1 hR3 (fun M' hT h5 h4 hf => ⟨fun _ => hK M' (R + 1) W H ⟨hT, fun j hj => ?_, fun r hr => ?_⟩, fun y => absurd rfl y⟩)
    · rw [hf 27 (by decide), h5]; exact hW.2.1 j hj
    · rw [hf 28 (by decide), hf 29 (by decide), h4 r 4 (Or.inl rfl), h4 r 5 (Or.inr rfl)]
      have e := hW.2.2 r hr
      rw [e.1, e.2]
      by_cases y : r = R
      · subst y; simp
      · by_cases x : r < R
        · simp [x, y, show r < R + 1 by omega]
        · simp [x, show ¬ r < R + 1 by omega]
  · obtain ⟨r, hr, rfl⟩ := hv9.resolve_left (by rw [z]; exact one_ne)
    have hrr : (nI r).toNatClampNeg = r := ncl (by omega)
    have hvr := vin (n := r) (N := 30) (by omega) (by decide)
    refine sp_below (n := 6) (by decide) (by decide) (fun t ht => ⟨hvr, fun M255 e255 => ⟨hvr, ?_⟩⟩)
    rw [hrr] at e255 ⊢
    have e : ∀ f o i' j, M255 f o i' j = if f = 28 ∧ o = 0 ∧ i' = 0 ∧ j = r then nI t else M f o i' j := fun f o i' j => by rw [e255, rd]
    have ef : ∀ f, ¬ f = 28 → M255 f = M f := fun f hf => by funext o i' j; rw [e]; simp [hf]
    have e28 : M255 28 0 0 r = nI t := by rw [e]; simp
    rw [e28]
    refine sp_note (Tab_up (fun f hf => ef f (by omega)) hW.1) hr (nI_pos' (by omega)) (nI_le (b := 5) (by omega) (by decide)) (fun M' hT h5 h4 hf => ⟨fun _ => hK M' R W H ⟨hT, fun j hj => ?_, fun r' hr' => ?_⟩, fun y => absurd ?_ y⟩)
    · rw [hf 27 (by decide), h5, ef 27 (by decide), ef 5 (by decide)]; exact hW.2.1 j hj
    · rw [hf 28 (by decide), hf 29 (by decide), h4, h4, e, ef 29 (by decide), ef 4 (by decide)]
      have e := hW.2.2 r' hr'
      rw [e.1, e.2]
      by_cases y : r' = r
      · subst y; simp [hr]
      · simp [y]
    · rw [ef 4 (by decide)]; exact (hI.2.2.2.1 r (by omega)).1.1
  · obtain ⟨r, hr, rfl⟩ := hv9.resolve_left (by rw [z]; decide)
    have hrr : (nI r).toNatClampNeg = r := ncl (by omega)
    have hvr := vin (n := r) (N := 30) (by omega) (by decide)
    have step : ∀ t, zb t → wp_L_lawB_L288 nT sc (nI nT) B X Q (nI i) v7 (nI r) t M := fun t hz => by
      unfold wp_L_lawB_L288
      rw [hrr]
      refine sp_keep hW.1 hr hz (fun M' hT h5 h4 hf => ⟨hvr, fun _ => ⟨hvr, hz, fun M2 e2 => hK M2 R W H ⟨Tab_up (fun f hf => by rw [e2]; exact up_set (by decide) f hf) hT, fun j hj => ?_, fun r' hr' => ?_⟩⟩, fun y => absurd ?_ y⟩)
      · rw [e2, rd, rd, if_neg (by simp), if_neg (by simp), hf 27 (by decide), h5]; exact hW.2.1 j hj
      · rw [e2, rd, rd, rd, rd, hf 28 (by decide), hf 29 (by decide), h4, h4]
        have e := hW.2.2 r' hr'
        rw [e.1, e.2]
        by_cases y : r' = r
        · subst y; simp [hr]
        · simp [y]
      · rw [hf 29 (by decide), (hW.2.2 r (by omega)).2, if_pos hr]
    exact sp_below (n := 2) (by decide) (by decide) (fun t ht => ⟨fun _ => step 1 zb_1, fun _ => step 0 zb_0⟩)
  · obtain ⟨r, hr, rfl⟩ := hv9.resolve_left (by rw [z]; decide)
    rw [hcc]
    refine ⟨hvc, fun _ => hK M R W H hW, fun y => ⟨fun _ => hK M R W H hW, fun x => ?_⟩⟩
    rw [s_nI] at x
    have hc1 : c + 1 < nT := by
      rcases Nat.lt_or_ge (c + 1) nT with u | u
      · exact u
      · exact absurd (nI_le u (by omega)) x
    have hk1 : M 5 0 0 c = 1 := by
      rw [hW.2.1 c hc] at y
      exact k0.resolve_left y
    have step : ∀ t, zb t → wp_L_lawB_L355 nT sc (nI nT) B X Q (nI i) v7 (nI c) t (nI c) (nI r) M := fun t hz => by
      unfold wp_L_lawB_L355
      refine sp_span hW.1 hr hc1 hk1 hz (fun M' x hT hl hx => ⟨fun _ => hK M' R W H (LW_LK hW hl hT), fun u => ?_⟩)
      rw [s_nI, ncl (show c + 1 < 2 ^ 31 by omega)]
      have e1 : M 5 0 0 (c + 1) = 1 := Classical.byContradiction (fun w => u (hx w))
      refine ⟨vin hc1 (by omega), fun w => ?_, fun _ => hK M' R W H (LW_LK hW hl hT)⟩
      rw [hl.2.2 27 (by decide), hW.2.1 (c + 1) hc1, e1] at w
      exact absurd w one_ne
    exact sp_below (n := 2) (by decide) (by decide) (fun t ht => ⟨fun _ => step 1 zb_1, fun _ => step 0 zb_0⟩)
  · obtain ⟨r, hr, rfl⟩ := hv9.resolve_left z1
    rw [hcc]
    refine sp_below (n := 90) (by decide) (by decide) (fun len hlen => ⟨hvc, fun y => ?_, fun y => ?_⟩)
    · have hk0 : M 5 0 0 c = 0 := by rw [← hW.2.1 c hc]; exact y
      refine sp_below (n := 3000) (by decide) (by decide) (fun t ht => ?_)
      have et : (nI t - 1000).toInt = (t : Int) - 1000 := by
        have e1000 : (1000 : Int32).toInt = 1000 := by decide
        rw [t_sub] <;> rw [t_nI (by omega), e1000] <;> omega
      refine sp_number hW.1 hr hc hk0 ?_ ?_ (fun M' hT hl => ⟨fun _ => hK M' R W H (LW_LK hW hl hT), fun u => absurd ((hI.2.2.2.1 r (by omega)).2.2 c (by omega)).1 u⟩)
      · rw [t_le, et, show (-9999 : Int32).toInt = -9999 by decide]; omega
      · rw [t_le, et, show (9999 : Int32).toInt = 9999 by decide]; omega
    · have hk1 : M 5 0 0 c = 1 := by
        rw [hW.2.1 c hc] at y
        exact k0.resolve_left y
      refine sp_below (n := 13) (by decide) (by decide) (fun t ht => ?_)
      have hy : ∃ m, (if nI t < nI len then nI t else nI len) = nI m ∧ m ≤ 12 ∧ m ≤ len := by
        by_cases u : t < len
        · exact ⟨t, if_pos (nI_lt u (by omega)), by omega, by omega⟩
        · exact ⟨len, if_neg (nI_nlt (by omega) (by omega)), by omega, Nat.le_refl _⟩
      obtain ⟨m, hm, m1, m2⟩ := hy
      rw [hm]
      exact sp_text hW.1 hr hc hk1 (nI_pos' (by omega)) (nI_le (b := 200) (by omega) (by decide)) (nI_pos' (by omega)) (nI_le (b := 12) m1 (by decide)) (nI_le m2 (by omega)) (fun M' hT hl => ⟨fun _ => hK M' R W H (LW_LK hW hl hT), fun u => absurd (hI.2.2.2.2.1 r (by omega) c (by omega)).1 u⟩)
theorem lawB_loop {nT k R W H : Nat} {sc : Int32 → Int32} {X : Mem → Prop} {Q : Int32 → Mem → Prop} {M : Mem} (hnT : nT = k) (hk : 0 < k) (hW : LW k R W H M)
    (hX : ∀ M' R' W' H', LW k R' W' H' M' → X M') : ∃ n, wp_L_lawB_L106 nT sc (nI k) X Q n 0 M := by
  refine up_loop (W := fun n v M => wp_L_lawB_L106 nT sc (nI k) X Q n v M) (fun i M' => ∃ R W H, LW k R W H M') 60 M ⟨R, W, H, hW⟩ ?_ ?_
  · rintro n M' ⟨R, W, H, h⟩
    unfold wp_L_lawB_L106
    exact ⟨fun _ => hX M' R W H h, fun z => absurd (Int32.le_refl _) z⟩
  · rintro n i M' hi ⟨R, W, H, h⟩ ih
    have hC6 := h.1.1.1.2.1
    unfold wp_L_lawB_L106
    refine ⟨fun z => absurd z (nI_ge (a := i) (b := 60) hi (by decide)), fun _ => ?_⟩
    have e16 : nI i - nI i / 16 * 16 = nI (i % 16) := pk_rem (d := 16) (by omega) (by decide) (by decide)
    rw [e16]
    refine ⟨nI_pos' (by omega), ?_⟩
    refine sp_many h.1 (w := 1) (by decide) (fun M1 hI hF hs _ => ?_)
    have h1 : LW k R W H M1 := LW_LK h (LK_SW hs) ⟨hI, fun _ => hF⟩
    have hR := hI.1.2.2.2
    have e1 : tblF k R M1 1 = nI R := rfl
    rw [e1]
    have step : ∀ v7 v9 : Int32, (R < 3 ∨ ∃ r, r < R ∧ v9 = nI r) → wp_L_lawB_L163 nT sc (nI k) (wp_L_lawB_L106 nT sc (nI k) X Q n) X Q (nI i) v7 (nI R) v9 M1 := fun v7 v9 hv => by
      unfold wp_L_lawB_L163
      refine sp_below hk (by omega) (fun c hc => ⟨fun z => sp_below (n := 6) (by decide) (by decide) (fun t ht => ?_), fun z => ?_⟩)
      · refine lawB_192 hnT h1 hc (Or.inr (hv.resolve_left (fun y => ?_))) (fun M' R' W' H' h' => ih M' ⟨R', W', H', h'⟩)
        exact absurd z (nI_ge (b := 3) y (by decide))
      · exact lawB_192 hnT h1 hc (Or.inl rfl) (fun M' R' W' H' h' => ih M' ⟨R', W', H', h'⟩)
    refine ⟨fun z => step _ _ (Or.inl ?_), fun z => ?_⟩
    · have := nI_inj (b := 0) (by omega) (by decide) z
      omega
    · have h0 : 0 < R := by
        rcases Nat.eq_zero_or_pos R with y | y
        · subst y; exact absurd rfl z
        · exact y
      exact sp_below h0 (by omega) (fun r hr => step _ _ (Or.inr ⟨r, hr, rfl⟩))
