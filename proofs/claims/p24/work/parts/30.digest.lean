/-! The digest is a function of the table; an edit that changes nothing changes no page. -/
theorem up_loopL {W : Nat → Int64 → Int32 → Mem → Prop} (I : Nat → Int64) (N : Nat) (M : Mem) (hx : ∀ n, W (n + 1) (I N) (nI N) M) (hs : ∀ n i, i < N → W n (I (i + 1)) (nI (i + 1)) M → W (n + 1) (I i) (nI i) M) : ∃ n, W n (I 0) 0 M :=
  pk_loop (fun n i (_ : Unit) => W n (I i) (nI i) M) (fun _ _ => True) N 0 () (Nat.zero_le _) trivial (fun n _ _ => hx n) (fun n i _ hi _ k => hs n i hi (k () trivial))
def dw (d : Int64) (x : Int32) : Int64 := d * 31 + x.toInt64
def dgs (f : Nat → Int32) (d : Int64) : Nat → Int64
  | 0 => d
  | n + 1 => dw (dgs f d n) (f n)
def dgC (f : Nat → Nat → Int32) (m : Nat) (d : Int64) : Nat → Int64
  | 0 => d
  | n + 1 => dgs (f n) (dgC f m d n) m
def dRow (C : Nat) (M : Mem) (r : Nat) (d : Int64) : Int64 := dgC (fun c => cellF C M r c) 4 (dgs (rowF M r) d 3) C
def dRows (C : Nat) (M : Mem) (d : Int64) : Nat → Int64
  | 0 => d
  | n + 1 => dRow C M n (dRows C M d n)
def dPage (C R : Nat) (M : Mem) (p : Nat) (d : Int64) : Int64 := dgs (fun c => caF M (chq M) 0 p c) (dgs (pageF C R M p) d 5) C
def dPages (C R : Nat) (M : Mem) (d : Int64) : Nat → Int64
  | 0 => d
  | n + 1 => dPage C R M n (dPages C R M d n)
def pgN (M : Mem) : Nat := (M 3 (chq M) 0 6).toNatClampNeg
def DIG (C R : Nat) (M : Mem) : Int64 :=
  dw (dw (dPages C R M (dRows C M (dgC (fun c => colF R M c) 5 (dgs (tblF C R M) 58119 8) C) R) (pgN M)) (pnO (LAYF (vw M 0) C R (nI 30) (20 - 3)))) (pnO (LAYF (vw M 0) C R (nI 20) (30 - 3)))
theorem sp_digestWith {d : Int64} {x : Int32} {M : Mem} {Q : Int64 → Mem → Prop} (hQ : Q (dw d x) M) : wp_X4_digestWith d x M Q := hQ
theorem sp_digestWithRow {C R r : Nat} {d : Int64} {M : Mem} {Q : Int64 → Mem → Prop} (hC : M 1 0 0 0 = nI C) (hC6 : C ≤ 6) (hr : r < 30) (hQ : Q (dRow C M r d) M) : wp_X4_digestWithRow d (nI r) M Q := by
  unfold wp_X4_digestWithRow
  refine up_loopL (W := fun n x v M => wp_X4_digestWithRow_L6 d (nI r) _ Q n x v M) (fun i => dgs (rowF M r) d i) 3 M (fun n => ?_) (fun n i hi ih => ?_)
  · unfold wp_X4_digestWithRow_L6
    refine ⟨fun _ => ?_, fun z => absurd (nI_lt (a := 2) (b := 3) (by decide) (by decide)) z⟩
    unfold wp_X4_digestWithRow_L32
    refine up_loopL (W := fun n x v M => wp_X4_digestWithRow_L35 d (nI r) _ Q n x v M) (fun i => dgC (fun c => cellF C M r c) 4 (dgs (rowF M r) d 3) i) C M (fun n => ?_) (fun n i hi ih => ?_)
    · unfold wp_X4_digestWithRow_L35
      exact ⟨fun _ => hQ, fun z => absurd (by rw [hC]; exact Int32.le_refl _) z⟩
    · unfold wp_X4_digestWithRow_L35
      refine ⟨fun z => absurd (by rw [hC] at z; exact z) (nI_ge (a := i) (b := C) hi (by omega)), fun _ => ?_⟩
      refine up_loopL (W := fun n x v M => wp_X4_digestWithRow_L50 d (nI r) (nI i) _ Q n x v M) (fun j => dgs (cellF C M r i) (dgC (fun c => cellF C M r c) 4 (dgs (rowF M r) d 3) i) j) 4 M (fun n2 => ?_) (fun n2 j hj ih2 => ?_)
      · unfold wp_X4_digestWithRow_L50
        refine ⟨fun _ => ?_, fun z => absurd (nI_lt (a := 3) (b := 4) (by decide) (by decide)) z⟩
        unfold wp_X4_digestWithRow_L78
        rw [s_nI]; exact ih
      · unfold wp_X4_digestWithRow_L50
        refine ⟨fun z => absurd z (nI_nlt (a := 3) (b := j) (by omega) (by omega)), fun _ => sp_factOfCell hC hC6 hr hi hj (sp_digestWith ?_)⟩
        rw [s_nI]; exact ih2
  · unfold wp_X4_digestWithRow_L6
    refine ⟨fun z => absurd z (nI_nlt (a := 2) (b := i) (by omega) (by omega)), fun _ => sp_factOfRow hr hi (sp_digestWith ?_)⟩
    rw [s_nI]; exact ih
theorem sp_digestWithPage {C R p : Nat} {d : Int64} {M : Mem} {Q : Int64 → Mem → Prop} (hC : M 1 0 0 0 = nI C) (hC6 : C ≤ 6) (hR : M 1 0 0 5 = nI R) (hR30 : R ≤ 30) (hp : p < 60) (hl : 0 ≤ M 26 (chq M) 0 p → vp_in (M 26 (chq M) 0 p) 30) (hQ : Q (dPage C R M p d) M) : wp_X4_digestWithPage d (nI p) M Q := by
  unfold wp_X4_digestWithPage
  refine up_loopL (W := fun n x v M => wp_X4_digestWithPage_L6 d (nI p) _ Q n x v M) (fun i => dgs (pageF C R M p) d i) 5 M (fun n => ?_) (fun n i hi ih => ?_)
  · unfold wp_X4_digestWithPage_L6
    refine ⟨fun _ => ?_, fun z => absurd (nI_lt (a := 4) (b := 5) (by decide) (by decide)) z⟩
    unfold wp_X4_digestWithPage_L32
    refine up_loopL (W := fun n x v M => wp_X4_digestWithPage_L35 d (nI p) _ Q n x v M) (fun i => dgs (fun c => caF M (chq M) 0 p c) (dgs (pageF C R M p) d 5) i) C M (fun n => ?_) (fun n i hi ih => ?_)
    · unfold wp_X4_digestWithPage_L35
      exact ⟨fun _ => hQ, fun z => absurd (by rw [hC]; exact Int32.le_refl _) z⟩
    · unfold wp_X4_digestWithPage_L35
      refine ⟨fun z => absurd (by rw [hC] at z; exact z) (nI_ge (a := i) (b := C) hi (by omega)), fun _ => sp_chosen0 (sp_carriedOn hp (by omega) hl (sp_digestWith ?_))⟩
      rw [s_nI]; exact ih
  · unfold wp_X4_digestWithPage_L6
    refine ⟨fun z => absurd z (nI_nlt (a := 4) (b := i) (by omega) (by omega)), fun _ => sp_factOfPage hC hC6 hR hR30 hp hi (sp_digestWith ?_)⟩
    rw [s_nI]; exact ih
/-- the chosen layout is one of the two, with its paper -/
theorem ch_of {C R W H : Nat} {M : Mem} (hI : Inv C R W H M) {wd : Nat → Int32} {a : AS} (h : chL C R W H M = some (wd, a)) : ∃ w L, 10 ≤ L ∧ L ≤ 60 ∧ w ≤ 60 ∧ LAYF (vw M 0) C R (nI w) (L - 3) = some (wd, a) ∧ ((trn (upL C R W H M) (tuL C R W H M) = 0 ∧ w = W ∧ L = H) ∨ (¬ trn (upL C R W H M) (tuL C R W H M) = 0 ∧ w = H ∧ L = W)) := by
  have h2 := hI.2.1
  unfold chL at h
  by_cases z : trn (upL C R W H M) (tuL C R W H M) = 0
  · rw [if_pos z] at h
    exact ⟨W, H, h2.2.2.2.2.1, h2.2.2.2.2.2.1, h2.2.2.1, h, Or.inl ⟨z, rfl, rfl⟩⟩
  · rw [if_neg z] at h
    exact ⟨H, W, h2.2.1, h2.2.2.1, h2.2.2.2.2.2.1, h, Or.inr ⟨z, rfl, rfl⟩⟩
/-- heights and notes of a layout that fits, in their ranges -/
theorem lay_rng {C R W H w L : Nat} {M : Mem} (hI : Inv C R W H M) (hL : 10 ≤ L) (hL2 : L ≤ 60) {wd : Nat → Int32} {a : AS} (h : LAYF (vw M 0) C R (nI w) (L - 3) = some (wd, a)) :
    (∀ r, r < R → rhF (vw M 0) C wd r C = nI (hY (vw M 0) C R wd r) ∧ hY (vw M 0) C R wd r ≤ L - 3) ∧ (∀ r, r < R → M 4 0 r 4 = nI (ntY (vw M 0) R r) ∧ ntY (vw M 0) R r ≤ 5) ∧ ∀ r, r < R → (M 4 0 r 5 = 0 ↔ kpY (vw M 0) R r = false) := by
  have hR := hI.1.2.2.2
  obtain ⟨-, l2, -⟩ := LAYF_some h
  refine ⟨fun r hr => ?_, fun r hr => ?_, fun r hr => ?_⟩
  · obtain ⟨d1, d2⟩ := clamp_le (n := L - 3) (rhF_pos C) (l2 r hr) (by omega)
    simp only [hY, if_pos hr]
    exact ⟨d1, d2⟩
  · have hn := (hI.2.2.2.1 r (by omega)).1
    obtain ⟨c1, c2⟩ := clamp_le (n := 5) hn.1 hn.2 (by omega)
    simp only [ntY, if_pos hr]
    exact ⟨c1, c2⟩
  · by_cases z : M 4 0 r 5 = 0 <;> simp [kpY, hr, vw, z]
theorem lay_pages {C R W H w L : Nat} {M : Mem} (hI : Inv C R W H M) (hL : 10 ≤ L) (hL2 : L ≤ 60) {wd : Nat → Int32} {a : AS} (h : LAYF (vw M 0) C R (nI w) (L - 3) = some (wd, a)) :
    ∃ B N, asI (ntY (vw M 0) R) (hY (vw M 0) C R wd) (kpY (vw M 0) R) R (L - 3) B N a ∧ a.2.1 = R ∧ a.2.2.1 = R := by
  obtain ⟨r1, r2, r3⟩ := lay_rng hI hL hL2 h
  obtain ⟨-, -, l3⟩ := LAYF_some h
  rw [l3]
  exact PAG_prop hI.1.2.2.2 (fun r hr => (r1 r hr).2) (fun r hr => by have := (r2 r hr).2; omega)
theorem last_in {C R W H : Nat} {M : Mem} (hI : Inv C R W H M) {wd : Nat → Int32} {a : AS} (h : chL C R W H M = some (wd, a)) {p : Nat} (hp : p < a.1) : ∃ b, b ≤ R ∧ a.2.2.2.2.2.2.2.2.2 p = nI b - 1 := by
  obtain ⟨w, L, h1, h2, h3, h4, -⟩ := ch_of hI h
  obtain ⟨B, N, hA, -, -⟩ := lay_pages hI h1 h2 h4
  have := hA.2.2.2.2.2.2.2.2.2.2 p hp
  exact ⟨B (p + 1), this.2.1, this.2.2.2.2.2.2.2.2.1⟩
theorem in_last {b R : Nat} (hb : b ≤ R) (hR : R ≤ 30) {x : Int32} (hx : x = nI b - 1) (h : 0 ≤ x) : vp_in x 30 := by
  subst hx
  rcases Nat.eq_zero_or_pos b with z | z
  · subst z; exact absurd h (by decide)
  · rw [p_nI z]; exact vin (by omega) (by decide)
theorem ch_pg {C R W H : Nat} {M : Mem} (hI : Inv C R W H M) (hF : Fresh C R W H M) : M 3 (chq M) 0 6 = nI (pgN M) ∧ pgN M ≤ 60 ∧ ∀ p, p < pgN M → ∃ wd a, chL C R W H M = some (wd, a) ∧ p < a.1 ∧ a.1 = pgN M := by
  have hl := ch_LYS hF
  unfold pgN
  cases hc : chL C R W H M with
  | none =>
    rw [hc] at hl
    rw [hl.2]
    exact ⟨rfl, by decide, fun p hp => absurd hp (Nat.not_lt_zero _)⟩
  | some x =>
    obtain ⟨wd, a⟩ := x
    rw [hc] at hl
    have e : M 3 (chq M) 0 6 = nI a.1 := hl.2.2.2.1
    obtain ⟨w, L, h1, h2, h3, h4, -⟩ := ch_of hI hc
    have := LAYF_pg h4
    rw [e, ncl (by omega)]
    exact ⟨rfl, this, fun p hp => ⟨wd, a, rfl, hp, rfl⟩⟩
theorem last_M {C R W H : Nat} {M : Mem} (hI : Inv C R W H M) (hF : Fresh C R W H M) {p : Nat} (hp : p < pgN M) : ∃ b, b ≤ R ∧ M 26 (chq M) 0 p = nI b - 1 := by
  obtain ⟨wd, a, h1, h2, h3⟩ := (ch_pg hI hF).2.2 p hp
  have hl := ch_LYS hF
  rw [h1] at hl
  obtain ⟨b, b1, b2⟩ := last_in hI h1 h2
  exact ⟨b, b1, by rw [(hl.2.2.2.2.2.2.2.2 p h2).2.2.2.2, b2]⟩
theorem sp_digest {C R W H : Nat} {M : Mem} {Q : Int64 → Mem → Prop} (h : Tab C R W H M) (hQ : ∀ M' M'', Inv C R W H M' → Fresh C R W H M' → LK M M' → (M 0 0 0 4 = 0 → M' = M) → frL 4 M' M'' → Q (DIG C R M') M'') : wp_X4_digest M Q := by
  unfold wp_X4_digest
  refine sp_refresh h (fun M1 hI hF hs hm => ?_)
  have hC := hI.1.1
  have hC6 := hI.1.2.1
  have hR := hI.1.2.2.1
  have hR30 := hI.1.2.2.2
  obtain ⟨g1, g2, g3⟩ := ch_pg hI hF
  refine up_loopL (W := fun n x v M => wp_X4_digest_L10 _ Q n x v M) (fun i => dgs (tblF C R M1) 58119 i) 8 M1 (fun n => ?_) (fun n i hi ih => ?_)
  · unfold wp_X4_digest_L10
    refine ⟨fun _ => ?_, fun z => absurd (nI_lt (a := 7) (b := 8) (by decide) (by decide)) z⟩
    unfold wp_X4_digest_L32
    refine up_loopL (W := fun n x v M => wp_X4_digest_L34 _ Q n x v M) (fun i => dgC (fun c => colF R M1 c) 5 (dgs (tblF C R M1) 58119 8) i) C M1 (fun n => ?_) (fun n i hi ih => ?_)
    · unfold wp_X4_digest_L34
      refine ⟨fun _ => ?_, fun z => absurd (by rw [hC]; exact Int32.le_refl _) z⟩
      unfold wp_X4_digest_L78
      refine up_loopL (W := fun n x v M => wp_X4_digest_L80 _ Q n x v M) (fun i => dRows C M1 (dgC (fun c => colF R M1 c) 5 (dgs (tblF C R M1) 58119 8) C) i) R M1 (fun n => ?_) (fun n i hi ih => ?_)
      · unfold wp_X4_digest_L80
        refine ⟨fun _ => ?_, fun z => absurd (by rw [hR]; exact Int32.le_refl _) z⟩
        unfold wp_X4_digest_L104
        refine sp_chosen0 ?_
        rw [g1]
        refine up_loopL (W := fun n x v M => wp_X4_digest_L118 (nI (pgN M1)) _ Q n x v M) (fun i => dPages C R M1 (dRows C M1 (dgC (fun c => colF R M1 c) 5 (dgs (tblF C R M1) 58119 8) C) R) i) (pgN M1) M1 (fun n => ?_) (fun n i hi ih => ?_)
        · unfold wp_X4_digest_L118
          refine ⟨fun _ => ?_, fun z => absurd (Int32.le_refl _) z⟩
          unfold wp_X4_digest_L138
          refine sp_pagesIn (w := 30) (L := 20) hI (by decide) (by decide) (fun M2 f2 => sp_digestWith ?_)
          have hv := MEq_vw (MEq_frL (by decide) f2)
          have hI2 : Inv C R W H M2 := MEq_Inv (MEq_frL (by decide) f2) hI (fun r hr c hc hn => by rw [f2 17 1 (by omega)]; exact hI.2.2.2.2.2 1 (by decide) r hr c hc hn)
          refine sp_pagesIn (w := 20) (L := 30) hI2 (by decide) (by decide) (fun M3 f3 => sp_digestWith ?_)
          rw [hv]
          exact hQ M1 M3 hI hF (LK_SW hs) hm (frL_tr f2 f3)
        · unfold wp_X4_digest_L118
          obtain ⟨b, b1, b2⟩ := last_M hI hF hi
          refine ⟨fun z => absurd z (nI_ge (a := i) (b := pgN M1) hi (by omega)), fun _ => sp_digestWithPage hC hC6 hR hR30 (by omega) (fun z => in_last b1 hR30 b2 z) ?_⟩
          rw [s_nI]; exact ih
      · unfold wp_X4_digest_L80
        refine ⟨fun z => absurd (by rw [hR] at z; exact z) (nI_ge (a := i) (b := R) hi (by omega)), fun _ => sp_digestWithRow (R := R) hC hC6 (by omega) ?_⟩
        rw [s_nI]; exact ih
    · unfold wp_X4_digest_L34
      refine ⟨fun z => absurd (by rw [hC] at z; exact z) (nI_ge (a := i) (b := C) hi (by omega)), fun _ => ?_⟩
      refine up_loopL (W := fun n x v M => wp_X4_digest_L48 (nI i) _ Q n x v M) (fun j => dgs (colF R M1 i) (dgC (fun c => colF R M1 c) 5 (dgs (tblF C R M1) 58119 8) i) j) 5 M1 (fun n2 => ?_) (fun n2 j hj ih2 => ?_)
      · unfold wp_X4_digest_L48
        refine ⟨fun _ => ?_, fun z => absurd (nI_lt (a := 4) (b := 5) (by decide) (by decide)) z⟩
        unfold wp_X4_digest_L72
        rw [s_nI]; exact ih
      · unfold wp_X4_digest_L48
        refine ⟨fun z => absurd z (nI_nlt (a := 4) (b := j) (by omega) (by omega)), fun _ => sp_factOfColumn hR hR30 (by omega) hj (sp_digestWith ?_)⟩
        rw [s_nI]; exact ih2
  · unfold wp_X4_digest_L10
    refine ⟨fun z => absurd z (nI_nlt (a := 7) (b := i) (by omega) (by omega)), fun _ => sp_factOfTable hC hC6 hR hR30 hi (sp_digestWith ?_)⟩
    rw [s_nI]; exact ih
theorem DIG_ME {C R : Nat} {M M' : Mem} (h : MEq M M') : DIG C R M' = DIG C R M := by
  have k : ∀ f, M' f 0 = M f 0 := fun f => h f 0 (by unfold mnk; omega)
  have kq : ∀ f, (f = 3 ∨ (18 ≤ f ∧ f ≤ 26)) → M' f (chq M) = M f (chq M) := fun f hf => h f _ (by have := chq_lt M; unfold mnk; omega)
  have hq := MEq_chq h
  have hv := MEq_vw h
  have e3 := kq 3 (by omega)
  have esu : ∀ r c, suv M' 0 r c = suv M 0 r c := fun r c => by unfold suv; rw [k 5, k 16]
  have et : tblF C R M' = tblF C R M := by
    funext w
    unfold tblF
    rw [hq]
    unfold pnv
    rw [e3, kq 18 (by omega), kq 19 (by omega), kq 20 (by omega), kq 21 (by omega), k 2, k 4]
  have ec : (fun c => colF R M' c) = fun c => colF R M c := by
    funext c w
    unfold colF
    rw [hq, e3, kq 18 (by omega), k 5, k 9, k 10, esu]
  have er : ∀ r, rowF M' r = rowF M r := fun r => by
    funext w
    unfold rowF
    rw [hq, e3, kq 19 (by omega), kq 20 (by omega), kq 21 (by omega)]
  have ece : ∀ r, (fun c => cellF C M' r c) = fun c => cellF C M r c := fun r => by
    funext c w
    unfold cellF
    rw [hq, e3, kq 18 (by omega), k 5, k 13, k 12, k 17, hv, esu]
  have ep : ∀ p, pageF C R M' p = pageF C R M p := fun p => by
    funext w
    unfold pageF
    rw [hq, kq 22 (by omega), kq 23 (by omega), kq 24 (by omega), kq 25 (by omega), kq 20 (by omega), k 17, k 5]
  have ea : ∀ p, (fun c => caF M' (chq M') 0 p c) = fun c => caF M (chq M) 0 p c := fun p => by
    funext c
    unfold caF
    rw [hq, kq 26 (by omega), esu]
  have edr : ∀ d n, dRows C M' d n = dRows C M d n := fun d n => by
    induction n with
    | zero => rfl
    | succ n ih => simp only [dRows, dRow, ih, er, ece]
  have edp : ∀ d n, dPages C R M' d n = dPages C R M d n := fun d n => by
    induction n with
    | zero => rfl
    | succ n ih => simp only [dPages, dPage, ih, ep, ea]
  unfold DIG pgN
  rw [hv, et, ec, edr, edp, hq, e3]
