/-! A whole layout, in numbers. -/
/-- pages so far; next row, next note; the page of each row, of each note; of each page: first row, rows, notes, lines left, last row -/
abbrev AS : Type := Nat × Nat × Nat × (Nat → Int32) × (Nat → Int32) × (Nat → Int32) × (Nat → Int32) × (Nat → Int32) × (Nat → Int32) × (Nat → Int32)
def asN (nt h : Nat → Nat) (kp : Nat → Bool) (R rm : Nat) (a : AS) : AS :=
  match a with
  | (p, nr, nn, rp, np, FR, RO, NO, LF, LR) =>
    match pgF nt h kp R rm p nr nn rp np with
    | (nr', ro, fr, rp', (nn', lf, no, np')) => (p + 1, nr', nn', rp', np', upd FR p fr, upd RO p (nI ro), upd NO p (nI no), upd LF p (nI lf), upd LR p (nI nr' - 1))
def agF (nt h : Nat → Nat) (kp : Nat → Bool) (R rm : Nat) : Nat → AS → AS
  | 0, a => a
  | k + 1, a => if a.2.1 < R ∨ a.2.2.1 < a.2.1 then agF nt h kp R rm k (asN nt h kp R rm a) else a
def as0 : AS := (0, 0, 0, (fun _ => 0), (fun _ => 0), (fun _ => 0), (fun _ => 0), (fun _ => 0), (fun _ => 0), (fun _ => 0))
def PAG (nt h : Nat → Nat) (kp : Nat → Bool) (R rm : Nat) : AS := agF nt h kp R rm 60 as0
/-- the cells hold a state of the filling -/
def asM (M : Mem) (q : Nat) (a : AS) : Prop :=
  M 3 q 0 6 = nI a.1 ∧ M 3 q 0 12 = nI a.2.1 ∧ M 3 q 0 13 = nI a.2.2.1 ∧ (∀ r, r < a.2.1 → M 20 q 0 r = a.2.2.2.1 r) ∧ (∀ r, r < a.2.2.1 → M 21 q 0 r = a.2.2.2.2.1 r) ∧
  ∀ p, p < a.1 → M 22 q 0 p = a.2.2.2.2.2.1 p ∧ M 23 q 0 p = a.2.2.2.2.2.2.1 p ∧ M 24 q 0 p = a.2.2.2.2.2.2.2.1 p ∧ M 25 q 0 p = a.2.2.2.2.2.2.2.2.1 p ∧ M 26 q 0 p = a.2.2.2.2.2.2.2.2.2 p
/-- what the filling leaves as it is -/
def frP (q : Nat) (M M' : Mem) : Prop := (∀ f' o', ¬ (o' = q ∧ (f' = 3 ∨ (20 ≤ f' ∧ f' ≤ 26))) → M' f' o' = M f' o') ∧ M' 3 q 0 0 = M 3 q 0 0 ∧ M' 3 q 0 1 = M 3 q 0 1
theorem frP_rf {q : Nat} {M : Mem} : frP q M M := ⟨fun _ _ _ => rfl, rfl, rfl⟩
theorem frP_tr {q : Nat} {M M1 M2 : Mem} (h : frP q M M1) (h2 : frP q M1 M2) : frP q M M2 := ⟨fun f' o' hn => (h2.1 f' o' hn).trans (h.1 f' o' hn), h2.2.1.trans h.2.1, h2.2.2.trans h.2.2⟩
theorem flF_le {nt h : Nat → Nat} {kp : Nat → Bool} {R rm p : Nat} : ∀ (k : Nat) (s : FS), s.1 ≤ R → s.2.2.2.2.1 ≤ s.1 →
    s.1 ≤ (flF nt h kp R rm p k s).1 ∧ (flF nt h kp R rm p k s).1 ≤ R ∧ s.2.2.2.2.1 ≤ (flF nt h kp R rm p k s).2.2.2.2.1 ∧ (flF nt h kp R rm p k s).2.2.2.2.1 ≤ (flF nt h kp R rm p k s).1 ∧ (∀ j, j < s.1 → (flF nt h kp R rm p k s).2.2.2.1 j = s.2.2.2.1 j) ∧ ∀ j, j < s.2.2.2.2.1 → (flF nt h kp R rm p k s).2.2.2.2.2.2.2 j = s.2.2.2.2.2.2.2 j
  | 0, s, h1, h2 => ⟨Nat.le_refl _, h1, Nat.le_refl _, h2, fun _ _ => rfl, fun _ _ => rfl⟩
  | k + 1, s, h1, h2 => by
    by_cases q : s.1 < R ∧ hrB h kp R rm s = true
    · have e : flF nt h kp R rm p (k + 1) s = flF nt h kp R rm p k (nxF nt h p s) := by simp only [flF, if_pos q]
      have nx1 : (nxF nt h p s).1 = s.1 + 1 := by unfold nxF; split <;> rfl
      have nx2 : (nxF nt h p s).2.2.2.1 = upd s.2.2.2.1 s.1 (nI p) := by unfold nxF; split <;> rfl
      have nxw : s.2.2.2.2.1 ≤ (nxF nt h p s).2.2.2.2.1 ∧ (nxF nt h p s).2.2.2.2.1 ≤ s.1 + 1 ∧ ∀ j, j < s.2.2.2.2.1 → (nxF nt h p s).2.2.2.2.2.2.2 j = s.2.2.2.2.2.2.2 j := by
        unfold nxF
        split
        · exact ⟨Nat.le_refl _, by show s.2.2.2.2.1 ≤ s.1 + 1; omega, fun _ _ => rfl⟩
        · have hw := pwF_le (nt := nt) (nr := s.1 + 1) (p := p) (s.1 + 1 - s.2.2.2.2.1) (ptF h p s).2.2.2.2 (show s.2.2.2.2.1 ≤ s.1 + 1 by omega)
          exact ⟨hw.1, hw.2.1, fun j hj => hw.2.2.2 j hj⟩
      rw [e]
      obtain ⟨a, b, c, d, f, g⟩ := flF_le (nt := nt) (h := h) (kp := kp) (R := R) (rm := rm) (p := p) k (nxF nt h p s) (by rw [nx1]; omega) (by rw [nx1]; exact nxw.2.1)
      refine ⟨by rw [nx1] at a; omega, b, Nat.le_trans nxw.1 c, d, fun j hj => ?_, fun j hj => ?_⟩
      · rw [f j (by rw [nx1]; omega), nx2]
        unfold upd
        rw [if_neg (by omega)]
      · rw [g j (Nat.lt_of_lt_of_le hj nxw.1)]
        exact nxw.2.2 j hj
    · have e : flF nt h kp R rm p (k + 1) s = s := by simp only [flF, if_neg q]
      rw [e]
      exact ⟨Nat.le_refl _, h1, Nat.le_refl _, h2, fun _ _ => rfl, fun _ _ => rfl⟩
theorem pgF_le {nt h : Nat → Nat} {kp : Nat → Bool} {R rm p nr nn : Nat} {rp np : Nat → Int32} (hnr : nr ≤ R) (hnn : nn ≤ nr) :
    nr ≤ (pgF nt h kp R rm p nr nn rp np).1 ∧ (pgF nt h kp R rm p nr nn rp np).1 ≤ R ∧ nn ≤ (pgF nt h kp R rm p nr nn rp np).2.2.2.2.1 ∧ (pgF nt h kp R rm p nr nn rp np).2.2.2.2.1 ≤ (pgF nt h kp R rm p nr nn rp np).1 ∧ (∀ j, j < nr → (pgF nt h kp R rm p nr nn rp np).2.2.2.1 j = rp j) ∧ ∀ j, j < nn → (pgF nt h kp R rm p nr nn rp np).2.2.2.2.2.2.2 j = np j := by
  have hw := pwF_le (nt := nt) (nr := nr) (p := p) (nr - nn) (nn, rm, 0, np) hnn
  have hw1 : nn ≤ (pwF nt nr p (nr - nn) (nn, rm, 0, np)).1 := hw.1
  obtain ⟨a, b, c, d, f, g⟩ := flF_le (nt := nt) (h := h) (kp := kp) (rm := rm) (p := p) (R - nr) (st0 nr rm rp nn np nt p) hnr hw.2.1
  refine ⟨a, b, Nat.le_trans hw1 c, d, f, fun j hj => ?_⟩
  show (flF nt h kp R rm p (R - nr) (st0 nr rm rp nn np nt p)).2.2.2.2.2.2.2 j = np j
  rw [g j (Nat.lt_of_lt_of_le hj hw1)]
  exact hw.2.2.2 j hj
theorem asN_le {nt h : Nat → Nat} {kp : Nat → Bool} {R rm : Nat} {a : AS} (h1 : a.2.1 ≤ R) (h2 : a.2.2.1 ≤ a.2.1) : (asN nt h kp R rm a).1 = a.1 + 1 ∧ (asN nt h kp R rm a).2.1 ≤ R ∧ (asN nt h kp R rm a).2.2.1 ≤ (asN nt h kp R rm a).2.1 := by
  obtain ⟨p, nr, nn, rp, np, FR, RO, NO, LF, LR⟩ := a
  have := pgF_le (nt := nt) (h := h) (kp := kp) (rm := rm) (p := p) (rp := rp) (np := np) h1 h2
  exact ⟨rfl, this.2.1, this.2.2.2.1⟩
theorem sp_pageStep {q o R rm : Nat} {nt h : Nat → Nat} {kp : Nat → Bool} {a : AS} {M : Mem} {Q : Mem → Prop} (hR30 : R ≤ 30) (hp : a.1 < 60) (hrm : rm ≤ 100) (hok : rows_ok M q o R rm nt h kp) (h1 : a.2.1 ≤ R) (h2 : a.2.2.1 ≤ a.2.1) (ha : asM M q a)
    (hQ : ∀ M', asM M' q (asN nt h kp R rm a) → frP q M M' → Q M') : wp_X0_fillPage q o (M 3 q 0 6) M (fun M92 => ∀ M102 : Mem, M102 = sM M92 3 q 0 6 ((M92 3 q 0 6) + 1) → Q M102) := by
  obtain ⟨p, nr, nn, rp, np, FR, RO, NO, LF, LR⟩ := a
  obtain ⟨a6, a12, a13, a20, a21, aP⟩ := ha
  have a6 : M 3 q 0 6 = nI p := a6
  have a12 : M 3 q 0 12 = nI nr := a12
  have a13 : M 3 q 0 13 = nI nn := a13
  have hp : p < 60 := hp
  have h1 : nr ≤ R := h1
  have h2 : nn ≤ nr := h2
  rw [a6]
  refine sp_fillPage (nt := nt) (h := h) (kp := kp) (rm := rm) (rp := rp) (np := np) hR30 hp hrm hok h1 h2 a12 a13 (fun M102 e102 => ?_)
  have hle := pgF_le (nt := nt) (h := h) (kp := kp) (rm := rm) (p := p) (rp := rp) (np := np) h1 h2
  have eN : asN nt h kp R rm (p, nr, nn, rp, np, FR, RO, NO, LF, LR) = (p + 1, (pgF nt h kp R rm p nr nn rp np).1, (pgF nt h kp R rm p nr nn rp np).2.2.2.2.1, (pgF nt h kp R rm p nr nn rp np).2.2.2.1, (pgF nt h kp R rm p nr nn rp np).2.2.2.2.2.2.2, upd FR p (pgF nt h kp R rm p nr nn rp np).2.2.1, upd RO p (nI (pgF nt h kp R rm p nr nn rp np).2.1), upd NO p (nI (pgF nt h kp R rm p nr nn rp np).2.2.2.2.2.2.1), upd LF p (nI (pgF nt h kp R rm p nr nn rp np).2.2.2.2.2.1), upd LR p (nI (pgF nt h kp R rm p nr nn rp np).1 - 1)) := rfl
  generalize pgF nt h kp R rm p nr nn rp np = s at e102 hle eN
  obtain ⟨l1, l2, l3, l4, l5, l6⟩ := hle
  have e6 : (sM (flM M q p s nr nn) 26 q 0 p (nI s.1 - 1)) 3 q 0 6 = nI p := by rw [rd]; simp [flM, pwM, a6]
  rw [e6, s_nI] at e102
  refine hQ M102 ?_ ?_
  · rw [eN]
    refine ⟨?_, ?_, ?_, fun r hr => ?_, fun r hr => ?_, fun p' hp' => ?_⟩
    · rw [e102, rd]; simp
    · rw [e102, rd, rd]; simp [flM]
    · rw [e102, rd, rd]; simp [flM, pwM]
    · have hr : r < s.1 := hr
      show M102 20 q 0 r = s.2.2.2.1 r
      by_cases z : nr ≤ r
      · rw [e102, rd, rd]; simp [flM, z, hr]
      · have zz : M102 20 q 0 r = M 20 q 0 r := by rw [e102, rd, rd]; simp [flM, pwM, z]
        rw [zz, l5 r (show r < nr by omega)]
        exact a20 r (show r < nr by omega)
    · have hr : r < s.2.2.2.2.1 := hr
      show M102 21 q 0 r = s.2.2.2.2.2.2.2 r
      by_cases z : nn ≤ r
      · rw [e102, rd, rd]; simp [flM, pwM, z, hr]
      · have zz : M102 21 q 0 r = M 21 q 0 r := by rw [e102, rd, rd]; simp [flM, pwM, z]
        rw [zz, l6 r (show r < nn by omega)]
        exact a21 r (show r < nn by omega)
    · have hp' : p' < p + 1 := hp'
      by_cases z : p' = p
      · subst z
        refine ⟨?_, ?_, ?_, ?_, ?_⟩ <;> · rw [e102, rd, rd]; simp [flM, pwM, upd]
      · obtain ⟨b1, b2, b3, b4, b5⟩ := aP p' (show p' < p by omega)
        refine ⟨?_, ?_, ?_, ?_, ?_⟩
        · refine Eq.trans ?_ (b1.trans ?_)
          · rw [e102, rd, rd]; simp [flM, pwM, z]
          · simp [upd, z]
        · refine Eq.trans ?_ (b2.trans ?_)
          · rw [e102, rd, rd]; simp [flM, pwM, z]
          · simp [upd, z]
        · refine Eq.trans ?_ (b3.trans ?_)
          · rw [e102, rd, rd]; simp [flM, pwM, z]
          · simp [upd, z]
        · refine Eq.trans ?_ (b4.trans ?_)
          · rw [e102, rd, rd]; simp [flM, pwM, z]
          · simp [upd, z]
        · refine Eq.trans ?_ (b5.trans ?_)
          · rw [e102, rd, rd]; simp [flM, pwM, z]
          · simp [upd, z]
  · refine ⟨fun f' o' hn => ?_, ?_, ?_⟩
    · funext i' j'
      rw [e102, rd, rd]
      simp only [flM, pwM]
      grind (splits := 40)
    · rw [e102, rd, rd]; simp [flM, pwM]
    · rw [e102, rd, rd]; simp [flM, pwM]
theorem ar_loop {q o R rm : Nat} {v2 v3 : Int32} {nt h : Nat → Nat} {kp : Nat → Bool} {Q : Mem → Prop} (hR30 : R ≤ 30) (hrm : rm ≤ 100) :
    ∀ (n k : Nat) (a : AS) (M : Mem), k < n → a.1 + k = 60 → a.2.1 ≤ R → a.2.2.1 ≤ a.2.1 → rows_ok M q o R rm nt h kp → ¬ M 3 q 0 0 = 0 → asM M q a →
      (∀ M', asM M' q (agF nt h kp R rm k a) → frP q M M' → Q M') → wp_X0_arrange_L48 q o v2 v3 (fun M => Q M) Q n M := by
  intro n
  induction n with
  | zero => intro k a M hkn; exact absurd hkn (Nat.not_lt_zero _)
  | succ n ih =>
    intro k a M hkn hk h1 h2 hok hf ha hQ
    unfold wp_X0_arrange_L48
    cases k with
    | zero =>
      refine ⟨fun z => absurd z hf, fun _ => ⟨fun _ => hQ M ha frP_rf, fun z => ?_⟩⟩
      rw [ha.1] at z
      exact absurd (nI_le (a := 60) (b := a.1) (by omega) (by omega)) z
    | succ k =>
      by_cases hb : a.2.1 < R ∨ a.2.2.1 < a.2.1
      · have eF : agF nt h kp R rm (k + 1) a = agF nt h kp R rm k (asN nt h kp R rm a) := by simp only [agF, if_pos hb]
        rw [eF] at hQ
        have hle := asN_le (nt := nt) (h := h) (kp := kp) (rm := rm) h1 h2
        have step : wp_X0_arrange_L86 q o v2 v3 (wp_X0_arrange_L48 q o v2 v3 (fun M => Q M) Q n) (fun M => Q M) Q M := by
          unfold wp_X0_arrange_L86
          exact sp_pageStep (nt := nt) (h := h) (kp := kp) (Q := wp_X0_arrange_L48 q o v2 v3 (fun M => Q M) Q n) hR30 (by omega) hrm hok h1 h2 ha (fun M' h3 h4 => ih k _ M' (by omega) (by rw [hle.1]; omega) hle.2.1 hle.2.2
            (rows_ok_k hok (by rw [h4.1 1 o (by omega)]) h4.2.2 (fun r => by rw [h4.1 4 o (by omega)]) (by rw [h4.1 19 q (by omega)])) (by rw [h4.2.1]; exact hf) h3 (fun M2 h5 h6 => hQ M2 h5 (frP_tr h4 h6)))
        refine ⟨fun z => absurd z hf, fun _ => ⟨fun z => ?_, fun _ => ⟨fun _ => step, fun z => ⟨fun z2 => ?_, fun _ => step⟩⟩⟩⟩
        · rw [ha.1] at z
          exact absurd z (nI_ge (a := a.1) (b := 60) (by omega) (by omega))
        · rw [ha.2.1, hok.1] at z
          rw [ha.2.1, ha.2.2.1] at z2
          rcases hb with y | y
          · exact absurd (nI_lt y (by omega)) z
          · exact absurd z2 (nI_ge y (by omega))
      · have eF : agF nt h kp R rm (k + 1) a = a := by simp only [agF, if_neg hb]
        rw [eF] at hQ
        refine ⟨fun z => absurd z hf, fun _ => ⟨fun _ => hQ M ha frP_rf, fun _ => ⟨fun z => ?_, fun _ => ⟨fun _ => hQ M ha frP_rf, fun z => ?_⟩⟩⟩⟩
        · rw [ha.2.1, hok.1] at z
          exact absurd ((nI_ltI (by omega) (by omega)).mp z) (fun y => hb (Or.inl y))
        · rw [ha.2.1, ha.2.2.1] at z
          exact absurd (nI_le (a := a.2.1) (b := a.2.2.1) (by omega) (by omega)) z
/-- what a layout is of a sheet's numbers: none where it does not fit; else the widths, and the pages -/
def ntY (Y : Vw) (R : Nat) : Nat → Nat := fun r => if r < R then (Y 4 r 4).toNatClampNeg else 0
def kpY (Y : Vw) (R : Nat) : Nat → Bool := fun r => if r < R then decide (¬ Y 4 r 5 = 0) else false
def hY (Y : Vw) (C R : Nat) (wd : Nat → Int32) : Nat → Nat := fun r => if r < R then (rhF Y C wd r C).toNatClampNeg else 0
def LAYF (Y : Vw) (C R : Nat) (w : Int32) (rm : Nat) : Option ((Nat → Int32) × AS) :=
  match WID (cut0 C (Y 10 0)) (cut0 C (Y 9 0)) C R w with
  | none => none
  | some wd => if ∀ r, r < R → rhF Y C wd r C ≤ nI rm then some (wd, PAG (ntY Y R) (hY Y C R wd) (kpY Y R) R rm) else none
/-- the cells of a layout hold it -/
def LYS (M : Mem) (q : Nat) (Y : Vw) (C R : Nat) : Option ((Nat → Int32) × AS) → Prop
  | none => M 3 q 0 0 = 0 ∧ M 3 q 0 6 = 0
  | some (wd, a) => M 3 q 0 0 = 1 ∧ (∀ j, j < C → M 18 q 0 j = wd j) ∧ (∀ r, r < R → M 19 q 0 r = rhF Y C wd r C) ∧ asM M q a
/-- what a layout's arranging leaves as it is -/
def frL (q : Nat) (M M' : Mem) : Prop := ∀ f' o', ¬ (o' = q ∧ (f' = 3 ∨ (18 ≤ f' ∧ f' ≤ 26))) → M' f' o' = M f' o'
theorem frL_tr {q : Nat} {M M1 M2 : Mem} (h : frL q M M1) (h2 : frL q M1 M2) : frL q M M2 := fun f' o' hn => (h2 f' o' hn).trans (h f' o' hn)
theorem frL_fr1 {f q : Nat} {M M' : Mem} (hf : f = 3 ∨ (18 ≤ f ∧ f ≤ 26)) (h : fr1 f q M M') : frL q M M' := fun f' o' hn => h f' o' (fun z => hn ⟨z.2, by rw [z.1]; exact hf⟩)
theorem rhF_c {Y Y' : Vw} {C r : Nat} {wd wd' : Nat → Int32} (h5 : ∀ c, c < C → Y 5 0 c = Y' 5 0 c) (h17 : ∀ c, c < C → Y 17 r c = Y' 17 r c) (h13 : ∀ c, c < C → Y 13 r c = Y' 13 r c) (hw : ∀ c, c < C → wd c = wd' c) : ∀ n, n ≤ C → rhF Y C wd r n = rhF Y' C wd' r n
  | 0, _ => rfl
  | n + 1, hn => by
    have ih := rhF_c h5 h17 h13 hw n (by omega)
    have e : chF Y C wd r n = chF Y' C wd' r n := by
      unfold chF
      rw [h5 n (by omega), h17 n (by omega), h13 n (by omega), hw n (by omega)]
      by_cases z : n + 1 < C
      · rw [h17 (n + 1) z, hw (n + 1) z]
      · simp [z]
    simp only [rhF, ih, e]
theorem imax_le {a b x : Int32} (h : imax a b ≤ x) : a ≤ x ∧ b ≤ x := by
  unfold imax at h
  split at h
  · rename_i q; exact ⟨Int32.le_trans (Int32.le_of_lt q) h, h⟩
  · rename_i q; exact ⟨h, Int32.le_trans (Int32.not_lt.mp q) h⟩
theorem le_imaxL (a b : Int32) : a ≤ imax a b := by
  unfold imax
  split
  · rename_i q; exact Int32.le_of_lt q
  · exact Int32.le_refl _
theorem le_imaxR (a b : Int32) : b ≤ imax a b := by
  unfold imax
  split
  · exact Int32.le_refl _
  · rename_i q; exact Int32.not_lt.mp q
theorem rhF_pos {Y : Vw} {C r : Nat} {wd : Nat → Int32} : ∀ n, 0 ≤ rhF Y C wd r n
  | 0 => Int32.le_refl _
  | n + 1 => Int32.le_trans (rhF_pos n) (le_imaxL _ _)
theorem clamp_le {x : Int32} {n : Nat} (h0 : 0 ≤ x) (h : x ≤ nI n) (hn : n < 2 ^ 31) : x = nI x.toNatClampNeg ∧ x.toNatClampNeg ≤ n := by
  obtain ⟨j, hj, rfl⟩ := nI_of (x := x) (Int32.not_lt.mpr h0)
  rw [ncl hj]
  exact ⟨rfl, (nI_leI hj hn).mp h⟩
theorem sp_arrange {q o C R L : Nat} {w : Int32} {M : Mem} {Q : Mem → Prop} (hC : M 1 o 0 0 = nI C) (hC6 : C ≤ 6) (hR : M 1 o 0 5 = nI R) (hR30 : R ≤ 30) (hL : 3 ≤ L) (hL2 : L ≤ 60)
    (hnt : ∀ r, r < R → 0 ≤ M 4 o r 4 ∧ M 4 o r 4 ≤ 5)
    (hQ : ∀ M', LYS M' q (vw M o) C R (LAYF (vw M o) C R w (L - 3)) → frL q M M' → Q M') : wp_X0_arrange q o w (nI L) M Q := by
  unfold wp_X0_arrange
  intro M4 e4
  rw [show nI L - 3 = nI (L - 3) from pk_sub (a := L) (b := 3) hL] at e4
  have f4 : fr1 3 q M M4 := by rw [e4]; exact fr1_set fr1_rf
  have fin : ∀ (t : Int32) (M5 : Mem), frL q M M5 → (t = 0 ∧ LAYF (vw M o) C R w (L - 3) = none) ∨ (t = 1 ∧ ∃ wd, LAYF (vw M o) C R w (L - 3) = some (wd, PAG (ntY (vw M o) R) (hY (vw M o) C R wd) (kpY (vw M o) R) R (L - 3)) ∧ (∀ j, j < C → M5 18 q 0 j = wd j) ∧ (∀ r, r < R → M5 19 q 0 r = rhF (vw M o) C wd r C ∧ rhF (vw M o) C wd r C ≤ nI (L - 3)) ∧ M5 3 q 0 1 = nI (L - 3)) →
      wp_X0_arrange_L30 q o w (nI L) Q t q M5 := by
    intro t M5 h5 ht
    unfold wp_X0_arrange_L30
    have hz : zb t := ht.elim (fun z => Or.inl z.1) (fun z => Or.inr z.1)
    refine ⟨hz, fun M30 e30 M35 e35 M40 e40 M45 e45 => ?_⟩
    have f45 : fr1 3 q M5 M45 := by rw [e45, e40, e35, e30]; exact fr1_set (fr1_set (fr1_set (fr1_set fr1_rf)))
    have g0 : M45 3 q 0 0 = t := by rw [e45, rd, e40, rd, e35, rd, e30, rd]; simp
    have g6 : M45 3 q 0 6 = nI 0 := by rw [e45, rd, e40, rd, e35, rd]; simp; rfl
    have g12 : M45 3 q 0 12 = nI 0 := by rw [e45, rd, e40, rd]; simp; rfl
    have g13 : M45 3 q 0 13 = nI 0 := by rw [e45, rd]; simp; rfl
    have g1 : M45 3 q 0 1 = M5 3 q 0 1 := by rw [e45, rd, e40, rd, e35, rd, e30, rd]; simp
    have F : frL q M M45 := frL_tr h5 (frL_fr1 (Or.inl rfl) f45)
    rcases ht with ⟨rfl, hl⟩ | ⟨rfl, wd, hl, hw, hh, h1⟩
    · refine ⟨1, ?_⟩
      unfold wp_X0_arrange_L48
      refine ⟨fun _ => hQ M45 ?_ F, fun z => absurd g0 z⟩
      rw [hl]
      exact ⟨g0, g6⟩
    · refine ⟨61, ar_loop (nt := ntY (vw M o) R) (h := hY (vw M o) C R wd) (kp := kpY (vw M o) R) (rm := L - 3) hR30 (by omega) 61 60 as0 M45 (by omega) rfl (Nat.zero_le _) (Nat.le_refl _) ?_ (by rw [g0]; decide) ⟨g6, g12, g13, fun r hr => absurd hr (Nat.not_lt_zero _), fun r hr => absurd hr (Nat.not_lt_zero _), fun p hp => absurd hp (Nat.not_lt_zero _)⟩ (fun M' ha hf => hQ M' ?_ (frL_tr F (fun f' o' hn => hf.1 f' o' (by omega))))⟩
      · refine ⟨?_, by rw [g1]; exact h1, fun r hr => ?_⟩
        · have : M45 1 o 0 5 = M 1 o 0 5 := by rw [F 1 o (by omega)]
          rw [this]; exact hR
        · have n4 : ∀ j, M45 4 o r j = M 4 o r j := fun j => by rw [F 4 o (by omega)]
          have n19 : M45 19 q 0 r = M5 19 q 0 r := fr1_at f45 (by omega)
          have e5 : (5 : Int32) = nI 5 := rfl
          have hn := hnt r hr
          obtain ⟨c1, c2⟩ := clamp_le (n := 5) hn.1 hn.2 (by omega)
          obtain ⟨d1, d2⟩ := clamp_le (n := L - 3) (rhF_pos C) (hh r hr).2 (by omega)
          refine ⟨⟨?_, ?_⟩, ?_, ?_, ?_⟩
          · rw [n4, c1]; simp [ntY, hr, vw, ← c1]
          · simp only [ntY, if_pos hr]; exact c2
          · rw [n4]; by_cases z : M 4 o r 5 = 0 <;> simp [kpY, hr, vw, z]
          · rw [n19, (hh r hr).1]; simp only [hY, if_pos hr]; exact d1
          · simp only [hY, if_pos hr]; omega
      · rw [hl]
        refine ⟨by rw [hf.2.1]; exact g0, fun j hj => ?_, fun r hr => ?_, ha⟩
        · rw [hf.1 18 q (by omega), f45 18 q (by omega)]; exact hw j hj
        · rw [hf.1 19 q (by omega), f45 19 q (by omega)]; exact (hh r hr).1
  have hC4 : M4 1 o 0 0 = nI C := by rw [fr1_at f4 (by omega)]; exact hC
  have hR4 : M4 1 o 0 5 = nI R := by rw [fr1_at f4 (by omega)]; exact hR
  have F4 : frL q M M4 := frL_fr1 (Or.inl rfl) f4
  refine sp_isWidthFit (be := cut0 C (M 10 o 0)) (le := cut0 C (M 9 o 0)) hC4 hC6 hR4 hR30 (fun j hj => by rw [f4 9 o (by omega)]; simp [cut0, hj]) (fun j hj => by rw [f4 10 o (by omega)]; simp [cut0, hj]) ?_ ?_
  · intro hW M11 f11
    refine ⟨fun _ => ?_, fun z => absurd rfl z⟩
    unfold wp_X0_arrange_L29
    refine fin 0 M11 (frL_tr F4 (frL_fr1 (by omega) f11)) (Or.inl ⟨rfl, ?_⟩)
    unfold LAYF
    have : WID (cut0 C ((vw M o) 10 0)) (cut0 C ((vw M o) 9 0)) C R w = none := hW
    rw [this]
  · intro wd hW M11 f11 hwd
    have hW' : WID (cut0 C ((vw M o) 10 0)) (cut0 C ((vw M o) 9 0)) C R w = some wd := hW
    refine ⟨fun z => absurd z (by decide), fun _ => ?_⟩
    have F11 : frL q M M11 := frL_tr F4 (frL_fr1 (by omega) f11)
    have hC11 : M11 1 o 0 0 = nI C := by rw [F11 1 o (by omega)]; exact hC
    have hR11 : M11 1 o 0 5 = nI R := by rw [F11 1 o (by omega)]; exact hR
    have hr1 : M11 3 q 0 1 = nI (L - 3) := by rw [fr1_at f11 (by omega), e4, rd]; simp
    have hrh : ∀ r, rhF (vw M11 o) C (M11 18 q 0) r C = rhF (vw M o) C wd r C := fun r => rhF_c (fun c _ => by show M11 5 o 0 c = M 5 o 0 c; rw [F11 5 o (by omega)]) (fun c _ => by show M11 17 o r c = M 17 o r c; rw [F11 17 o (by omega)]) (fun c _ => by show M11 13 o r c = M 13 o r c; rw [F11 13 o (by omega)]) hwd C (Nat.le_refl _)
    refine sp_areHeightsFit hC11 hC6 hR11 hR30 ?_ ?_
    · rintro ⟨r, hr, hbad⟩ M19 f19
      refine ⟨fun _ => ?_, fun z => absurd rfl z⟩
      unfold wp_X0_arrange_L29
      refine fin 0 M19 (frL_tr F11 (frL_fr1 (by omega) f19)) (Or.inl ⟨rfl, ?_⟩)
      unfold LAYF
      rw [hW']
      refine if_neg (fun z => hbad ?_)
      rw [hrh, hr1]; exact z r hr
    · intro hok M19 f19 h19
      refine ⟨fun z => absurd z (by decide), fun _ => ?_⟩
      have hall : ∀ r, r < R → rhF (vw M o) C wd r C ≤ nI (L - 3) := fun r hr => by
        have := hok r hr
        rw [hrh, hr1] at this; exact this
      refine fin 1 M19 (frL_tr F11 (frL_fr1 (by omega) f19)) (Or.inr ⟨rfl, wd, ?_, fun j hj => ?_, fun r hr => ⟨?_, hall r hr⟩, ?_⟩)
      · unfold LAYF
        rw [hW']
        exact if_pos hall
      · rw [fr1_at f19 (by omega)]; exact hwd j hj
      · rw [h19 r hr, hrh]
      · rw [fr1_at f19 (by omega)]; exact hr1
/-- a layout depends on what is read of the sheet alone -/
def sameY (Y Y' : Vw) (C R : Nat) : Prop := (∀ c, c < C → Y 5 0 c = Y' 5 0 c ∧ Y 9 0 c = Y' 9 0 c ∧ Y 10 0 c = Y' 10 0 c) ∧ ∀ r, r < R → (Y 4 r 4 = Y' 4 r 4 ∧ Y 4 r 5 = Y' 4 r 5) ∧ ∀ c, c < C → Y 13 r c = Y' 13 r c ∧ Y 17 r c = Y' 17 r c
theorem LAYF_c {Y Y' : Vw} {C R : Nat} {w : Int32} {rm : Nat} (h : sameY Y Y' C R) : LAYF Y C R w rm = LAYF Y' C R w rm := by
  have e10 : cut0 C (Y 10 0) = cut0 C (Y' 10 0) := by
    funext j; unfold cut0; split
    · rename_i q; exact (h.1 j q).2.2
    · rfl
  have e9 : cut0 C (Y 9 0) = cut0 C (Y' 9 0) := by
    funext j; unfold cut0; split
    · rename_i q; exact (h.1 j q).2.1
    · rfl
  have ent : ntY Y R = ntY Y' R := by
    funext r; unfold ntY; split
    · rename_i q; rw [(h.2 r q).1.1]
    · rfl
  have ekp : kpY Y R = kpY Y' R := by
    funext r; unfold kpY; split
    · rename_i q; rw [(h.2 r q).1.2]
    · rfl
  have erh : ∀ (wd : Nat → Int32) r, r < R → rhF Y C wd r C = rhF Y' C wd r C := fun wd r hr => rhF_c (fun c hc => (h.1 c hc).1) (fun c hc => ((h.2 r hr).2 c hc).2) (fun c hc => ((h.2 r hr).2 c hc).1) (fun _ _ => rfl) C (Nat.le_refl _)
  have ehY : ∀ wd, hY Y C R wd = hY Y' C R wd := fun wd => by
    funext r; unfold hY; split
    · rename_i q; rw [erh wd r q]
    · rfl
  unfold LAYF
  rw [e10, e9, ent, ekp]
  cases WID (cut0 C (Y' 10 0)) (cut0 C (Y' 9 0)) C R w with
  | none => rfl
  | some wd =>
    by_cases z : ∀ r, r < R → rhF Y C wd r C ≤ nI rm
    · have z' : ∀ r, r < R → rhF Y' C wd r C ≤ nI rm := fun r hr => by rw [← erh wd r hr]; exact z r hr
      show (if _ then _ else _) = (if _ then _ else _)
      rw [if_pos z, if_pos z', ehY]
    · have z' : ¬ ∀ r, r < R → rhF Y' C wd r C ≤ nI rm := fun y => z (fun r hr => by rw [erh wd r hr]; exact y r hr)
      show (if _ then _ else _) = (if _ then _ else _)
      rw [if_neg z, if_neg z']
