/-! What the filling of pages keeps. -/
def sR (f : Nat → Nat) (a : Nat) : Nat → Nat
  | 0 => 0
  | n + 1 => sR f a n + f (a + n)
def pos (f : Nat → Nat) : Nat → Nat := fun r => if f r = 0 then 0 else 1
theorem sR_add (f : Nat → Nat) (a m : Nat) : ∀ n, sR f a (m + n) = sR f a m + sR f (a + m) n
  | 0 => rfl
  | n + 1 => by
    show sR f a (m + n) + f (a + (m + n)) = sR f a m + (sR f (a + m) n + f (a + m + n))
    rw [sR_add f a m n, Nat.add_assoc a m n]; omega
theorem sR_split (f : Nat → Nat) {a b c : Nat} (h1 : a ≤ b) (h2 : b ≤ c) : sR f a (c - a) = sR f a (b - a) + sR f b (c - b) := by
  have := sR_add f a (b - a) (c - b)
  rw [show b - a + (c - b) = c - a by omega, show a + (b - a) = b by omega] at this
  exact this
theorem sR_one (f : Nat → Nat) {a b : Nat} (h : a ≤ b) : sR f a (b + 1 - a) = sR f a (b - a) + f b := by
  rw [show b + 1 - a = (b - a) + 1 by omega]
  show sR f a (b - a) + f (a + (b - a)) = _
  rw [show a + (b - a) = b by omega]
theorem sR_first (f : Nat → Nat) {a b : Nat} (h : a < b) : sR f a (b - a) = f a + sR f (a + 1) (b - (a + 1)) := by
  rw [sR_split f (b := a + 1) (Nat.le_succ a) h]
  rw [show a + 1 - a = 0 + 1 by omega]
  show sR f a 0 + f (a + 0) + _ = _
  show 0 + f a + _ = _
  omega
theorem sR_pos_le (f : Nat → Nat) (a : Nat) : ∀ n, sR (pos f) a n ≤ n
  | 0 => Nat.le_refl _
  | n + 1 => by
    have := sR_pos_le f a n
    show sR (pos f) a n + pos f (a + n) ≤ n + 1
    have : pos f (a + n) ≤ 1 := by unfold pos; split <;> omega
    omega
/-- notes are put -/
theorem pw_prop {nt : Nat → Nat} {nr p : Nat} : ∀ (k : Nat) (s : PW), s.1 + k = nr →
    s.1 ≤ (pwF nt nr p k s).1 ∧ (pwF nt nr p k s).1 ≤ nr ∧ (pwF nt nr p k s).2.1 + sR nt s.1 ((pwF nt nr p k s).1 - s.1) = s.2.1 ∧ (pwF nt nr p k s).2.2.1 = s.2.2.1 + sR (pos nt) s.1 ((pwF nt nr p k s).1 - s.1) ∧
    (∀ r, s.1 ≤ r → r < (pwF nt nr p k s).1 → (pwF nt nr p k s).2.2.2 r = if nt r = 0 then -1 else nI p) ∧ ((pwF nt nr p k s).1 = nr ∨ (pwF nt nr p k s).2.1 < nt (pwF nt nr p k s).1)
  | 0, s, h => by
    have e : pwF nt nr p 0 s = s := rfl
    rw [e]
    refine ⟨Nat.le_refl _, by omega, ?_, ?_, fun r h1 h2 => by omega, Or.inl (by omega)⟩
    · rw [Nat.sub_self]; rfl
    · rw [Nat.sub_self]; rfl
  | k + 1, s, h => by
    by_cases q : s.1 < nr ∧ nt s.1 ≤ s.2.1
    · have e : pwF nt nr p (k + 1) s = pwF nt nr p k (pwN nt p s) := by simp only [pwF, if_pos q]
      rw [e]
      obtain ⟨a, b, c, d, f, g⟩ := pw_prop (nt := nt) (nr := nr) (p := p) k (pwN nt p s) (show s.1 + 1 + k = nr by omega)
      have hle := pwF_le (nt := nt) (nr := nr) (p := p) k (pwN nt p s) (show s.1 + 1 ≤ nr by omega)
      have a : s.1 + 1 ≤ (pwF nt nr p k (pwN nt p s)).1 := a
      have c : (pwF nt nr p k (pwN nt p s)).2.1 + sR nt (s.1 + 1) ((pwF nt nr p k (pwN nt p s)).1 - (s.1 + 1)) = s.2.1 - nt s.1 := c
      have d : (pwF nt nr p k (pwN nt p s)).2.2.1 = (if nt s.1 = 0 then s.2.2.1 else s.2.2.1 + 1) + sR (pos nt) (s.1 + 1) ((pwF nt nr p k (pwN nt p s)).1 - (s.1 + 1)) := d
      have hle : ∀ j, j < s.1 + 1 → (pwF nt nr p k (pwN nt p s)).2.2.2 j = upd s.2.2.2 s.1 (if nt s.1 = 0 then -1 else nI p) j := hle.2.2.2
      have f : ∀ r, s.1 + 1 ≤ r → r < (pwF nt nr p k (pwN nt p s)).1 → (pwF nt nr p k (pwN nt p s)).2.2.2 r = if nt r = 0 then -1 else nI p := f
      have e1 := sR_first nt (show s.1 < (pwF nt nr p k (pwN nt p s)).1 by omega)
      have e2 := sR_first (pos nt) (show s.1 < (pwF nt nr p k (pwN nt p s)).1 by omega)
      refine ⟨by omega, b, by omega, ?_, fun r h1 h2 => ?_, g⟩
      · rw [d, e2]
        have : pos nt s.1 = if nt s.1 = 0 then 0 else 1 := rfl
        split at this <;> split <;> omega
      · by_cases z : r = s.1
        · subst z
          rw [hle s.1 (by omega)]
          simp [upd]
        · exact f r (by omega) h2
    · have e : pwF nt nr p (k + 1) s = s := by simp only [pwF, if_neg q]
      rw [e]
      refine ⟨Nat.le_refl _, by omega, ?_, ?_, fun r h1 h2 => by omega, ?_⟩
      · rw [Nat.sub_self]; rfl
      · rw [Nat.sub_self]; rfl
      · by_cases z : s.1 < nr
        · exact Or.inr (Nat.not_le.mp (fun y => q ⟨z, y⟩))
        · exact Or.inl (by omega)
/-- where a group ends -/
def gE (kp : Nat → Bool) (R : Nat) : Nat → Nat → Nat
  | 0, r => r
  | k + 1, r => if r < R ∧ kp (r - 1) = true then gE kp R k (r + 1) else r
def ge (kp : Nat → Bool) (R g : Nat) : Nat := gE kp R (R - (g + 1)) (g + 1)
theorem gE_le {kp : Nat → Bool} {R : Nat} : ∀ (k r : Nat), r + k = R → r ≤ gE kp R k r ∧ gE kp R k r ≤ R ∧ (∀ j, r ≤ j → j < gE kp R k r → kp (j - 1) = true) ∧ (gE kp R k r = R ∨ kp (gE kp R k r - 1) = false)
  | 0, r, h => ⟨Nat.le_refl _, by show r ≤ R; omega, fun j h1 h2 => absurd h2 (by show ¬ j < r; omega), Or.inl (by show r = R; omega)⟩
  | k + 1, r, h => by
    by_cases q : r < R ∧ kp (r - 1) = true
    · have e : gE kp R (k + 1) r = gE kp R k (r + 1) := by simp only [gE, if_pos q]
      rw [e]
      obtain ⟨a, b, c, d⟩ := gE_le (kp := kp) (R := R) k (r + 1) (by omega)
      refine ⟨by omega, b, fun j h1 h2 => ?_, d⟩
      by_cases z : j = r
      · rw [z]; exact q.2
      · exact c j (by omega) h2
    · have e : gE kp R (k + 1) r = r := by simp only [gE, if_neg q]
      rw [e]
      refine ⟨Nat.le_refl _, by omega, fun j h1 h2 => by omega, Or.inr ?_⟩
      have : ¬ kp (r - 1) = true := fun y => q ⟨by omega, y⟩
      simpa using this
theorem hgF_sum {h : Nat → Nat} {kp : Nat → Bool} {R : Nat} : ∀ (k r a : Nat), r + k = R → hgF h kp R k r a = a + sR h r (gE kp R k r - r)
  | 0, r, a, hr => by show a = a + sR h r (r - r); rw [Nat.sub_self]; rfl
  | k + 1, r, a, hr => by
    by_cases q : r < R ∧ kp (r - 1) = true
    · have e : gE kp R (k + 1) r = gE kp R k (r + 1) := by simp only [gE, if_pos q]
      have e2 : hgF h kp R (k + 1) r a = hgF h kp R k (r + 1) (a + h r) := by simp only [hgF, if_pos q]
      have hl := (gE_le (kp := kp) (R := R) k (r + 1) (by omega)).1
      rw [e, e2, hgF_sum k (r + 1) (a + h r) (by omega), sR_first h (show r < gE kp R k (r + 1) by omega)]
      omega
    · have e : gE kp R (k + 1) r = r := by simp only [gE, if_neg q]
      have e2 : hgF h kp R (k + 1) r a = a := by simp only [hgF, if_neg q]
      rw [e, e2, Nat.sub_self]; rfl
theorem hg_sum {h : Nat → Nat} {kp : Nat → Bool} {R g : Nat} (hgR : g < R) : hg h kp R g = sR h g (ge kp R g - g) := by
  have hl := (gE_le (kp := kp) (R := R) (R - (g + 1)) (g + 1) (by omega)).1
  unfold hg ge
  rw [hgF_sum _ _ _ (by omega), sR_first h (show g < gE kp R (R - (g + 1)) (g + 1) by omega)]
theorem ge_le {kp : Nat → Bool} {R g : Nat} (hgR : g < R) : g < ge kp R g ∧ ge kp R g ≤ R ∧ (∀ j, g < j → j < ge kp R g → kp (j - 1) = true) := by
  have hl := gE_le (kp := kp) (R := R) (R - (g + 1)) (g + 1) (by omega)
  exact ⟨hl.1, hl.2.1, fun j h1 h2 => hl.2.2.1 j h1 h2⟩
/-- rows that begin a group, that has room on a page, with no note among them -/
def grp (nt h : Nat → Nat) (kp : Nat → Bool) (R rm g : Nat) : Prop := g < R ∧ ¬ (0 < g ∧ kp (g - 1) = true) ∧ hg h kp R g ≤ rm ∧ ∀ r, g ≤ r → r + 1 < ge kp R g → nt r = 0
/-- a page in the making: it began with row b and note n -/
def flI (nt h : Nat → Nat) (kp : Nat → Bool) (R rm p b n : Nat) (s : FS) : Prop :=
  b ≤ s.1 ∧ s.1 ≤ R ∧ n ≤ s.2.2.2.2.1 ∧ s.2.2.2.2.1 ≤ s.1 ∧ s.2.2.2.2.2.1 + sR h b (s.1 - b) + sR nt n (s.2.2.2.2.1 - n) = rm ∧ s.2.1 = s.1 - b ∧ (b < s.1 → s.2.2.1 = nI b) ∧ s.2.2.2.2.2.2.1 = sR (pos nt) n (s.2.2.2.2.1 - n) ∧
  (∀ r, b ≤ r → r < s.1 → s.2.2.2.1 r = nI p) ∧ (∀ r, n ≤ r → r < s.2.2.2.2.1 → s.2.2.2.2.2.2.2 r = if nt r = 0 then -1 else nI p) ∧ (s.2.2.2.2.1 < s.1 → 0 < nt s.2.2.2.2.1) ∧
  (∀ g, b < g → g < s.1 → grp nt h kp R rm g → ge kp R g ≤ s.1 ∨ (s.1 < ge kp R g ∧ sR h s.1 (ge kp R g - s.1) ≤ s.2.2.2.2.2.1))
theorem fl_step {nt h : Nat → Nat} {kp : Nat → Bool} {R rm p b n : Nat} {s : FS} (hI : flI nt h kp R rm p b n s) (hs : s.1 < R) (hb : hrB h kp R rm s = true) : flI nt h kp R rm p b n (nxF nt h p s) := by
  obtain ⟨nr, ro, fr, rp, nn, lf, no, np⟩ := s
  obtain ⟨i1, i2, i3, i4, i5, i6, i7, i8, i9, i10, i11, i12⟩ := hI
  have hs : nr < R := hs
  have i1 : b ≤ nr := i1
  have i3 : n ≤ nn := i3
  have i4 : nn ≤ nr := i4
  have i5 : lf + sR h b (nr - b) + sR nt n (nn - n) = rm := i5
  have i6 : ro = nr - b := i6
  have i7 : b < nr → fr = nI b := i7
  have i8 : no = sR (pos nt) n (nn - n) := i8
  have i9 : ∀ r, b ≤ r → r < nr → rp r = nI p := i9
  have i10 : ∀ r, n ≤ r → r < nn → np r = if nt r = 0 then -1 else nI p := i10
  have i11 : nn < nr → 0 < nt nn := i11
  have i12 : ∀ g, b < g → g < nr → grp nt h kp R rm g → ge kp R g ≤ nr ∨ (nr < ge kp R g ∧ sR h nr (ge kp R g - nr) ≤ lf) := i12
  simp only [hrB, Bool.and_eq_true, Bool.or_eq_true, decide_eq_true_eq] at hb
  obtain ⟨hfit, hwhy⟩ := hb
  have hsum : sR h b (nr + 1 - b) = sR h b (nr - b) + h nr := sR_one h i1
  have hgr : ∀ g, b < g → g < nr + 1 → grp nt h kp R rm g → ge kp R g ≤ nr + 1 ∨ (nr + 1 < ge kp R g ∧ sR h (nr + 1) (ge kp R g - (nr + 1)) ≤ lf - h nr ∧ nt nr = 0) := by
    intro g g1 g2 gg
    by_cases z : g = nr
    · subst z
      have l1 := ge_le (kp := kp) gg.1
      have l2 : hg h kp R g ≤ lf := by
        rcases hwhy with ((y | y) | y) | y
        · omega
        · exact absurd ⟨y.1, y.2⟩ gg.2.1
        · exact y
        · have := gg.2.2.1; omega
      rw [hg_sum gg.1, sR_first h l1.1] at l2
      rcases Nat.lt_or_ge (g + 1) (ge kp R g) with y | y
      · exact Or.inr ⟨y, by omega, gg.2.2.2 g (Nat.le_refl _) y⟩
      · exact Or.inl y
    · rcases i12 g g1 (by omega) gg with y | ⟨y1, y2⟩
      · exact Or.inl (by omega)
      · rw [sR_first h y1] at y2
        rcases Nat.lt_or_ge (nr + 1) (ge kp R g) with y | y
        · exact Or.inr ⟨y, by omega, gg.2.2.2 nr (by omega) y⟩
        · exact Or.inl y
  have rpn : ∀ r, b ≤ r → r < nr + 1 → upd rp nr (nI p) r = nI p := fun r h1 h2 => by
    unfold upd
    split
    · rfl
    · exact i9 r h1 (by omega)
  have frn : b < nr + 1 → (if ro = 0 then nI nr else fr) = nI b := fun _ => by
    split
    · have : b = nr := by omega
      rw [this]
    · exact i7 (by omega)
  by_cases hw : nn < nr
  · have e : nxF nt h p (nr, ro, fr, rp, nn, lf, no, np) = (nr + 1, ro + 1, (if ro = 0 then nI nr else fr), upd rp nr (nI p), nn, lf - h nr, no, np) := by unfold nxF; exact if_pos hw
    rw [e]
    refine ⟨by show b ≤ nr + 1; omega, hs, i3, by show nn ≤ nr + 1; omega, ?_, by show ro + 1 = nr + 1 - b; omega, frn, i8, rpn, i10, fun _ => i11 hw, fun g g1 g2 gg => ?_⟩
    · show lf - h nr + sR h b (nr + 1 - b) + sR nt n (nn - n) = rm
      omega
    · rcases hgr g g1 g2 gg with y | ⟨y1, y2, -⟩
      · exact Or.inl y
      · exact Or.inr ⟨y1, y2⟩
  · have hnn : nn = nr := by omega
    subst hnn
    have e : nxF nt h p (nn, ro, fr, rp, nn, lf, no, np) = (nn + 1, ro + 1, (if ro = 0 then nI nn else fr), upd rp nn (nI p), pwF nt (nn + 1) p (nn + 1 - nn) (nn, lf - h nn, no, np)) := by unfold nxF; exact if_neg hw
    rw [e]
    have hle := pwF_le (nt := nt) (nr := nn + 1) (p := p) (nn + 1 - nn) (nn, lf - h nn, no, np) (show nn ≤ nn + 1 by omega)
    obtain ⟨a, a2, c, d, f, g9⟩ := pw_prop (nt := nt) (nr := nn + 1) (p := p) (nn + 1 - nn) (nn, lf - h nn, no, np) (show nn + (nn + 1 - nn) = nn + 1 by omega)
    have c : (pwF nt (nn + 1) p (nn + 1 - nn) (nn, lf - h nn, no, np)).2.1 + sR nt nn ((pwF nt (nn + 1) p (nn + 1 - nn) (nn, lf - h nn, no, np)).1 - nn) = lf - h nn := c
    have d : (pwF nt (nn + 1) p (nn + 1 - nn) (nn, lf - h nn, no, np)).2.2.1 = no + sR (pos nt) nn ((pwF nt (nn + 1) p (nn + 1 - nn) (nn, lf - h nn, no, np)).1 - nn) := d
    have a : nn ≤ (pwF nt (nn + 1) p (nn + 1 - nn) (nn, lf - h nn, no, np)).1 := a
    have f : ∀ r, nn ≤ r → r < (pwF nt (nn + 1) p (nn + 1 - nn) (nn, lf - h nn, no, np)).1 → (pwF nt (nn + 1) p (nn + 1 - nn) (nn, lf - h nn, no, np)).2.2.2 r = if nt r = 0 then -1 else nI p := f
    have hle : ∀ j, j < nn → (pwF nt (nn + 1) p (nn + 1 - nn) (nn, lf - h nn, no, np)).2.2.2 j = np j := hle.2.2.2
    generalize pwF nt (nn + 1) p (nn + 1 - nn) (nn, lf - h nn, no, np) = W at a a2 c d f g9 hle ⊢
    have i3 : n ≤ nn := i3
    have i5 : lf + sR h b (nn - b) + sR nt n (nn - n) = rm := i5
    have i8 : no = sR (pos nt) n (nn - n) := i8
    have s1 := sR_split nt (show n ≤ nn from i3) (show nn ≤ W.1 from a)
    have s2 := sR_split (pos nt) (show n ≤ nn from i3) (show nn ≤ W.1 from a)
    have z0 : nt nn = 0 → W.2.1 = lf - h nn := fun z => by
      rcases (show W.1 = nn ∨ W.1 = nn + 1 by omega) with y | y
      · rw [y, Nat.sub_self] at c
        exact c
      · have e1 := sR_one nt (Nat.le_refl nn)
        rw [Nat.sub_self] at e1
        have e0 : sR nt nn 0 = 0 := rfl
        rw [y] at c
        omega
    refine ⟨by show b ≤ nn + 1; omega, hs, by show n ≤ W.1; omega, a2, ?_, by show ro + 1 = nn + 1 - b; omega, frn, ?_, rpn, fun r h1 h2 => ?_, fun hlt => ?_, fun g g1 g2 gg => ?_⟩
    · show W.2.1 + sR h b (nn + 1 - b) + sR nt n (W.1 - n) = rm
      omega
    · show W.2.2.1 = sR (pos nt) n (W.1 - n)
      omega
    · show W.2.2.2 r = _
      by_cases z : nn ≤ r
      · exact f r z h2
      · rw [hle r (by omega)]
        exact i10 r h1 (show r < nn by omega)
    · have hlt : W.1 < nn + 1 := hlt
      rcases g9 with y | y
      · omega
      · show 0 < nt W.1
        omega
    · rcases hgr g g1 g2 gg with y | ⟨y1, y2, y3⟩
      · exact Or.inl y
      · refine Or.inr ⟨y1, ?_⟩
        show sR h (nn + 1) (ge kp R g - (nn + 1)) ≤ W.2.1
        rw [z0 y3]; exact y2
theorem fl_all {nt h : Nat → Nat} {kp : Nat → Bool} {R rm p b n : Nat} : ∀ (k : Nat) (s : FS), s.1 + k = R → flI nt h kp R rm p b n s → flI nt h kp R rm p b n (flF nt h kp R rm p k s) ∧ ((flF nt h kp R rm p k s).1 = R ∨ hrB h kp R rm (flF nt h kp R rm p k s) = false)
  | 0, s, hk, hI => ⟨hI, Or.inl (by show s.1 = R; omega)⟩
  | k + 1, s, hk, hI => by
    by_cases q : s.1 < R ∧ hrB h kp R rm s = true
    · have e : flF nt h kp R rm p (k + 1) s = flF nt h kp R rm p k (nxF nt h p s) := by simp only [flF, if_pos q]
      have nx1 : (nxF nt h p s).1 = s.1 + 1 := by unfold nxF; split <;> rfl
      rw [e]
      exact fl_all k (nxF nt h p s) (by rw [nx1]; omega) (fl_step hI q.1 q.2)
    · have e : flF nt h kp R rm p (k + 1) s = s := by simp only [flF, if_neg q]
      rw [e]
      refine ⟨hI, Or.inr ?_⟩
      have : ¬ hrB h kp R rm s = true := fun y => q ⟨by omega, y⟩
      simpa using this
/-- a page that is filled: rows b to b' (b' not), notes n to n' -/
def pgOK (nt h : Nat → Nat) (kp : Nat → Bool) (R rm p b b' n n' : Nat) (fr ro no lf lr : Int32) (rp np : Nat → Int32) : Prop :=
  b ≤ b' ∧ b' ≤ R ∧ n ≤ n' ∧ n' ≤ b' ∧ (b < b' → fr = nI b) ∧ ro = nI (b' - b) ∧ no = nI (sR (pos nt) n (n' - n)) ∧ (∃ l, lf = nI l ∧ l + sR h b (b' - b) + sR nt n (n' - n) = rm) ∧ lr = nI b' - 1 ∧
  (∀ r, b ≤ r → r < b' → rp r = nI p) ∧ (∀ r, n ≤ r → r < n' → np r = if nt r = 0 then -1 else nI p) ∧ (b < b' ∨ 0 < sR (pos nt) n (n' - n)) ∧
  ∀ g, b < g → g < b' → grp nt h kp R rm g → ge kp R g ≤ b'
theorem pg_prop {nt h : Nat → Nat} {kp : Nat → Bool} {R rm p b n : Nat} {rp np : Nat → Int32} (hb : b ≤ R) (hn : n ≤ b) (hh : ∀ r, r < R → h r ≤ rm) (hnt : ∀ r, r < R → nt r ≤ rm) (hw : n < b → 0 < nt n) (hgo : b < R ∨ n < b) :
    pgOK nt h kp R rm p b (pgF nt h kp R rm p b n rp np).1 n (pgF nt h kp R rm p b n rp np).2.2.2.2.1 (pgF nt h kp R rm p b n rp np).2.2.1 (nI (pgF nt h kp R rm p b n rp np).2.1) (nI (pgF nt h kp R rm p b n rp np).2.2.2.2.2.2.1) (nI (pgF nt h kp R rm p b n rp np).2.2.2.2.2.1) (nI (pgF nt h kp R rm p b n rp np).1 - 1) (pgF nt h kp R rm p b n rp np).2.2.2.1 (pgF nt h kp R rm p b n rp np).2.2.2.2.2.2.2 ∧
    ((pgF nt h kp R rm p b n rp np).2.2.2.2.1 < (pgF nt h kp R rm p b n rp np).1 → 0 < nt (pgF nt h kp R rm p b n rp np).2.2.2.2.1) ∧ (n = b → b < (pgF nt h kp R rm p b n rp np).1) := by
  obtain ⟨a, a2, c, d, f, g9⟩ := pw_prop (nt := nt) (nr := b) (p := p) (b - n) (n, rm, 0, np) (show n + (b - n) = b by omega)
  have c : (pwF nt b p (b - n) (n, rm, 0, np)).2.1 + sR nt n ((pwF nt b p (b - n) (n, rm, 0, np)).1 - n) = rm := c
  have d : (pwF nt b p (b - n) (n, rm, 0, np)).2.2.1 = 0 + sR (pos nt) n ((pwF nt b p (b - n) (n, rm, 0, np)).1 - n) := d
  have I0 : flI nt h kp R rm p b n (st0 b rm rp n np nt p) := by
    refine ⟨Nat.le_refl _, hb, a, a2, ?_, ?_, fun q => absurd q (Nat.lt_irrefl _), ?_, fun r h1 h2 => ?_, f, fun q => ?_, fun g h1 h2 => ?_⟩
    · show (pwF nt b p (b - n) (n, rm, 0, np)).2.1 + sR h b (b - b) + sR nt n ((pwF nt b p (b - n) (n, rm, 0, np)).1 - n) = rm
      rw [Nat.sub_self]
      show _ + 0 + _ = rm
      omega
    · show 0 = b - b; omega
    · show (pwF nt b p (b - n) (n, rm, 0, np)).2.2.1 = sR (pos nt) n ((pwF nt b p (b - n) (n, rm, 0, np)).1 - n)
      rw [d]; omega
    · have h2 : r < b := h2; omega
    · have q : (pwF nt b p (b - n) (n, rm, 0, np)).1 < b := q
      rcases g9 with y | y
      · omega
      · show 0 < nt (pwF nt b p (b - n) (n, rm, 0, np)).1
        omega
    · have h2 : g < b := h2; omega
  have hp1 : n < b → n < (pwF nt b p (b - n) (n, rm, 0, np)).1 := fun q => by
    rcases Nat.lt_or_ge n (pwF nt b p (b - n) (n, rm, 0, np)).1 with y | y
    · exact y
    · have e : (pwF nt b p (b - n) (n, rm, 0, np)).1 = n := Nat.le_antisymm y a
      rw [e, Nat.sub_self] at c
      have c : (pwF nt b p (b - n) (n, rm, 0, np)).2.1 + 0 = rm := c
      rw [e] at g9
      have := hnt n (by omega)
      omega
  obtain ⟨I1, hend⟩ := fl_all (R - b) (st0 b rm rp n np nt p) (show b + (R - b) = R by omega) I0
  have hfl := flF_le (nt := nt) (h := h) (kp := kp) (R := R) (rm := rm) (p := p) (R - b) (st0 b rm rp n np nt p) hb a2
  have hmono : (pwF nt b p (b - n) (n, rm, 0, np)).1 ≤ (pgF nt h kp R rm p b n rp np).2.2.2.2.1 := hfl.2.2.1
  have hprog : n = b → b < (pgF nt h kp R rm p b n rp np).1 := fun q => by
    have hbR : b < R := by omega
    rcases Nat.lt_or_ge b (pgF nt h kp R rm p b n rp np).1 with y | y
    · exact y
    · exfalso
      subst q
      have e0 : (st0 n rm rp n np nt p) = (n, 0, -1, rp, (n, rm, 0, np)) := by unfold st0; rw [Nat.sub_self]; rfl
      have hr : hrB h kp R rm (st0 n rm rp n np nt p) = true := by
        rw [e0]
        simp [hrB, hh n hbR]
      have e1 : flF nt h kp R rm p (R - n) (st0 n rm rp n np nt p) = flF nt h kp R rm p (R - n - 1) (nxF nt h p (st0 n rm rp n np nt p)) := by
        rw [show R - n = (R - n - 1) + 1 by omega]
        exact if_pos ⟨hbR, hr⟩
      have nx1 : (nxF nt h p (st0 n rm rp n np nt p)).1 = n + 1 := by unfold nxF; split <;> rfl
      have I2 := fl_step I0 hbR hr
      have h3 := flF_le (nt := nt) (h := h) (kp := kp) (R := R) (rm := rm) (p := p) (R - n - 1) (nxF nt h p (st0 n rm rp n np nt p)) I2.2.1 I2.2.2.2.1
      have y : (flF nt h kp R rm p (R - n) (st0 n rm rp n np nt p)).1 ≤ n := y
      rw [e1] at y
      have := h3.1
      rw [nx1] at this
      omega
  obtain ⟨i1, i2, i3, i4, i5, i6, i7, i8, i9, i10, i11, i12⟩ := I1
  have hw2 : n < b → 0 < sR (pos nt) n ((pgF nt h kp R rm p b n rp np).2.2.2.2.1 - n) := fun q => by
    have y1 := hp1 q
    rw [sR_first (pos nt) (show n < (pgF nt h kp R rm p b n rp np).2.2.2.2.1 by omega)]
    have : pos nt n = 1 := by unfold pos; rw [if_neg (by have := hw q; omega)]
    omega
  refine ⟨⟨i1, i2, i3, i4, i7, ?_, ?_, ⟨_, rfl, i5⟩, rfl, i9, i10, ?_, fun g h1 h2 gg => ?_⟩, i11, hprog⟩
  · exact congrArg nI i6
  · exact congrArg nI i8
  · rcases Nat.lt_or_ge n b with y | y
    · exact Or.inr (hw2 y)
    · exact Or.inl (hprog (by omega))
  · rcases i12 g h1 h2 gg with y | ⟨y1, y2⟩
    · exact y
    · exfalso
      have l1 := ge_le (kp := kp) gg.1
      rcases hend with z | z
      · omega
      · have hin := l1.2.2 (flF nt h kp R rm p (R - b) (st0 b rm rp n np nt p)).1 h2 y1
        have hh1 : h (flF nt h kp R rm p (R - b) (st0 b rm rp n np nt p)).1 ≤ (flF nt h kp R rm p (R - b) (st0 b rm rp n np nt p)).2.2.2.2.2.1 := by
          rw [sR_first h y1] at y2; omega
        have : hrB h kp R rm (flF nt h kp R rm p (R - b) (st0 b rm rp n np nt p)) = true := by
          simp only [hrB, Bool.and_eq_true, Bool.or_eq_true, decide_eq_true_eq]
          exact ⟨hh1, Or.inl (Or.inl (Or.inr ⟨Nat.lt_of_le_of_lt (Nat.zero_le g) h2, hin⟩))⟩
        rw [this] at z; exact absurd z (by decide)
