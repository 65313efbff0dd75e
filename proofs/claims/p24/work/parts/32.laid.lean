/-! The law's eye on a layout. -/
theorem up_det {W : Nat → Nat → Prop} (i0 N : Nat) (hi : i0 ≤ N) (hx : ∀ n, W (n + 1) N) (hs : ∀ n i, i0 ≤ i → i < N → W n (i + 1) → W (n + 1) i) : ∃ n, W n i0 := by
  have key : ∀ k i, i0 ≤ i → i + k = N → ∃ n, W n i := by
    intro k
    induction k with
    | zero => intro i _ h; have : i = N := by omega
              exact ⟨1, by rw [this]; exact hx 0⟩
    | succ k ih =>
      intro i h0 h
      obtain ⟨n, hn⟩ := ih (i + 1) (by omega) (by omega)
      exact ⟨n + 1, hs n i h0 (by omega) hn⟩
  exact key (N - i0) i0 (Nat.le_refl _) (by omega)
theorem sR_c {f g : Nat → Nat} {a : Nat} : ∀ n, (∀ r, a ≤ r → r < a + n → f r = g r) → sR f a n = sR g a n
  | 0, _ => rfl
  | n + 1, h => by
    show sR f a n + f (a + n) = sR g a n + g (a + n)
    rw [sR_c n (fun r h1 h2 => h r h1 (by omega)), h (a + n) (by omega) (by omega)]
theorem sR_z {f : Nat → Nat} {a : Nat} : ∀ n, (∀ r, a ≤ r → r < a + n → f r = 0) → sR f a n = 0
  | 0, _ => rfl
  | n + 1, h => by
    show sR f a n + f (a + n) = 0
    rw [sR_z n (fun r h1 h2 => h r h1 (by omega)), h (a + n) (by omega) (by omega)]
theorem sR_bnd {f : Nat → Nat} {m R : Nat} (h : ∀ r, r < R → f r ≤ m) (a : Nat) : ∀ n, a + n ≤ R → sR f a n ≤ m * n
  | 0, _ => Nat.zero_le _
  | n + 1, hn => by
    have ih := sR_bnd h a n (by omega)
    have := h (a + n) (by omega)
    show sR f a n + f (a + n) ≤ m * (n + 1)
    rw [Nat.mul_add, Nat.mul_one]; omega
def win (f : Nat → Nat) (a b : Nat) : Nat → Nat := fun r => if a ≤ r ∧ r < b then f r else 0
theorem sR_win {f : Nat → Nat} {a b R : Nat} (h1 : a ≤ b) (h2 : b ≤ R) : sR (win f a b) 0 R = sR f a (b - a) := by
  have e1 := sR_split (win f a b) (Nat.zero_le a) (show a ≤ R by omega)
  have e2 := sR_split (win f a b) h1 h2
  have z1 : sR (win f a b) 0 (a - 0) = 0 := sR_z _ (fun r h3 h4 => by unfold win; rw [if_neg (by omega)])
  have z2 : sR (win f a b) b (R - b) = 0 := sR_z _ (fun r h3 h4 => by unfold win; rw [if_neg (by omega)])
  have z3 : sR (win f a b) a (b - a) = sR f a (b - a) := sR_c _ (fun r h3 h4 => by unfold win; rw [if_pos (by omega)])
  rw [Nat.sub_zero] at e1
  omega
theorem find_p {B : Nat → Nat} : ∀ (P r : Nat), B 0 = 0 → r < B P → ∃ p, p < P ∧ B p ≤ r ∧ r < B (p + 1)
  | 0, r, h0, hr => by omega
  | P + 1, r, h0, hr => by
    rcases Nat.lt_or_ge r (B P) with z | z
    · obtain ⟨p, h1, h2⟩ := find_p P r h0 z
      exact ⟨p, by omega, h2⟩
    · exact ⟨P, by omega, z, hr⟩
theorem mono_p {B : Nat → Nat} {P : Nat} (h : ∀ p, p < P → B p ≤ B (p + 1)) {a : Nat} : ∀ b, a ≤ b → b ≤ P → B a ≤ B b
  | 0, h1, _ => by have : a = 0 := by omega
                   rw [this]; exact Nat.le_refl _
  | b + 1, h1, h2 => by
    rcases Nat.lt_or_ge a (b + 1) with z | z
    · exact Nat.le_trans (mono_p h b (by omega) (by omega)) (h b (by omega))
    · have : a = b + 1 := by omega
      rw [this]; exact Nat.le_refl _
theorem lt_p {B : Nat → Nat} {P : Nat} (h : ∀ p, p < P → B p ≤ B (p + 1)) {a b r : Nat} (ha : a ≤ P) (h1 : B a ≤ r) (h2 : r < B (b + 1)) : a ≤ b := by
  rcases Nat.lt_or_ge b a with z | z
  · have := mono_p h a (show b + 1 ≤ a by omega) ha
    omega
  · exact z
def LD (C R rm w P : Nat) (M : Mem) (nt h : Nat → Nat) (kp : Nat → Bool) (B N : Nat → Nat) : Prop :=
  M 3 (chq M) 0 0 = 1 ∧ M 3 (chq M) 0 6 = nI P ∧ P ≤ 60 ∧ (B 0 = 0 ∧ N 0 = 0 ∧ B P = R ∧ N P = R ∧ (0 < P → 0 < B 1)) ∧
  (∀ p, p < P → pgOK nt h kp R rm p (B p) (B (p + 1)) (N p) (N (p + 1)) (M 22 (chq M) 0 p) (M 23 (chq M) 0 p) (M 24 (chq M) 0 p) (M 25 (chq M) 0 p) (M 26 (chq M) 0 p) (M 20 (chq M) 0) (M 21 (chq M) 0)) ∧
  (∀ r, r < R → M 19 (chq M) 0 r = nI (h r) ∧ 1 ≤ h r ∧ h r ≤ rm) ∧ (∀ r, r < R → M 28 0 0 r = nI (nt r) ∧ nt r ≤ 5) ∧ (∀ r, r < R → (M 29 0 0 r = 0 ↔ kp r = false)) ∧
  (∀ j, j < C → M 9 0 0 j ≤ M 18 (chq M) 0 j ∧ M 18 (chq M) 0 j ≤ M 10 0 0 j) ∧ twF (nI C) (M 18 (chq M) 0) C ≤ nI w ∧ 0 < C ∧ 0 < R ∧ rm ≤ 60 ∧ R ≤ 30
theorem LD_row {C R rm w P : Nat} {M : Mem} {nt h : Nat → Nat} {kp : Nat → Bool} {B N : Nat → Nat} (hD : LD C R rm w P M nt h kp B N) {r : Nat} (hr : r < R) : ∃ p, p < P ∧ B p ≤ r ∧ r < B (p + 1) ∧ M 20 (chq M) 0 r = nI p := by
  obtain ⟨d1, d2, d3, ⟨d4, d5, d6, d7, d8⟩, d9, d10⟩ := hD
  obtain ⟨p, h1, h2, h3⟩ := find_p (B := B) P r d4 (by omega)
  exact ⟨p, h1, h2, h3, (d9 p h1).2.2.2.2.2.2.2.2.2.1 r h2 h3⟩
theorem LD_note {C R rm w P : Nat} {M : Mem} {nt h : Nat → Nat} {kp : Nat → Bool} {B N : Nat → Nat} (hD : LD C R rm w P M nt h kp B N) {r : Nat} (hr : r < R) : ∃ p, p < P ∧ N p ≤ r ∧ r < N (p + 1) ∧ M 21 (chq M) 0 r = if nt r = 0 then -1 else nI p := by
  obtain ⟨d1, d2, d3, ⟨d4, d5, d6, d7, d8⟩, d9, d10⟩ := hD
  obtain ⟨p, h1, h2, h3⟩ := find_p (B := N) P r d5 (by omega)
  exact ⟨p, h1, h2, h3, (d9 p h1).2.2.2.2.2.2.2.2.2.2.1 r h2 h3⟩
theorem LD_rowF {C R rm w P : Nat} {M : Mem} {nt h : Nat → Nat} {kp : Nat → Bool} {B N : Nat → Nat} (hD : LD C R rm w P M nt h kp B N) (r : Nat) : rowF M r 0 = M 19 (chq M) 0 r ∧ rowF M r 1 = M 20 (chq M) 0 r ∧ rowF M r 2 = M 21 (chq M) 0 r := by
  have hne : ¬ M 3 (chq M) 0 0 = 0 := by rw [hD.1]; decide
  unfold rowF
  rw [if_neg hne, if_neg hne, if_neg hne]
  exact ⟨rfl, rfl, rfl⟩
theorem tg_tail {C R W H rm w P g l s : Nat} {M : Mem} {Q : Int32 → Mem → Prop} {nt h : Nat → Nat} {kp : Nat → Bool} {B N : Nat → Nat} {v8 : Int32} (hI : Inv C R W H M) (hF : Fresh C R W H M) (hD : LD C R rm w P M nt h kp B N) (hg : g < R) (hn0 : ¬ (0 < g ∧ kp (g - 1) = true)) (hQ : Q 1 M)
    (hl : l + 1 = ge kp R g) (hs : s = sR h g (l + 1 - g)) (hv : v8 = 0 → ∀ r, g ≤ r → r < l → nt r = 0) : wp_L_isTogether_L81 (nI g) (nI R) (nI rm) Q (nI s) (nI l) v8 M := by
  have hge := ge_le (kp := kp) hg
  have hl1 : l < R := by omega
  have e1 := (LD_rowF hD g).2.1
  have e2 := (LD_rowF hD l).2.1
  obtain ⟨p, p1, p2, p3, p4⟩ := LD_row hD hg
  obtain ⟨p', p1', p2', p3', p4'⟩ := LD_row hD hl1
  have hD0 := hD
  obtain ⟨d1, d2, d3, ⟨d4, d5, d6, d7, d8⟩, d9, d10, d11, d12, d13, d14, d15, d16, d17, d18⟩ := hD
  unfold wp_L_isTogether_L81
  refine sp_ofRow hI hF hg (w := 1) (by decide) (sp_ofRow hI hF hl1 (w := 1) (by decide) ?_)
  rw [e1, e2, p4, p4']
  refine ⟨fun _ => hQ, fun hne => ⟨fun _ => hQ, fun hsum => ⟨fun h0 => sp_ofPage hI hF d2 p1 d3 (w := 0) (by decide) ⟨fun _ => hQ, fun hne2 => ?_⟩, fun _ => hQ⟩⟩⟩
  exfalso
  obtain ⟨j1, j2, j3, j4, j5, j6, j7, j8, j9, j10, j11, j12, j13⟩ := d9 p p1
  have hb : B p < g := by
    rcases Nat.lt_or_ge (B p) g with z | z
    · exact z
    · have : B p = g := by omega
      exact absurd ((j5 (by omega)).trans (by rw [this])) hne2
  have sb := sR_bnd (f := h) (m := 60) (R := R) (fun r hr => by have := (d10 r hr).2.2; omega) g (l + 1 - g) (by omega)
  have hsr : s ≤ rm := by
    rcases Nat.lt_or_ge rm s with z | z
    · exact absurd (nI_lt z (by omega)) hsum
    · exact z
  have hh : sR h g (ge kp R g - g) ≤ rm := by rw [← hl, ← hs]; exact hsr
  have := j13 g hb p3 ⟨hg, hn0, by rw [hg_sum hg]; exact hh, fun r h1 h2 => hv h0 r h1 (by omega)⟩
  have e := j10 l (by omega) (by omega)
  rw [p4'] at e
  exact hne e
theorem or10 : ∀ v : Int32, (v = 0 ∨ v = 1) → v ||| 0 = v ∧ ¬ (v ||| 1 = 0) ∧ (v ||| 1 = 0 ∨ v ||| 1 = 1) := by
  rintro v (rfl | rfl)
  · decide
  · decide
theorem tg_loop {C R W H rm w P g : Nat} {M : Mem} {Q : Int32 → Mem → Prop} {nt h : Nat → Nat} {kp : Nat → Bool} {B N : Nat → Nat} (hI : Inv C R W H M) (hF : Fresh C R W H M) (hD : LD C R rm w P M nt h kp B N) (hg : g < R) (hn0 : ¬ (0 < g ∧ kp (g - 1) = true)) (hQ : Q 1 M) :
    ∀ (k l s : Nat) (v8 : Int32), l + 1 + k = R → g ≤ l → s = sR h g (l + 1 - g) → gE kp R k (l + 1) = ge kp R g → (v8 = 0 ∨ v8 = 1) → (v8 = 0 → ∀ r, g ≤ r → r < l → nt r = 0) →
    ∃ n, wp_L_isTogether_L29 (nI g) (nI R) (nI rm) (fun v6 v7 v8 M => wp_L_isTogether_L81 (nI g) (nI R) (nI rm) Q v6 v7 v8 M) Q n (nI s) (nI l) v8 M
  | 0, l, s, v8, hk, hgl, hs, hge, hz, hv => by
    refine ⟨1, ?_⟩
    unfold wp_L_isTogether_L29
    rw [s_nI]
    exact ⟨fun _ => tg_tail hI hF hD hg hn0 hQ hge hs hv, fun z => absurd (nI_le (a := R) (b := l + 1) (by omega) (by have := hI.1.2.2.2; omega)) z⟩
  | k + 1, l, s, v8, hk, hgl, hs, hge, hz, hv => by
    have hR := hI.1.2.2.2
    have hll : (nI l).toNatClampNeg = l := ncl (by omega)
    have hvl := vin (n := l) (N := 30) (by omega) (by decide)
    have dn := hD.2.2.2.2.2.2.1 l (by omega)
    have dk := hD.2.2.2.2.2.2.2.1 l (by omega)
    have dh := hD.2.2.2.2.2.1 (l + 1) (by omega)
    have eh := (LD_rowF hD (l + 1)).1
    have es : s + h (l + 1) = sR h g (l + 1 + 1 - g) := by rw [sR_one h (show g ≤ l + 1 by omega), hs]
    have or := or10 v8 hz
    by_cases q : kp l = true
    · have eg : gE kp R (k + 1) (l + 1) = gE kp R k (l + 1 + 1) := if_pos ⟨by omega, q⟩
      have hkn : ¬ M 29 0 0 l = 0 := fun z => by rw [dk.mp z] at q; exact absurd q (by decide)
      by_cases y : nt l = 0
      · obtain ⟨n, hn⟩ := tg_loop hI hF hD hg hn0 hQ k (l + 1) (s + h (l + 1)) v8 (by omega) (by omega) es (eg ▸ hge) hz (fun z r h1 h2 => by
          by_cases u : r = l
          · rw [u]; exact y
          · exact hv z r h1 (by omega))
        refine ⟨n + 1, ?_⟩
        unfold wp_L_isTogether_L29
        rw [s_nI, hll]
        refine ⟨fun z => absurd z (nI_ge (a := l + 1) (b := R) (by omega) (by omega)), fun _ => ⟨hvl, fun z => absurd z hkn, fun _ => ⟨hvl, fun _ => ?_, fun z => absurd (by rw [dn.1, y]; exact Int32.le_refl _) z⟩⟩⟩
        unfold wp_L_isTogether_L60
        rw [s_nI]
        refine sp_ofRow hI hF (show l + 1 < R by omega) (w := 0) (by decide) ?_
        rw [eh, dh.1, nI_add, or.1]
        exact hn
      · obtain ⟨n, hn⟩ := tg_loop hI hF hD hg hn0 hQ k (l + 1) (s + h (l + 1)) (v8 ||| 1) (by omega) (by omega) es (eg ▸ hge) or.2.2 (fun z => absurd z or.2.1)
        refine ⟨n + 1, ?_⟩
        unfold wp_L_isTogether_L29
        rw [s_nI, hll]
        refine ⟨fun z => absurd z (nI_ge (a := l + 1) (b := R) (by omega) (by omega)), fun _ => ⟨hvl, fun z => absurd z hkn, fun _ => ⟨hvl, fun z => absurd z (by rw [dn.1]; exact nI_nle (by omega) (by omega)), fun _ => ?_⟩⟩⟩
        unfold wp_L_isTogether_L60
        rw [s_nI]
        refine sp_ofRow hI hF (show l + 1 < R by omega) (w := 0) (by decide) ?_
        rw [eh, dh.1, nI_add]
        exact hn
    · have eg : gE kp R (k + 1) (l + 1) = l + 1 := if_neg (fun z => q z.2)
      have hkn : M 29 0 0 l = 0 := dk.mpr (by simpa using q)
      refine ⟨1, ?_⟩
      unfold wp_L_isTogether_L29
      rw [s_nI, hll]
      refine ⟨fun z => absurd z (nI_ge (a := l + 1) (b := R) (by omega) (by omega)), fun _ => ⟨hvl, fun _ => tg_tail hI hF hD hg hn0 hQ (eg ▸ hge) hs hv, fun z => absurd hkn z⟩⟩
theorem sp_isTogether {C R W H rm w P g : Nat} {M : Mem} {Q : Int32 → Mem → Prop} {nt h : Nat → Nat} {kp : Nat → Bool} {B N : Nat → Nat} (hI : Inv C R W H M) (hF : Fresh C R W H M) (hD : LD C R rm w P M nt h kp B N) (hg : g < R) (hQ : Q 1 M) : wp_L_isTogether (nI g) (nI R) (nI rm) M Q := by
  have hR := hI.1.2.2.2
  have main : ¬ (0 < g ∧ kp (g - 1) = true) → wp_L_isTogether_L15 (nI g) (nI R) (nI rm) Q M := fun hn0 => by
    unfold wp_L_isTogether_L15
    refine sp_ofRow hI hF hg (w := 0) (by decide) ?_
    rw [(LD_rowF hD g).1, (hD.2.2.2.2.2.1 g hg).1]
    refine tg_loop hI hF hD hg hn0 hQ (R - (g + 1)) g (h g) 0 (by omega) (Nat.le_refl _) ?_ rfl (Or.inl rfl) (fun _ r h1 h2 => by omega)
    rw [sR_one h (Nat.le_refl g), Nat.sub_self]
    show h g = 0 + h g
    omega
  unfold wp_L_isTogether
  refine ⟨fun z => main (fun y => absurd z (nI_nle y.1 (by omega))), fun z => ?_⟩
  have h0 : 0 < g := by
    rcases Nat.eq_zero_or_pos g with y | y
    · subst y; exact absurd (Int32.le_refl _) z
    · exact y
  rw [p_nI h0, ncl (show g - 1 < 2 ^ 31 by omega)]
  have dk := hD.2.2.2.2.2.2.2.1 (g - 1) (by omega)
  refine ⟨vin (by omega) (by decide), fun z => main (fun y => ?_), fun _ => hQ⟩
  rw [dk.mp z] at y
  exact absurd y.2 (by decide)
