/-! What a layout keeps: its pages, its widths, its heights. -/
def asI (nt h : Nat → Nat) (kp : Nat → Bool) (R rm : Nat) (B N : Nat → Nat) (a : AS) : Prop :=
  a.2.2.1 ≤ a.2.1 ∧ a.2.1 ≤ R ∧ (a.2.2.1 < a.2.1 → 0 < nt a.2.2.1) ∧ B 0 = 0 ∧ N 0 = 0 ∧ B a.1 = a.2.1 ∧ N a.1 = a.2.2.1 ∧ a.1 ≤ a.2.1 + sR (pos nt) 0 a.2.2.1 ∧ (∀ p, p ≤ a.1 → B p ≤ a.2.1 ∧ N p ≤ a.2.2.1) ∧ (0 < a.1 → 0 < B 1) ∧
  ∀ p, p < a.1 → pgOK nt h kp R rm p (B p) (B (p + 1)) (N p) (N (p + 1)) (a.2.2.2.2.2.1 p) (a.2.2.2.2.2.2.1 p) (a.2.2.2.2.2.2.2.1 p) (a.2.2.2.2.2.2.2.2.1 p) (a.2.2.2.2.2.2.2.2.2 p) a.2.2.2.1 a.2.2.2.2.1
theorem as_step {nt h : Nat → Nat} {kp : Nat → Bool} {R rm : Nat} (hh : ∀ r, r < R → h r ≤ rm) (hnt : ∀ r, r < R → nt r ≤ rm) {B N : Nat → Nat} {a : AS} (hI : asI nt h kp R rm B N a) (hgo : a.2.1 < R ∨ a.2.2.1 < a.2.1) : ∃ B' N', asI nt h kp R rm B' N' (asN nt h kp R rm a) := by
  obtain ⟨p, nr, nn, rp, np, FR, RO, NO, LF, LR⟩ := a
  obtain ⟨i1, i2, i3, i4, i5, i6, i7, i8, i9, i11, i10⟩ := hI
  have i1 : nn ≤ nr := i1
  have i2 : nr ≤ R := i2
  have i3 : nn < nr → 0 < nt nn := i3
  have i6 : B p = nr := i6
  have i7 : N p = nn := i7
  have i8 : p ≤ nr + sR (pos nt) 0 nn := i8
  have i9 : ∀ q, q ≤ p → B q ≤ nr ∧ N q ≤ nn := i9
  have i10 : ∀ q, q < p → pgOK nt h kp R rm q (B q) (B (q + 1)) (N q) (N (q + 1)) (FR q) (RO q) (NO q) (LF q) (LR q) rp np := i10
  have hgo : nr < R ∨ nn < nr := hgo
  obtain ⟨P1, P2, P3⟩ := pg_prop (p := p) (rp := rp) (np := np) (kp := kp) i2 i1 hh hnt i3 hgo
  have hle := pgF_le (nt := nt) (h := h) (kp := kp) (rm := rm) (p := p) (rp := rp) (np := np) i2 i1
  have eN : asN nt h kp R rm (p, nr, nn, rp, np, FR, RO, NO, LF, LR) = (p + 1, (pgF nt h kp R rm p nr nn rp np).1, (pgF nt h kp R rm p nr nn rp np).2.2.2.2.1, (pgF nt h kp R rm p nr nn rp np).2.2.2.1, (pgF nt h kp R rm p nr nn rp np).2.2.2.2.2.2.2, upd FR p (pgF nt h kp R rm p nr nn rp np).2.2.1, upd RO p (nI (pgF nt h kp R rm p nr nn rp np).2.1), upd NO p (nI (pgF nt h kp R rm p nr nn rp np).2.2.2.2.2.2.1), upd LF p (nI (pgF nt h kp R rm p nr nn rp np).2.2.2.2.2.1), upd LR p (nI (pgF nt h kp R rm p nr nn rp np).1 - 1)) := rfl
  rw [eN]
  generalize pgF nt h kp R rm p nr nn rp np = s at P1 P2 P3 hle ⊢
  obtain ⟨l1, l2, l3, l4, l5, l6⟩ := hle
  refine ⟨fun i => if i ≤ p then B i else s.1, fun i => if i ≤ p then N i else s.2.2.2.2.1, l4, l2, P2, ?_, ?_, ?_, ?_, ?_, fun q hq => ?_, fun _ => ?_, fun q hq => ?_⟩
  · show (if 0 ≤ p then B 0 else s.1) = 0
    rw [if_pos (Nat.zero_le _)]; exact i4
  · show (if 0 ≤ p then N 0 else _) = 0
    rw [if_pos (Nat.zero_le _)]; exact i5
  · show (if p + 1 ≤ p then B (p + 1) else s.1) = s.1
    rw [if_neg (by omega)]
  · show (if p + 1 ≤ p then N (p + 1) else s.2.2.2.2.1) = s.2.2.2.2.1
    rw [if_neg (by omega)]
  · show p + 1 ≤ s.1 + sR (pos nt) 0 s.2.2.2.2.1
    have e := sR_split (pos nt) (Nat.zero_le nn) l3
    rw [Nat.sub_zero, Nat.sub_zero] at e
    have hp := P1.2.2.2.2.2.2.2.2.2.2.2.1
    omega
  · have hq : q ≤ p + 1 := hq
    show (if q ≤ p then B q else s.1) ≤ s.1 ∧ (if q ≤ p then N q else s.2.2.2.2.1) ≤ s.2.2.2.2.1
    by_cases z : q ≤ p
    · rw [if_pos z, if_pos z]
      have := i9 q z
      omega
    · rw [if_neg z, if_neg z]
      exact ⟨Nat.le_refl _, Nat.le_refl _⟩
  · show 0 < (if 1 ≤ p then B 1 else s.1)
    by_cases z : 1 ≤ p
    · rw [if_pos z]; exact i11 z
    · rw [if_neg z]
      have hp0 : p = 0 := by omega
      subst hp0
      have hnn : nn = nr := by rw [← i6, ← i7, i4, i5]
      have := P3 hnn
      omega
  · have hq : q < p + 1 := hq
    show pgOK nt h kp R rm q (if q ≤ p then B q else s.1) (if q + 1 ≤ p then B (q + 1) else s.1) (if q ≤ p then N q else s.2.2.2.2.1) (if q + 1 ≤ p then N (q + 1) else s.2.2.2.2.1) (upd FR p s.2.2.1 q) (upd RO p (nI s.2.1) q) (upd NO p (nI s.2.2.2.2.2.2.1) q) (upd LF p (nI s.2.2.2.2.2.1) q) (upd LR p (nI s.1 - 1) q) s.2.2.2.1 s.2.2.2.2.2.2.2
    rw [if_pos (show q ≤ p by omega), if_pos (show q ≤ p by omega)]
    by_cases z : q = p
    · subst z
      rw [if_neg (by omega), if_neg (by omega), i6, i7]
      simp only [upd, if_true]
      exact P1
    · rw [if_pos (show q + 1 ≤ p by omega), if_pos (show q + 1 ≤ p by omega)]
      simp only [upd, if_neg z]
      obtain ⟨j1, j2, j3, j4, j5, j6, j7, j8, j9, j10, j11, j12, j13⟩ := i10 q (by omega)
      have b9 := i9 (q + 1) (by omega)
      refine ⟨j1, j2, j3, j4, j5, j6, j7, j8, j9, fun r h1 h2 => ?_, fun r h1 h2 => ?_, j12, j13⟩
      · rw [l5 r (by omega)]; exact j10 r h1 h2
      · rw [l6 r (by omega)]; exact j11 r h1 h2
theorem ag_prop {nt h : Nat → Nat} {kp : Nat → Bool} {R rm : Nat} (hR30 : R ≤ 30) (hh : ∀ r, r < R → h r ≤ rm) (hnt : ∀ r, r < R → nt r ≤ rm) : ∀ (k : Nat) (a : AS) (B N : Nat → Nat), a.1 + k = 60 → asI nt h kp R rm B N a →
    ∃ B N, asI nt h kp R rm B N (agF nt h kp R rm k a) ∧ (agF nt h kp R rm k a).2.1 = R ∧ (agF nt h kp R rm k a).2.2.1 = R
  | 0, a, B, N, hk, hI => by
    have h1 := sR_pos_le nt 0 a.2.2.1
    have := hI.2.2.2.2.2.2.2.1
    have := hI.1
    have := hI.2.1
    exact ⟨B, N, hI, by show a.2.1 = R; omega, by show a.2.2.1 = R; omega⟩
  | k + 1, a, B, N, hk, hI => by
    by_cases q : a.2.1 < R ∨ a.2.2.1 < a.2.1
    · have e : agF nt h kp R rm (k + 1) a = agF nt h kp R rm k (asN nt h kp R rm a) := by simp only [agF, if_pos q]
      obtain ⟨B', N', hI'⟩ := as_step hh hnt hI q
      have e1 : (asN nt h kp R rm a).1 = a.1 + 1 := rfl
      rw [e]
      exact ag_prop hR30 hh hnt k _ B' N' (by rw [e1]; omega) hI'
    · have e : agF nt h kp R rm (k + 1) a = a := by simp only [agF, if_neg q]
      rw [e]
      have := hI.1
      have := hI.2.1
      exact ⟨B, N, hI, by omega, by omega⟩
theorem PAG_prop {nt h : Nat → Nat} {kp : Nat → Bool} {R rm : Nat} (hR30 : R ≤ 30) (hh : ∀ r, r < R → h r ≤ rm) (hnt : ∀ r, r < R → nt r ≤ rm) : ∃ B N, asI nt h kp R rm B N (PAG nt h kp R rm) ∧ (PAG nt h kp R rm).2.1 = R ∧ (PAG nt h kp R rm).2.2.1 = R :=
  ag_prop hR30 hh hnt 60 as0 (fun _ => 0) (fun _ => 0) rfl ⟨Nat.le_refl _, Nat.zero_le _, fun q => absurd q (Nat.lt_irrefl _), rfl, rfl, rfl, rfl, Nat.zero_le _, fun _ _ => ⟨Nat.le_refl _, Nat.le_refl _⟩, fun q => absurd q (Nat.lt_irrefl _), fun p hp => absurd hp (Nat.not_lt_zero _)⟩
/-! numbers of small size -/
theorem t_le {a b : Int32} : a ≤ b ↔ a.toInt ≤ b.toInt := Int32.le_iff_toInt_le
theorem t_lt {a b : Int32} : a < b ↔ a.toInt < b.toInt := Int32.lt_iff_toInt_lt
theorem t_add {a b : Int32} (h1 : -2147483648 ≤ a.toInt + b.toInt) (h2 : a.toInt + b.toInt < 2147483648) : (a + b).toInt = a.toInt + b.toInt := by
  rw [Int32.toInt_add, Int.bmod_eq_of_le] <;> omega
theorem t_sub {a b : Int32} (h1 : -2147483648 ≤ a.toInt - b.toInt) (h2 : a.toInt - b.toInt < 2147483648) : (a - b).toInt = a.toInt - b.toInt := by
  rw [Int32.toInt_sub, Int.bmod_eq_of_le] <;> omega
theorem t_nI {n : Nat} (h : n < 2 ^ 31) : (nI n).toInt = (n : Int) := nI_toInt h
theorem t_1 : (1 : Int32).toInt = 1 := by decide
theorem t_0 : (0 : Int32).toInt = 0 := by decide
def sI (f : Nat → Int) : Nat → Int
  | 0 => 0
  | n + 1 => sI f n + f n
theorem sI_upd (f : Nat → Int) (c : Nat) (x : Int) : ∀ n, sI (fun j => if j = c then x else f j) n = sI f n + (if c < n then x - f c else 0)
  | 0 => by simp [sI]
  | n + 1 => by
    have ih := sI_upd f c x n
    show sI _ n + (if n = c then x else f n) = sI f n + f n + _
    rw [ih]
    by_cases z : n = c
    · subst z; simp; omega
    · by_cases y : c < n
      · simp [z, y, show c < n + 1 by omega]; omega
      · simp [z, y, show ¬ c < n + 1 by omega]
theorem sI_bnd {f : Nat → Int} : ∀ n, (∀ j, j < n → 0 ≤ f j ∧ f j ≤ 100) → 0 ≤ sI f n ∧ sI f n ≤ 100 * n
  | 0, _ => by simp [sI]
  | n + 1, h => by
    have ih := sI_bnd n (fun j hj => h j (by omega))
    have := h n (by omega)
    show 0 ≤ sI f n + f n ∧ sI f n + f n ≤ 100 * ((n + 1 : Nat) : Int)
    omega
theorem sI_c {f g : Nat → Int} : ∀ n, (∀ j, j < n → f j = g j) → sI f n = sI g n
  | 0, _ => rfl
  | n + 1, h => by simp only [sI, sI_c n (fun j hj => h j (by omega)), h n (by omega)]
theorem twF_t {C : Nat} (hC : C ≤ 6) {wd : Nat → Int32} : ∀ n, n ≤ 6 → (∀ j, j < n → 0 ≤ (wd j).toInt ∧ (wd j).toInt ≤ 100) → (twF (nI C) wd n).toInt = (C : Int) - 1 + sI (fun j => (wd j).toInt) n
  | 0, _, _ => by
    show (nI C - 1).toInt = _
    rw [t_sub] <;> rw [t_nI (by omega), t_1]
    · simp [sI]
    · omega
    · omega
  | n + 1, h6, h => by
    have ih := twF_t hC n (by omega) (fun j hj => h j (by omega))
    have b := sI_bnd n (fun j hj => h j (by omega) : ∀ j, j < n → 0 ≤ (wd j).toInt ∧ (wd j).toInt ≤ 100)
    have := h n (by omega)
    show (twF (nI C) wd n + wd n).toInt = _
    rw [t_add] <;> rw [ih]
    · show _ = (C : Int) - 1 + (sI (fun j => (wd j).toInt) n + (wd n).toInt); omega
    · omega
    · omega
theorem msF_t {wd le : Nat → Int32} : ∀ n, n ≤ 6 → 0 ≤ (msF wd le n).1 ∧ ((msF wd le n).2 = -1 ∨ ∃ c, c < n ∧ (msF wd le n).2 = nI c ∧ (msF wd le n).1 = wd c - le c ∧ 0 < (msF wd le n).1)
  | 0, _ => ⟨Int32.le_refl _, Or.inl rfl⟩
  | n + 1, h => by
    obtain ⟨a, b⟩ := msF_t (wd := wd) (le := le) n (by omega)
    by_cases q : wd n - le n ≤ (msF wd le n).1
    · have e : msF wd le (n + 1) = msF wd le n := by simp only [msF, if_pos q]
      rw [e]
      refine ⟨a, ?_⟩
      rcases b with b | ⟨c, b1, b2⟩
      · exact Or.inl b
      · exact Or.inr ⟨c, by omega, b2⟩
    · have e : msF wd le (n + 1) = (wd n - le n, nI n) := by simp only [msF, if_neg q]
      rw [e]
      have q1 : (msF wd le n).1 < wd n - le n := Int32.not_le.mp q
      have q2 : 0 < wd n - le n := by rw [t_lt] at q1 ⊢; rw [t_le] at a; omega
      exact ⟨Int32.le_of_lt q2, Or.inr ⟨n, by omega, rfl, rfl, q2⟩⟩
theorem narF_t {C : Nat} (hC : C ≤ 6) {le : Nat → Int32} : ∀ (k : Nat) (wd wd' : Nat → Int32), narF C le k wd = some wd' → (∀ j, j < C → 0 ≤ (le j).toInt ∧ (le j).toInt ≤ (wd j).toInt ∧ (wd j).toInt ≤ 100) →
    (∀ j, j < C → (le j).toInt ≤ (wd' j).toInt ∧ (wd' j).toInt ≤ (wd j).toInt) ∧ sI (fun j => (wd' j).toInt) C = sI (fun j => (wd j).toInt) C - k
  | 0, wd, wd', h, hb => by
    cases h
    exact ⟨fun j hj => ⟨(hb j hj).2.1, Int.le_refl _⟩, by simp⟩
  | k + 1, wd, wd', h, hb => by
    by_cases q : (msF wd le C).2 = -1
    · simp only [narF, if_pos q] at h; cases h
    · obtain ⟨a, b⟩ := msF_t (wd := wd) (le := le) C hC
      obtain ⟨c, c1, c2, c3, c4⟩ := b.resolve_left q
      rw [narF, if_neg q, c2, ncl (show c < 2 ^ 31 by omega)] at h
      have bc := hb c c1
      have e1 : (wd c - 1).toInt = (wd c).toInt - 1 := by
        rw [t_sub] <;> rw [t_1] <;> omega
      have e2 : (le c).toInt < (wd c).toInt := by
        rw [c3, t_lt, t_0, t_sub (by omega) (by omega)] at c4
        omega
      have eu : ∀ j, (upd wd c (wd c - 1) j).toInt = if j = c then (wd c).toInt - 1 else (wd j).toInt := fun j => by
        unfold upd
        split
        · exact e1
        · rfl
      obtain ⟨r1, r2⟩ := narF_t hC k (upd wd c (wd c - 1)) wd' h (fun j hj => by
        rw [eu]
        have := hb j hj
        split
        · rename_i z; subst z; omega
        · exact this)
      refine ⟨fun j hj => ?_, ?_⟩
      · have := r1 j hj
        rw [eu] at this
        refine ⟨this.1, ?_⟩
        split at this
        · rename_i z; subst z; omega
        · exact this.2
      · rw [r2]
        have : (fun j => (upd wd c (wd c - 1) j).toInt) = fun j => if j = c then (wd c).toInt - 1 else (wd j).toInt := funext eu
        rw [this, sI_upd, if_pos c1]
        push_cast
        omega
theorem WID_t {C R W : Nat} (hC : C ≤ 6) (hW : W ≤ 1000) {be le wd : Nat → Int32} (h : WID be le C R (nI W) = some wd) (hb : ∀ j, j < C → 0 ≤ (le j).toInt ∧ (le j).toInt ≤ (be j).toInt ∧ (be j).toInt ≤ 100) :
    ¬ C = 0 ∧ ¬ R = 0 ∧ (∀ j, j < C → (le j).toInt ≤ (wd j).toInt ∧ (wd j).toInt ≤ (be j).toInt) ∧ (twF (nI C) wd C).toInt ≤ W := by
  unfold WID at h
  by_cases z : C = 0 ∨ R = 0
  · rw [if_pos z] at h; cases h
  · rw [if_neg z] at h
    have ec : ∀ j, j < C → cut0 C be j = be j := fun j hj => by simp [cut0, hj]
    obtain ⟨r1, r2⟩ := narF_t hC _ _ _ h (fun j hj => by rw [ec j hj]; exact hb j hj)
    have b1 : ∀ j, j < C → (le j).toInt ≤ (wd j).toInt ∧ (wd j).toInt ≤ (be j).toInt := fun j hj => by have := r1 j hj; rw [ec j hj] at this; exact this
    have t0 := twF_t hC (wd := cut0 C be) C hC (fun j hj => by rw [ec j hj]; have := hb j hj; omega)
    have t1 := twF_t hC (wd := wd) C hC (fun j hj => by have := hb j hj; have := b1 j hj; omega)
    have bnd := sI_bnd (f := fun j => (cut0 C be j).toInt) C (fun j hj => by show 0 ≤ (cut0 C be j).toInt ∧ (cut0 C be j).toInt ≤ 100; rw [ec j hj]; have := hb j hj; omega)
    refine ⟨fun y => z (Or.inl y), fun y => z (Or.inr y), b1, ?_⟩
    have e : (twF (nI C) (cut0 C be) C - nI W).toInt = (twF (nI C) (cut0 C be) C).toInt - W := by
      rw [t_sub] <;> rw [t_nI (by omega), t0] <;> omega
    have ek : ((twF (nI C) (cut0 C be) C - nI W).toNatClampNeg : Int) = max 0 ((twF (nI C) (cut0 C be) C).toInt - W) := by
      show (((twF (nI C) (cut0 C be) C - nI W).toInt.toNat : Nat) : Int) = _
      rw [e]; omega
    rw [t1, r2, ek, t0]
    omega
theorem h60_pos (len w : Int32) : 1 ≤ h60 len w := by
  unfold h60
  split
  · split
    · rename_i q; exact Int32.le_of_lt q
    · exact Int32.le_refl _
  · exact Int32.le_refl _
theorem chF_pos {Y : Vw} {C : Nat} {wd : Nat → Int32} {r c : Nat} (h : Y 17 r c = 0) : 1 ≤ chF Y C wd r c := by
  unfold chF
  rw [if_pos h]
  split
  · exact h60_pos _ _
  · exact Int32.le_refl _
theorem rhF_1 {Y : Vw} {C : Nat} {wd : Nat → Int32} {r : Nat} (h : Y 17 r 0 = 0) : ∀ n, 0 < n → 1 ≤ rhF Y C wd r n
  | 0, h0 => absurd h0 (Nat.lt_irrefl _)
  | 1, _ => Int32.le_trans (chF_pos h) (le_imaxR _ _)
  | n + 2, _ => Int32.le_trans (rhF_1 h (n + 1) (by omega)) (le_imaxL _ _)
/-! LEAST and BEST are small -/
theorem imax_t (a b : Int32) : (imax a b).toInt = max a.toInt b.toInt := by
  unfold imax
  split
  · rename_i q; rw [t_lt] at q; omega
  · rename_i q; rw [t_lt] at q; omega
theorem szF_t : ∀ (k : Nat) (s r : Int32), 0 ≤ s.toInt → s.toInt + k ≤ 100 → s.toInt ≤ (szF k s r).toInt ∧ (szF k s r).toInt ≤ s.toInt + k
  | 0, s, r, _, _ => ⟨Int.le_refl _, by show s.toInt ≤ s.toInt + 0; omega⟩
  | k + 1, s, r, h0, h1 => by
    by_cases q : r = 0
    · have e : szF (k + 1) s r = s := by simp only [szF, if_pos q]
      rw [e]; omega
    · have e : szF (k + 1) s r = szF k (s + 1) (r / 10) := by simp only [szF, if_neg q]
      have e1 : (s + 1).toInt = s.toInt + 1 := by
        rw [t_add] <;> rw [t_1] <;> omega
      have := szF_t k (s + 1) (r / 10) (by omega) (by omega)
      rw [e]; omega
theorem sizeF_t (x : Int32) : 0 ≤ (sizeF x).toInt ∧ (sizeF x).toInt ≤ 12 := by
  unfold sizeF
  have t2 : (2 : Int32).toInt = 2 := by decide
  split
  · have := szF_t 10 1 (x / 10) (by rw [t_1]; omega) (by rw [t_1]; omega)
    rw [t_1] at this; omega
  · have := szF_t 10 2 (x / 10) (by rw [t2]; omega) (by rw [t2]; omega)
    rw [t2] at this; omega
theorem lnF_t {V : Vw} {c : Nat} (h0 : 1 ≤ V 6 0 c) (h1 : V 6 0 c ≤ 12) : ∀ n, 1 ≤ (lnF V c n).toInt ∧ (lnF V c n).toInt ≤ 12
  | 0 => by
    rw [t_le] at h0 h1
    rw [t_1] at h0
    exact ⟨h0, h1⟩
  | n + 1 => by
    have ih := lnF_t h0 h1 n
    show 1 ≤ (imax (imax (lnF V c n) (sizeF (V 12 n c))) (sizeF (sumF (fun r => V 12 r c) (n + 1)))).toInt ∧ (imax (imax (lnF V c n) (sizeF (V 12 n c))) (sizeF (sumF (fun r => V 12 r c) (n + 1)))).toInt ≤ 12
    rw [imax_t, imax_t]
    have := sizeF_t (V 12 n c)
    have := sizeF_t (sumF (fun r => V 12 r c) (n + 1))
    omega
theorem ltF_t {V : Vw} {C c : Nat} (h0 : 1 ≤ V 6 0 c) (h1 : V 6 0 c ≤ 12) : ∀ n, (∀ r, r < n → V 14 r c ≤ 12) → 1 ≤ (ltF V C c n).toInt ∧ (ltF V C c n).toInt ≤ 12
  | 0, _ => by
    rw [t_le] at h0 h1
    rw [t_1] at h0
    exact ⟨h0, h1⟩
  | n + 1, hw => by
    have ih := ltF_t h0 h1 n (fun r hr => hw r (by omega)) (C := C)
    have hwn := hw n (by omega)
    rw [t_le] at hwn
    have e12 : (12 : Int32).toInt = 12 := by decide
    rw [e12] at hwn
    by_cases q : shown V C n c
    · have e : ltF V C c (n + 1) = imax (ltF V C c n) (V 14 n c) := shB_p q
      rw [e, imax_t]; omega
    · have e : ltF V C c (n + 1) = ltF V C c n := shB_n q
      rw [e]; exact ih
theorem LB_t {V : Vw} {C R c : Nat} (h0 : 1 ≤ V 6 0 c) (h1 : V 6 0 c ≤ 12) (hw : ∀ r, r < R → V 14 r c ≤ 12) : 0 ≤ (LEA V C R c).toInt ∧ (LEA V C R c).toInt ≤ (BST V C R c).toInt ∧ (BST V C R c).toInt ≤ 100 := by
  unfold LEA BST
  split
  · have := ltF_t h0 h1 R hw (C := C)
    have e : (min30 (lgF V C c R)).toInt ≤ 30 := by
      have e30 : (30 : Int32).toInt = 30 := by decide
      unfold min30
      split
      · rename_i q; rw [t_lt, e30] at q; omega
      · rw [e30]; omega
    rw [imax_t]; omega
  · have := lnF_t h0 h1 R
    omega
