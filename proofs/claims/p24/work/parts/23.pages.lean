/-! Pages: how they are filled, in numbers. -/
/-- notes: the next one, the lines left, how many on the page, the page of each -/
abbrev PW : Type := Nat × Nat × Nat × (Nat → Int32)
def pwN (nt : Nat → Nat) (p : Nat) (s : PW) : PW := (s.1 + 1, s.2.1 - nt s.1, (if nt s.1 = 0 then s.2.2.1 else s.2.2.1 + 1), upd s.2.2.2 s.1 (if nt s.1 = 0 then -1 else nI p))
def pwF (nt : Nat → Nat) (nr p : Nat) : Nat → PW → PW
  | 0, s => s
  | k + 1, s => if s.1 < nr ∧ nt s.1 ≤ s.2.1 then pwF nt nr p k (pwN nt p s) else s
def pwM (M : Mem) (q p : Nat) (s : PW) (nn0 : Nat) : Mem := fun f' o' i' j' =>
  if f' = 3 ∧ o' = q ∧ i' = 0 ∧ j' = 13 then nI s.1
  else if f' = 25 ∧ o' = q ∧ i' = 0 ∧ j' = p then nI s.2.1
  else if f' = 24 ∧ o' = q ∧ i' = 0 ∧ j' = p then nI s.2.2.1
  else if f' = 21 ∧ o' = q ∧ i' = 0 ∧ nn0 ≤ j' ∧ j' < s.1 then s.2.2.2 j'
  else M f' o' i' j'
theorem pw_eq0 {M : Mem} {q p nn0 nn lf no : Nat} {np : Nat → Int32} (h0 : nn0 ≤ nn) : sM (sM (pwM M q p (nn, lf, no, np) nn0) 21 q 0 nn (-1)) 3 q 0 13 (nI (nn + 1)) = pwM M q p (nn + 1, lf, no, upd np nn (-1)) nn0 := by
  refine mem_ext fun f' o' i' j' => ?_
  simp only [rd, pwM, upd]
  grind (splits := 40)
theorem pw_eq1 {M : Mem} {q p nn0 nn lf no no' lf' : Nat} {np : Nat → Int32} {x : Int32} (h0 : nn0 ≤ nn) : sM (sM (sM (sM (sM (pwM M q p (nn, lf, no, np) nn0) 21 q 0 nn (-1)) 21 q 0 nn x) 24 q 0 p (nI no')) 25 q 0 p (nI lf')) 3 q 0 13 (nI (nn + 1)) = pwM M q p (nn + 1, lf', no', upd np nn x) nn0 := by
  refine mem_ext fun f' o' i' j' => ?_
  simp only [rd, pwM, upd]
  grind (splits := 40)
theorem pw_loop {q o p nr nn0 : Nat} {nt : Nat → Nat} {M : Mem} {Q : Mem → Prop} (hp : p < 60) (hr : nr ≤ 30) (hnr : M 3 q 0 12 = nI nr) (hnt : ∀ r, r < nr → M 4 o r 4 = nI (nt r) ∧ nt r ≤ 5) :
    ∀ (k : Nat) (s : PW) (M' : Mem), s.1 + k = nr → nn0 ≤ s.1 → s.2.1 ≤ 100 → M' = pwM M q p s nn0 → Q (pwM M q p (pwF nt nr p k s) nn0) → ∃ n, wp_X0_putWaitingNotes_L0 q o (nI p) (fun M => Q M) Q n M' := by
  have hpp : (nI p).toNatClampNeg = p := ncl (by omega)
  have hvp := vin (n := p) (N := 60) hp (by decide)
  intro k
  induction k with
  | zero =>
    intro s M' hk h0 hl hM' hQ
    have e12 : M' 3 q 0 12 = nI nr := by rw [hM']; simp [pwM, hnr]
    have e13 : M' 3 q 0 13 = nI s.1 := by rw [hM']; simp [pwM]
    refine ⟨1, ?_⟩
    unfold wp_X0_putWaitingNotes_L0
    rw [e12, e13]
    refine ⟨fun _ => ?_, fun h => absurd (nI_le (a := nr) (b := s.1) (by omega) (by omega)) h⟩
    rw [hM']; exact hQ
  | succ k ih =>
    intro s M' hk h0 hl hM' hQ
    have e12 : M' 3 q 0 12 = nI nr := by rw [hM']; simp [pwM, hnr]
    have e13 : M' 3 q 0 13 = nI s.1 := by rw [hM']; simp [pwM]
    have hs : s.1 < nr := by omega
    have hss : (nI s.1).toNatClampNeg = s.1 := ncl (by omega)
    have hvs := vin (n := s.1) (N := 30) (by omega) (by decide)
    have e4 : M' 4 o s.1 4 = nI (nt s.1) := by rw [hM']; simp [pwM]; exact (hnt s.1 hs).1
    have e25 : M' 25 q 0 p = nI s.2.1 := by rw [hM']; simp [pwM]
    have e24 : M' 24 q 0 p = nI s.2.2.1 := by rw [hM']; simp [pwM]
    have n5 := (hnt s.1 hs).2
    by_cases hfit : nt s.1 ≤ s.2.1
    · have eF : pwF nt nr p (k + 1) s = pwF nt nr p k (pwN nt p s) := by simp only [pwF, if_pos (And.intro hs hfit)]
      rw [eF] at hQ
      have nx : ∀ M2 : Mem, M2 = pwM M q p (pwN nt p s) nn0 → ∃ n, wp_X0_putWaitingNotes_L0 q o (nI p) (fun M => Q M) Q n M2 := fun M2 e => ih (pwN nt p s) M2 (by show s.1 + 1 + k = nr; omega) (by show nn0 ≤ s.1 + 1; omega) (by show s.2.1 - nt s.1 ≤ 100; omega) e hQ
      by_cases h00 : nt s.1 = 0
      · obtain ⟨n, hn⟩ := nx (pwM M q p (pwN nt p s) nn0) rfl
        refine ⟨n + 1, ?_⟩
        unfold wp_X0_putWaitingNotes_L0
        rw [e12, e13, hss, hpp, e4, e25]
        refine ⟨fun h => absurd h (nI_ge hs (by omega)), fun _ => ⟨hvs, hvp, fun h => absurd h (nI_nlt hfit (by omega)), fun _ => ⟨hvs, hvs, fun M54 e54 => ⟨fun _ => ?_, fun h => absurd (by rw [h00]; exact Int32.le_refl _) h⟩⟩⟩⟩
        unfold wp_X0_putWaitingNotes_L89
        intro M99 e99
        have e13' : M54 3 q 0 13 = nI s.1 := by rw [e54, rd]; simp [e13]
        have e : M99 = pwM M q p (pwN nt p s) nn0 := by
          rw [e99, e13', s_nI, e54, hM']
          have := pw_eq0 (M := M) (q := q) (p := p) (nn0 := nn0) (nn := s.1) (lf := s.2.1) (no := s.2.2.1) (np := s.2.2.2) h0
          unfold pwN
          rw [if_pos h00, if_pos h00, h00]
          exact this
        rw [e]; exact hn
      · obtain ⟨n, hn⟩ := nx (pwM M q p (pwN nt p s) nn0) rfl
        refine ⟨n + 1, ?_⟩
        unfold wp_X0_putWaitingNotes_L0
        rw [e12, e13, hss, hpp, e4, e25]
        refine ⟨fun h => absurd h (nI_ge hs (by omega)), fun _ => ⟨hvs, hvp, fun h => absurd h (nI_nlt hfit (by omega)), fun _ => ⟨hvs, hvs, fun M54 e54 => ⟨fun h => absurd h (nI_nle (by omega) (by omega)), fun _ => ?_⟩⟩⟩⟩
        have e13' : M54 3 q 0 13 = nI s.1 := by rw [e54, rd]; simp [e13]
        rw [e13', hss]
        refine ⟨hvs, fun M68 e68 => ⟨hvp, hvp, fun M78 e78 => ⟨hvp, hvp, fun M88 e88 => ?_⟩⟩⟩
        have e24' : M68 24 q 0 p = nI s.2.2.1 := by simp [e68, e54, rd, e24]
        have e25' : M78 25 q 0 p = nI s.2.1 := by simp [e78, e68, e54, rd, e25]
        rw [e24', s_nI] at e78
        rw [e25', pk_sub hfit] at e88
        have e13'' : M88 3 q 0 13 = nI s.1 := by simp [e88, e78, e68, e54, rd, e13]
        unfold wp_X0_putWaitingNotes_L89
        intro M99 e99
        have e : M99 = pwM M q p (pwN nt p s) nn0 := by
          rw [e99, e13'', s_nI, e88, e78, e68, e54, hM']
          have := pw_eq1 (M := M) (q := q) (p := p) (nn0 := nn0) (nn := s.1) (lf := s.2.1) (no := s.2.2.1) (no' := s.2.2.1 + 1) (lf' := s.2.1 - nt s.1) (np := s.2.2.2) (x := nI p) h0
          unfold pwN
          rw [if_neg h00, if_neg h00]
          exact this
        rw [e]; exact hn
    · have eF : pwF nt nr p (k + 1) s = s := by simp only [pwF, if_neg (fun z : s.1 < nr ∧ nt s.1 ≤ s.2.1 => hfit z.2)]
      rw [eF] at hQ
      refine ⟨1, ?_⟩
      unfold wp_X0_putWaitingNotes_L0
      rw [e12, e13, hss, hpp, e4, e25]
      refine ⟨fun h => absurd h (nI_ge hs (by omega)), fun _ => ⟨hvs, hvp, fun _ => ?_, fun h => absurd (nI_lt (a := s.2.1) (b := nt s.1) (by omega) (by omega)) h⟩⟩
      rw [hM']; exact hQ
theorem sp_putWaitingNotes {q o p nr : Nat} {nt : Nat → Nat} {s : PW} {M : Mem} {Q : Mem → Prop} (hp : p < 60) (hr : nr ≤ 30) (hnr : M 3 q 0 12 = nI nr) (hnt : ∀ r, r < nr → M 4 o r 4 = nI (nt r) ∧ nt r ≤ 5)
    (hn : s.1 ≤ nr) (hl : s.2.1 ≤ 100) (e13 : M 3 q 0 13 = nI s.1) (e25 : M 25 q 0 p = nI s.2.1) (e24 : M 24 q 0 p = nI s.2.2.1) (hQ : Q (pwM M q p (pwF nt nr p (nr - s.1) s) s.1)) : wp_X0_putWaitingNotes q o (nI p) M Q := by
  unfold wp_X0_putWaitingNotes
  refine pw_loop hp hr hnr hnt (nr - s.1) s M (by omega) (Nat.le_refl _) hl ?_ hQ
  refine mem_ext fun f' o' i' j' => ?_
  simp only [pwM]
  grind (splits := 40)
/-- rows: the next one, how many on the page, the first of them, the page of each; and the notes -/
abbrev FS : Type := Nat × Nat × Int32 × (Nat → Int32) × PW
def ptF (h : Nat → Nat) (p : Nat) (s : FS) : FS := (s.1 + 1, s.2.1 + 1, (if s.2.1 = 0 then nI s.1 else s.2.2.1), upd s.2.2.2.1 s.1 (nI p), (s.2.2.2.2.1, s.2.2.2.2.2.1 - h s.1, s.2.2.2.2.2.2))
def flM (M : Mem) (q p : Nat) (s : FS) (nr0 nn0 : Nat) : Mem := fun f' o' i' j' =>
  if f' = 3 ∧ o' = q ∧ i' = 0 ∧ j' = 12 then nI s.1
  else if f' = 23 ∧ o' = q ∧ i' = 0 ∧ j' = p then nI s.2.1
  else if f' = 22 ∧ o' = q ∧ i' = 0 ∧ j' = p then s.2.2.1
  else if f' = 20 ∧ o' = q ∧ i' = 0 ∧ nr0 ≤ j' ∧ j' < s.1 then s.2.2.2.1 j'
  else pwM M q p s.2.2.2.2 nn0 f' o' i' j'
/-- heights of the rows kept together from here on -/
def hgF (h : Nat → Nat) (kp : Nat → Bool) (R : Nat) : Nat → Nat → Nat → Nat
  | 0, _, a => a
  | k + 1, r, a => if r < R ∧ kp (r - 1) = true then hgF h kp R k (r + 1) (a + h r) else a
def hg (h : Nat → Nat) (kp : Nat → Bool) (R f : Nat) : Nat := hgF h kp R (R - (f + 1)) (f + 1) (h f)
def hrB (h : Nat → Nat) (kp : Nat → Bool) (R rm : Nat) (s : FS) : Bool :=
  decide (h s.1 ≤ s.2.2.2.2.2.1) && (decide (s.2.1 = 0) || (decide (0 < s.1) && kp (s.1 - 1)) || decide (hg h kp R s.1 ≤ s.2.2.2.2.2.1) || decide (rm < hg h kp R s.1))
def nxF (nt h : Nat → Nat) (p : Nat) (s : FS) : FS :=
  if s.2.2.2.2.1 < s.1 then ptF h p s else ((ptF h p s).1, (ptF h p s).2.1, (ptF h p s).2.2.1, (ptF h p s).2.2.2.1, pwF nt (s.1 + 1) p (s.1 + 1 - s.2.2.2.2.1) (ptF h p s).2.2.2.2)
def flF (nt h : Nat → Nat) (kp : Nat → Bool) (R rm p : Nat) : Nat → FS → FS
  | 0, s => s
  | k + 1, s => if s.1 < R ∧ hrB h kp R rm s = true then flF nt h kp R rm p k (nxF nt h p s) else s
/-- the facts of a sheet and a layout that the filling of pages reads -/
def rows_ok (M : Mem) (q o R rm : Nat) (nt h : Nat → Nat) (kp : Nat → Bool) : Prop :=
  M 1 o 0 5 = nI R ∧ M 3 q 0 1 = nI rm ∧ ∀ r, r < R → (M 4 o r 4 = nI (nt r) ∧ nt r ≤ 5) ∧ (M 4 o r 5 = 0 ↔ kp r = false) ∧ (M 19 q 0 r = nI (h r) ∧ h r ≤ 100)
theorem rows_ok_k {M M' : Mem} {q o R rm : Nat} {nt h : Nat → Nat} {kp : Nat → Bool} (hk : rows_ok M q o R rm nt h kp) (h1 : M' 1 o 0 5 = M 1 o 0 5) (h3 : M' 3 q 0 1 = M 3 q 0 1) (h4 : ∀ r, M' 4 o r = M 4 o r) (h19 : M' 19 q 0 = M 19 q 0) : rows_ok M' q o R rm nt h kp := by
  refine ⟨h1.trans hk.1, h3.trans hk.2.1, fun r hr => ?_⟩
  rw [h4, h19]
  exact hk.2.2 r hr
theorem hgF_le {h : Nat → Nat} {kp : Nat → Bool} {R : Nat} (hh : ∀ r, r < R → h r ≤ 100) : ∀ (k r a : Nat), hgF h kp R k r a ≤ a + 100 * k
  | 0, _, a => Nat.le_refl _
  | k + 1, r, a => by
    by_cases q : r < R ∧ kp (r - 1) = true
    · have e : hgF h kp R (k + 1) r a = hgF h kp R k (r + 1) (a + h r) := by simp only [hgF, if_pos q]
      have := hgF_le (kp := kp) hh k (r + 1) (a + h r)
      have := hh r q.1
      omega
    · have e : hgF h kp R (k + 1) r a = a := by simp only [hgF, if_neg q]
      omega
theorem sp_heightOfGroup {q o R rm f : Nat} {nt h : Nat → Nat} {kp : Nat → Bool} {M : Mem} {Q : Int32 → Mem → Prop} (hR30 : R ≤ 30) (hok : rows_ok M q o R rm nt h kp) (hf : f < R) (hQ : Q (nI (hg h kp R f)) M) : wp_X0_heightOfGroup q o (nI f) M Q := by
  have hff : (nI f).toNatClampNeg = f := ncl (by omega)
  have loop : ∀ (k r a : Nat), r + k = R → 0 < r → Q (nI (hgF h kp R k r a)) M → ∃ n, wp_X0_heightOfGroup_L12 q o (nI f) (fun v3 M => Q v3 M) Q n (nI a) (nI r) M := by
    intro k
    induction k with
    | zero =>
      intro r a hr h0 hq
      refine ⟨1, ?_⟩
      unfold wp_X0_heightOfGroup_L12
      rw [hok.1]
      exact ⟨fun _ => hq, fun z => absurd (nI_le (a := R) (b := r) (by omega) (by omega)) z⟩
    | succ k ih =>
      intro r a hr h0 hq
      have hrr : (nI r).toNatClampNeg = r := ncl (by omega)
      have er1 : nI r - 1 = nI (r - 1) := p_nI h0
      have hr1 : (nI (r - 1)).toNatClampNeg = r - 1 := ncl (by omega)
      have hkp := (hok.2.2 (r - 1) (by omega)).2.1
      have hh := (hok.2.2 r (by omega)).2.2.1
      by_cases hb : kp (r - 1) = true
      · have e : hgF h kp R (k + 1) r a = hgF h kp R k (r + 1) (a + h r) := by simp only [hgF, if_pos (And.intro (show r < R by omega) hb)]
        rw [e] at hq
        obtain ⟨n, hn⟩ := ih (r + 1) (a + h r) (by omega) (by omega) hq
        refine ⟨n + 1, ?_⟩
        unfold wp_X0_heightOfGroup_L12
        rw [hok.1, er1, hr1, hrr, hh, s_nI, nI_add]
        refine ⟨fun z => absurd z (nI_ge (a := r) (b := R) (by omega) (by omega)), fun _ => ⟨vin (by omega) (by decide), fun z => ?_, fun _ => ⟨vin (by omega) (by decide), hn⟩⟩⟩
        rw [hkp.mp z] at hb; exact absurd hb (by decide)
      · have e : hgF h kp R (k + 1) r a = a := by simp only [hgF, if_neg (fun z : r < R ∧ kp (r - 1) = true => hb z.2)]
        rw [e] at hq
        refine ⟨1, ?_⟩
        unfold wp_X0_heightOfGroup_L12
        rw [hok.1, er1, hr1]
        refine ⟨fun z => absurd z (nI_ge (a := r) (b := R) (by omega) (by omega)), fun _ => ⟨vin (by omega) (by decide), fun _ => hq, fun z => ?_⟩⟩
        exact absurd (hkp.mpr (by simpa using hb)) z
  unfold wp_X0_heightOfGroup
  rw [hff, s_nI, (hok.2.2 f hf).2.2.1]
  exact ⟨vin (by omega) (by decide), loop (R - (f + 1)) (f + 1) (h f) (by omega) (by omega) hQ⟩
theorem sp_hasRoom {q o p R rm : Nat} {nt h : Nat → Nat} {kp : Nat → Bool} {s : FS} {M : Mem} {Q : Int32 → Mem → Prop} (hR30 : R ≤ 30) (hp : p < 60) (hrm : rm ≤ 100) (hok : rows_ok M q o R rm nt h kp) (hs : s.1 < R) (hl : s.2.2.2.2.2.1 ≤ 100) (hro : s.2.1 ≤ 100)
    (e12 : M 3 q 0 12 = nI s.1) (e25 : M 25 q 0 p = nI s.2.2.2.2.2.1) (e23 : M 23 q 0 p = nI s.2.1) (hQ : Q (if hrB h kp R rm s = true then 1 else 0) M) : wp_X0_hasRoomForNextRow q o (nI p) M Q := by
  have hpp : (nI p).toNatClampNeg = p := ncl (by omega)
  have hvp := vin (n := p) (N := 60) hp (by decide)
  have hss : (nI s.1).toNatClampNeg = s.1 := ncl (by omega)
  have hvs := vin (n := s.1) (N := 30) (by omega) (by decide)
  have hh := (hok.2.2 s.1 hs).2.2
  have hgl : hg h kp R s.1 ≤ 10000 := by
    have := hgF_le (kp := kp) (fun r hr => (hok.2.2 r hr).2.2.2) (R - (s.1 + 1)) (s.1 + 1) (h s.1)
    unfold hg
    omega
  have tail : ∀ t : Int32, (t = 0 ∨ t = 1) → (t = 0 ↔ ¬ (0 < s.1 ∧ kp (s.1 - 1) = true)) → h s.1 ≤ s.2.2.2.2.2.1 → wp_X0_hasRoomForNextRow_L49 q o (nI p) Q t M := by
    intro t ht ht0 hfit
    unfold wp_X0_hasRoomForNextRow_L49
    rw [hpp, e23, e12]
    refine ⟨hvp, fun h0 => ?_, fun h0 => ⟨fun ht1 => sp_heightOfGroup hR30 hok hs ⟨hvp, ?_⟩, fun ht1 => ?_⟩⟩
    · have h00 : s.2.1 = 0 := nI_inj (by omega) (by omega) (h0.trans z_nI)
      have e : hrB h kp R rm s = true := by simp [hrB, hfit, h00]
      rw [e] at hQ; exact hQ
    · have h00 : ¬ s.2.1 = 0 := fun z => h0 (by rw [z]; rfl)
      have hk := ht0.mp ht1
      rw [e25, hok.2.1]
      refine ⟨fun h1 => ?_, fun h1 => ⟨fun h2 => ?_, fun h2 => ?_⟩⟩
      · have h1 := (nI_leI (by omega) (by omega)).mp h1
        have e : hrB h kp R rm s = true := by simp [hrB, hfit, h1]
        rw [e] at hQ; exact hQ
      · have h1 : ¬ hg h kp R s.1 ≤ s.2.2.2.2.2.1 := fun z => h1 ((nI_leI (by omega) (by omega)).mpr z)
        have h2 := (nI_leI (by omega) (by omega)).mp h2
        have e : ¬ hrB h kp R rm s = true := by
          simp only [hrB, Bool.and_eq_true, Bool.or_eq_true, decide_eq_true_eq]
          rintro ⟨-, ((z | z) | z) | z⟩
          · exact h00 z
          · exact hk z
          · exact h1 z
          · omega
        rw [if_neg e] at hQ; exact hQ
      · have h2 : ¬ hg h kp R s.1 ≤ rm := fun z => h2 ((nI_leI (by omega) (by omega)).mpr z)
        have e : hrB h kp R rm s = true := by
          simp only [hrB, Bool.and_eq_true, Bool.or_eq_true, decide_eq_true_eq]
          exact ⟨hfit, Or.inr (by omega)⟩
        rw [if_pos e] at hQ; exact hQ
    · have hk : 0 < s.1 ∧ kp (s.1 - 1) = true := by
        by_cases z : 0 < s.1 ∧ kp (s.1 - 1) = true
        · exact z
        · exact absurd (ht0.mpr z) ht1
      have e : hrB h kp R rm s = true := by
        simp only [hrB, Bool.and_eq_true, Bool.or_eq_true, decide_eq_true_eq]
        exact ⟨hfit, Or.inl (Or.inl (Or.inr hk))⟩
      rw [if_pos e] at hQ; exact hQ
  unfold wp_X0_hasRoomForNextRow
  rw [e12, hss, hpp, hh.1, e25]
  refine ⟨hvs, hvp, fun h1 => ⟨fun h2 => ?_, fun h2 => ?_⟩, fun h1 => ?_⟩
  · have h1 := (nI_leI (by omega) (by omega)).mp h1
    have h2 : s.1 = 0 := by
      rcases Nat.eq_zero_or_pos s.1 with z | z
      · exact z
      · exact absurd h2 (nI_nle z (by omega))
    unfold wp_X0_hasRoomForNextRow_L48
    exact tail 0 (Or.inl rfl) ⟨fun _ z => by omega, fun _ => rfl⟩ h1
  · have h1 := (nI_leI (by omega) (by omega)).mp h1
    have h2 : 0 < s.1 := by
      rcases Nat.eq_zero_or_pos s.1 with z | z
      · exact absurd (by rw [z]; exact Int32.le_refl _) h2
      · exact z
    have e1 : nI s.1 - 1 = nI (s.1 - 1) := p_nI h2
    have h11 : (nI (s.1 - 1)).toNatClampNeg = s.1 - 1 := ncl (by omega)
    have hkp := (hok.2.2 (s.1 - 1) (by omega)).2.1
    rw [e1, h11]
    refine ⟨vin (by omega) (by decide), fun h5 => ?_, fun h5 => ?_⟩
    · unfold wp_X0_hasRoomForNextRow_L48
      exact tail 0 (Or.inl rfl) ⟨fun _ z => by rw [hkp.mp h5] at z; exact absurd z.2 (by decide), fun _ => rfl⟩ h1
    · refine tail 1 (Or.inr rfl) ⟨fun z => absurd z (by decide), fun z => ?_⟩ h1
      have : ¬ kp (s.1 - 1) = false := fun y => h5 (hkp.mpr y)
      exact absurd ⟨h2, by simpa using this⟩ z
  · have h1 : ¬ h s.1 ≤ s.2.2.2.2.2.1 := fun z => h1 ((nI_leI (by omega) (by omega)).mpr z)
    have e : ¬ hrB h kp R rm s = true := by
      simp only [hrB, Bool.and_eq_true, decide_eq_true_eq]
      exact fun z => h1 z.1
    rw [if_neg e] at hQ; exact hQ
/-- putNextRow, and nextRow + 1 behind it -/
theorem sp_putNextRow {q o p R rm : Nat} {nt h : Nat → Nat} {kp : Nat → Bool} {s : FS} {M : Mem} {Q : Mem → Prop} (hR30 : R ≤ 30) (hp : p < 60) (hok : rows_ok M q o R rm nt h kp) (hs : s.1 < R) (hro : s.2.1 ≤ 100) (hfit : h s.1 ≤ s.2.2.2.2.2.1)
    (e12 : M 3 q 0 12 = nI s.1) (e25 : M 25 q 0 p = nI s.2.2.2.2.2.1) (e23 : M 23 q 0 p = nI s.2.1) (e22 : M 22 q 0 p = s.2.2.1)
    (hQ : Q (sM (sM (sM (sM M 22 q 0 p (if s.2.1 = 0 then nI s.1 else s.2.2.1)) 20 q 0 s.1 (nI p)) 23 q 0 p (nI (s.2.1 + 1))) 25 q 0 p (nI (s.2.2.2.2.2.1 - h s.1)))) : wp_X0_putNextRow q (nI p) M Q := by
  have hpp : (nI p).toNatClampNeg = p := ncl (by omega)
  have hvp := vin (n := p) (N := 60) hp (by decide)
  have hss : (nI s.1).toNatClampNeg = s.1 := ncl (by omega)
  have hvs := vin (n := s.1) (N := 30) (by omega) (by decide)
  have hh := (hok.2.2 s.1 hs).2.2.1
  have tail : ∀ M18 : Mem, M18 = sM M 22 q 0 p (if s.2.1 = 0 then nI s.1 else s.2.2.1) → wp_X0_putNextRow_L19 q (nI p) Q M18 := by
    intro M18 e18
    have a12 : M18 3 q 0 12 = nI s.1 := by simp [e18, rd, e12]
    unfold wp_X0_putNextRow_L19
    rw [a12, hss, hpp]
    refine ⟨hvs, fun M28 e28 => ⟨hvp, hvp, fun M38 e38 => ?_⟩⟩
    have a23 : M28 23 q 0 p = nI s.2.1 := by simp [e28, e18, rd, e23]
    have b12 : M38 3 q 0 12 = nI s.1 := by simp [e38, e28, rd, a12]
    have b19 : M38 19 q 0 s.1 = nI (h s.1) := by simp [e38, e28, e18, rd, hh]
    have b25 : M38 25 q 0 p = nI s.2.2.2.2.2.1 := by simp [e38, e28, e18, rd, e25]
    rw [b12, hss, b19, b25]
    refine ⟨hvp, hvs, hvp, fun M56 e56 => ?_⟩
    rw [pk_sub hfit] at e56
    rw [a23, s_nI] at e38
    rw [e56, e38, e28, e18]
    exact hQ
  unfold wp_X0_putNextRow
  rw [hpp, e23, e12]
  refine ⟨hvp, fun h0 => ⟨hvp, fun M18 e18 => tail M18 ?_⟩, fun h0 => tail M ?_⟩
  · have h00 : s.2.1 = 0 := nI_inj (by omega) (by omega) (h0.trans z_nI)
    rw [e18, if_pos h00]
  · have h00 : ¬ s.2.1 = 0 := fun z => h0 (by rw [z]; rfl)
    rw [if_neg h00]
    refine mem_ext fun f' o' i' j' => ?_
    rw [rd]
    by_cases z : f' = 22 ∧ o' = q ∧ i' = 0 ∧ j' = p
    · rw [if_pos z]
      obtain ⟨rfl, rfl, rfl, rfl⟩ := z
      exact e22
    · rw [if_neg z]
theorem pwF_le {nt : Nat → Nat} {nr p : Nat} : ∀ (k : Nat) (s : PW), s.1 ≤ nr → s.1 ≤ (pwF nt nr p k s).1 ∧ (pwF nt nr p k s).1 ≤ nr ∧ (pwF nt nr p k s).2.1 ≤ s.2.1 ∧ ∀ j, j < s.1 → (pwF nt nr p k s).2.2.2 j = s.2.2.2 j
  | 0, s, h => ⟨Nat.le_refl _, h, Nat.le_refl _, fun _ _ => rfl⟩
  | k + 1, s, h => by
    by_cases q : s.1 < nr ∧ nt s.1 ≤ s.2.1
    · have e : pwF nt nr p (k + 1) s = pwF nt nr p k (pwN nt p s) := by simp only [pwF, if_pos q]
      rw [e]
      obtain ⟨a, b, c, d⟩ := pwF_le (nt := nt) (nr := nr) (p := p) k (pwN nt p s) (show s.1 + 1 ≤ nr by omega)
      have a' : s.1 + 1 ≤ (pwF nt nr p k (pwN nt p s)).1 := a
      have c' : (pwF nt nr p k (pwN nt p s)).2.1 ≤ s.2.1 - nt s.1 := c
      refine ⟨by omega, b, by omega, fun j hj => ?_⟩
      have d' := d j (show j < s.1 + 1 by omega)
      rw [d']
      show upd s.2.2.2 s.1 _ j = _
      unfold upd
      rw [if_neg (by omega)]
    · have e : pwF nt nr p (k + 1) s = s := by simp only [pwF, if_neg q]
      rw [e]
      exact ⟨Nat.le_refl _, h, Nat.le_refl _, fun _ _ => rfl⟩
theorem flM_ok {M : Mem} {q o p R rm nr0 nn0 : Nat} {nt h : Nat → Nat} {kp : Nat → Bool} {s : FS} (hok : rows_ok M q o R rm nt h kp) : rows_ok (flM M q p s nr0 nn0) q o R rm nt h kp :=
  rows_ok_k hok (by simp [flM, pwM]) (by simp [flM, pwM]) (fun r => by funext j; simp [flM, pwM]) (by funext j; simp [flM, pwM])
theorem fl_eq {M : Mem} {q p nr0 nn0 nr ro ro' nn lf lf' no : Nat} {fr fr' x : Int32} {rp np : Nat → Int32} (h0 : nr0 ≤ nr) : sM (sM (sM (sM (sM (flM M q p (nr, ro, fr, rp, (nn, lf, no, np)) nr0 nn0) 22 q 0 p fr') 20 q 0 nr x) 23 q 0 p (nI ro')) 25 q 0 p (nI lf')) 3 q 0 12 (nI (nr + 1)) = flM M q p (nr + 1, ro', fr', upd rp nr x, (nn, lf', no, np)) nr0 nn0 := by
  refine mem_ext fun f' o' i' j' => ?_
  simp only [rd, flM, pwM, upd]
  grind (splits := 40)
theorem st_eq {M : Mem} {q p nr nn rm : Nat} {rp np : Nat → Int32} (e12 : M 3 q 0 12 = nI nr) (e13 : M 3 q 0 13 = nI nn) : sM (sM (sM (sM M 22 q 0 p (-1)) 23 q 0 p 0) 24 q 0 p 0) 25 q 0 p (nI rm) = flM M q p (nr, 0, -1, rp, (nn, rm, 0, np)) nr nn := by
  refine mem_ext fun f' o' i' j' => ?_
  simp only [rd, flM, pwM, nI_0]
  grind (splits := 40)
theorem fl_loop {q o p R rm nr0 nn0 : Nat} {nt h : Nat → Nat} {kp : Nat → Bool} {M : Mem} {Q : Mem → Prop} (hR30 : R ≤ 30) (hp : p < 60) (hrm : rm ≤ 100) (hok : rows_ok M q o R rm nt h kp) :
    ∀ (k : Nat) (s : FS) (M' : Mem), s.1 + k = R → nr0 ≤ s.1 → nn0 ≤ s.2.2.2.2.1 → s.2.2.2.2.1 ≤ s.1 → s.2.2.2.2.2.1 ≤ 100 → s.2.1 ≤ s.1 → M' = flM M q p s nr0 nn0 →
      (∀ M2, M2 = flM M q p (flF nt h kp R rm p k s) nr0 nn0 → wp_X0_fillPage_L102 q o (nI p) Q M2) → ∃ n, wp_X0_fillPage_L37 q o (nI p) (fun M => wp_X0_fillPage_L102 q o (nI p) Q M) Q n M' := by
  intro k
  induction k with
  | zero =>
    intro s M' hk h0 h1 h2 hl hro hM' hX
    have hok' : rows_ok M' q o R rm nt h kp := by rw [hM']; exact flM_ok hok
    have e12 : M' 3 q 0 12 = nI s.1 := by rw [hM']; simp [flM]
    refine ⟨1, ?_⟩
    unfold wp_X0_fillPage_L37
    rw [hok'.1, e12]
    exact ⟨fun _ => hX M' hM', fun z => absurd (nI_le (a := R) (b := s.1) (by omega) (by omega)) z⟩
  | succ k ih =>
    intro s M' hk h0 h1 h2 hl hro hM' hX
    have hok' : rows_ok M' q o R rm nt h kp := by rw [hM']; exact flM_ok hok
    have hs : s.1 < R := by omega
    have e12 : M' 3 q 0 12 = nI s.1 := by rw [hM']; simp [flM]
    have e13 : M' 3 q 0 13 = nI s.2.2.2.2.1 := by rw [hM']; simp [flM, pwM]
    have e23 : M' 23 q 0 p = nI s.2.1 := by rw [hM']; simp [flM]
    have e22 : M' 22 q 0 p = s.2.2.1 := by rw [hM']; simp [flM]
    have e25 : M' 25 q 0 p = nI s.2.2.2.2.2.1 := by rw [hM']; simp [flM, pwM]
    have e24 : M' 24 q 0 p = nI s.2.2.2.2.2.2.1 := by rw [hM']; simp [flM, pwM]
    by_cases hb : hrB h kp R rm s = true
    · have eF : flF nt h kp R rm p (k + 1) s = flF nt h kp R rm p k (nxF nt h p s) := by simp only [flF, if_pos (And.intro hs hb)]
      rw [eF] at hX
      have hfit : h s.1 ≤ s.2.2.2.2.2.1 := by
        simp only [hrB, Bool.and_eq_true, decide_eq_true_eq] at hb
        exact hb.1
      have nx1 : (nxF nt h p s).1 = s.1 + 1 := by unfold nxF; split <;> rfl
      have nx2 : (nxF nt h p s).2.1 = s.2.1 + 1 := by unfold nxF; split <;> rfl
      have nxw : s.2.2.2.2.1 ≤ (nxF nt h p s).2.2.2.2.1 ∧ (nxF nt h p s).2.2.2.2.1 ≤ s.1 + 1 ∧ (nxF nt h p s).2.2.2.2.2.1 ≤ 100 := by
        unfold nxF
        split
        · exact ⟨Nat.le_refl _, by show s.2.2.2.2.1 ≤ s.1 + 1; omega, by show s.2.2.2.2.2.1 - h s.1 ≤ 100; omega⟩
        · have hw := pwF_le (nt := nt) (nr := s.1 + 1) (p := p) (s.1 + 1 - s.2.2.2.2.1) (ptF h p s).2.2.2.2 (show s.2.2.2.2.1 ≤ s.1 + 1 by omega)
          have c : (pwF nt (s.1 + 1) p (s.1 + 1 - s.2.2.2.2.1) (ptF h p s).2.2.2.2).2.1 ≤ s.2.2.2.2.2.1 - h s.1 := hw.2.2.1
          exact ⟨hw.1, hw.2.1, by show (pwF nt (s.1 + 1) p (s.1 + 1 - s.2.2.2.2.1) (ptF h p s).2.2.2.2).2.1 ≤ 100; omega⟩
      obtain ⟨n, hn⟩ := ih (nxF nt h p s) (flM M q p (nxF nt h p s) nr0 nn0) (by rw [nx1]; omega) (by rw [nx1]; omega) (by omega) (by rw [nx1]; exact nxw.2.1) nxw.2.2 (by rw [nx1, nx2]; omega) rfl hX
      have put : ∀ t : Int32, ((t = 1 ∧ s.2.2.2.2.1 < s.1) ∨ (t = 0 ∧ ¬ s.2.2.2.2.1 < s.1)) → wp_X0_fillPage_L73 q o (nI p) (wp_X0_fillPage_L37 q o (nI p) (fun M => wp_X0_fillPage_L102 q o (nI p) Q M) Q n) (fun M => wp_X0_fillPage_L102 q o (nI p) Q M) Q t M' := by
        intro t ht
        unfold wp_X0_fillPage_L73
        refine sp_putNextRow hR30 hp hok' hs (by omega) hfit e12 e25 e23 e22 (fun M86 e86 => ?_)
        have a12 : M86 3 q 0 12 = nI (s.1 + 1) := by simp [e86, rd, e12, s_nI]
        have eM : M86 = flM M q p (ptF h p s) nr0 nn0 := by
          have c12 : (sM (sM (sM (sM M' 22 q 0 p (if s.2.1 = 0 then nI s.1 else s.2.2.1)) 20 q 0 s.1 (nI p)) 23 q 0 p (nI (s.2.1 + 1))) 25 q 0 p (nI (s.2.2.2.2.2.1 - h s.1))) 3 q 0 12 = nI s.1 := by
            simp [rd, e12]
          rw [c12, s_nI] at e86
          rw [e86, hM']
          exact fl_eq (M := M) (q := q) (p := p) (nr0 := nr0) (nn0 := nn0) (nr := s.1) (ro := s.2.1) (ro' := s.2.1 + 1) (nn := s.2.2.2.2.1) (lf := s.2.2.2.2.2.1) (lf' := s.2.2.2.2.2.1 - h s.1) (no := s.2.2.2.2.2.2.1) (fr := s.2.2.1) (fr' := if s.2.1 = 0 then nI s.1 else s.2.2.1) (x := nI p) (rp := s.2.2.2.1) (np := s.2.2.2.2.2.2.2) h0
        rcases ht with ⟨rfl, hw⟩ | ⟨rfl, hw⟩
        · refine ⟨fun z => absurd z (by decide), fun _ => ?_⟩
          unfold wp_X0_fillPage_L99
          have e : nxF nt h p s = ptF h p s := by unfold nxF; rw [if_pos hw]
          rw [eM, ← e]; exact hn
        · refine ⟨fun _ => ?_, fun z => absurd rfl z⟩
          have hw1 : s.2.2.2.2.1 = s.1 := by omega
          have hok2 : rows_ok M86 q o R rm nt h kp := by rw [eM]; exact flM_ok hok
          refine sp_putWaitingNotes (nr := s.1 + 1) (nt := nt) (s := (ptF h p s).2.2.2.2) hp (by omega) a12 (fun r hr => ?_) (by show s.2.2.2.2.1 ≤ s.1 + 1; omega) (by show s.2.2.2.2.2.1 - h s.1 ≤ 100; omega) (by rw [eM]; simp [flM, pwM]) (by rw [eM]; simp [flM, pwM]) (by rw [eM]; simp [flM, pwM]) ?_
          · exact (hok2.2.2 r (by omega)).1
          · unfold wp_X0_fillPage_L99
            have e : nxF nt h p s = ((ptF h p s).1, (ptF h p s).2.1, (ptF h p s).2.2.1, (ptF h p s).2.2.2.1, pwF nt (s.1 + 1) p (s.1 + 1 - s.2.2.2.2.1) (ptF h p s).2.2.2.2) := by unfold nxF; rw [if_neg hw]
            have eM2 : pwM M86 q p (pwF nt (s.1 + 1) p (s.1 + 1 - (ptF h p s).2.2.2.2.1) (ptF h p s).2.2.2.2) (ptF h p s).2.2.2.2.1 = flM M q p (nxF nt h p s) nr0 nn0 := by
              have hw := pwF_le (nt := nt) (nr := s.1 + 1) (p := p) (s.1 + 1 - s.2.2.2.2.1) (ptF h p s).2.2.2.2 (show s.2.2.2.2.1 ≤ s.1 + 1 by omega)
              have c1 : (ptF h p s).2.2.2.2.1 = s.2.2.2.2.1 := rfl
              have c2 : (ptF h p s).2.2.2.2.2.2.2 = s.2.2.2.2.2.2.2 := rfl
              rw [c1]
              have w1 := hw.1
              have w4 := hw.2.2.2
              rw [c1] at w1 w4
              rw [c2] at w4
              rw [eM, e]
              generalize pwF nt (s.1 + 1) p (s.1 + 1 - s.2.2.2.2.1) (ptF h p s).2.2.2.2 = W at w1 w4 ⊢
              refine mem_ext fun f' o' i' j' => ?_
              simp only [flM, pwM, ptF]
              grind (splits := 40)
            rw [eM2]; exact hn
      refine ⟨n + 1, ?_⟩
      unfold wp_X0_fillPage_L37
      rw [hok'.1, e12]
      refine ⟨fun z => absurd z (nI_ge (a := s.1) (b := R) (by omega) (by omega)), fun _ => sp_hasRoom hR30 hp hrm hok' hs hl (by omega) e12 e25 e23 ?_⟩
      rw [if_pos hb, e12, e13]
      refine ⟨fun z => absurd z (by decide), fun _ => ⟨fun z => ?_, fun z => ?_⟩⟩
      · exact put 0 (Or.inr ⟨rfl, fun y => absurd z (nI_ge (a := s.2.2.2.2.1) (b := s.1) y (by omega))⟩)
      · refine put 1 (Or.inl ⟨rfl, ?_⟩)
        rcases Nat.lt_or_ge s.2.2.2.2.1 s.1 with y | y
        · exact y
        · exact absurd (nI_le (a := s.1) (b := s.2.2.2.2.1) y (by omega)) z
    · have eF : flF nt h kp R rm p (k + 1) s = s := by simp only [flF, if_neg (fun z : s.1 < R ∧ hrB h kp R rm s = true => hb z.2)]
      rw [eF] at hX
      refine ⟨1, ?_⟩
      unfold wp_X0_fillPage_L37
      rw [hok'.1, e12]
      refine ⟨fun z => absurd z (nI_ge (a := s.1) (b := R) (by omega) (by omega)), fun _ => sp_hasRoom hR30 hp hrm hok' hs hl (by omega) e12 e25 e23 ?_⟩
      rw [if_neg hb]
      exact ⟨fun _ => hX M' hM', fun z => absurd rfl z⟩
/-- a page from its beginning -/
def st0 (nr rm : Nat) (rp : Nat → Int32) (nn : Nat) (np : Nat → Int32) (nt : Nat → Nat) (p : Nat) : FS := (nr, 0, -1, rp, pwF nt nr p (nr - nn) (nn, rm, 0, np))
def pgF (nt h : Nat → Nat) (kp : Nat → Bool) (R rm p nr nn : Nat) (rp np : Nat → Int32) : FS := flF nt h kp R rm p (R - nr) (st0 nr rm rp nn np nt p)
theorem sp_fillPage {q o p R rm nr nn : Nat} {nt h : Nat → Nat} {kp : Nat → Bool} {rp np : Nat → Int32} {M : Mem} {Q : Mem → Prop} (hR30 : R ≤ 30) (hp : p < 60) (hrm : rm ≤ 100) (hok : rows_ok M q o R rm nt h kp) (hnr : nr ≤ R) (hnn : nn ≤ nr)
    (e12 : M 3 q 0 12 = nI nr) (e13 : M 3 q 0 13 = nI nn) (hQ : Q (sM (flM M q p (pgF nt h kp R rm p nr nn rp np) nr nn) 26 q 0 p (nI (pgF nt h kp R rm p nr nn rp np).1 - 1))) : wp_X0_fillPage q o (nI p) M Q := by
  have hpp : (nI p).toNatClampNeg = p := ncl (by omega)
  have hvp := vin (n := p) (N := 60) hp (by decide)
  unfold wp_X0_fillPage
  rw [hpp]
  refine ⟨hvp, fun M6 e6 => ⟨hvp, fun M13 e13' => ⟨hvp, fun M20 e20 => ⟨hvp, fun M30 e30 => ?_⟩⟩⟩⟩
  have r1 : M20 3 q 0 1 = nI rm := by simp [e20, e13', e6, rd, hok.2.1]
  rw [r1] at e30
  have eM : M30 = flM M q p (nr, 0, -1, rp, (nn, rm, 0, np)) nr nn := by
    rw [e30, e20, e13', e6]
    exact st_eq e12 e13
  have hok2 : rows_ok M30 q o R rm nt h kp := by rw [eM]; exact flM_ok hok
  have hw := pwF_le (nt := nt) (nr := nr) (p := p) (nr - nn) (nn, rm, 0, np) hnn
  refine sp_putWaitingNotes (nr := nr) (nt := nt) (s := (nn, rm, 0, np)) hp (by omega) (by rw [eM]; simp [flM]) (fun r hr => (hok2.2.2 r (by omega)).1) hnn hrm (by rw [eM]; simp [flM, pwM]) (by rw [eM]; simp [flM, pwM]) (by rw [eM]; simp [flM, pwM]) ?_
  have eM2 : pwM M30 q p (pwF nt nr p (nr - nn) (nn, rm, 0, np)) nn = flM M q p (st0 nr rm rp nn np nt p) nr nn := by
    rw [eM]
    unfold st0
    have w1 : nn ≤ (pwF nt nr p (nr - nn) (nn, rm, 0, np)).1 := hw.1
    generalize pwF nt nr p (nr - nn) (nn, rm, 0, np) = W at w1 ⊢
    refine mem_ext fun f' o' i' j' => ?_
    simp only [flM, pwM]
    grind (splits := 40)
  show ∃ n, _
  rw [eM2]
  refine fl_loop (nt := nt) (h := h) (kp := kp) (rm := rm) hR30 hp hrm hok (R - nr) (st0 nr rm rp nn np nt p) _ (by show nr + (R - nr) = R; omega) (Nat.le_refl _) hw.1 hw.2.1 (Nat.le_trans hw.2.2.1 hrm) (Nat.zero_le _) rfl (fun M2 e2 => ?_)
  unfold wp_X0_fillPage_L102
  rw [hpp]
  refine ⟨hvp, fun M113 e113 => ?_⟩
  have e12' : M2 3 q 0 12 = nI (pgF nt h kp R rm p nr nn rp np).1 := by rw [e2]; simp [flM, pgF]
  rw [e113, e12', e2]
  exact hQ
