/-! What the sheet's methods do, in numbers. -/
theorem rd (M : Mem) (f o i j : Nat) (x : Int32) (f' o' i' j' : Nat) : sM M f o i j x f' o' i' j' = if f' = f ∧ o' = o ∧ i' = i ∧ j' = j then x else M f' o' i' j' := by
  unfold sM
  by_cases h : f' = f ∧ o' = o ∧ i' = i
  · obtain ⟨rfl, rfl, rfl⟩ := h
    simp [upd]
  · have h2 : ¬ (f' = f ∧ o' = o ∧ i' = i ∧ j' = j) := fun q => h ⟨q.1, q.2.1, q.2.2.1⟩
    simp [h, h2]
def imax (a b : Int32) : Int32 := if a < b then b else a
theorem ncl {n : Nat} (h : n < 2 ^ 31) : (nI n).toNatClampNeg = n := nI_clamp h
theorem vin {n N : Nat} (h : n < N) (hN : N < 2 ^ 31) : vp_in (nI n) N := vp_in_nI h hN
theorem z_nI : (0 : Int32) = nI 0 := rfl
theorem o_nI : (1 : Int32) = nI 1 := rfl
theorem s_nI (n : Nat) : nI n + 1 = nI (n + 1) := nI_1 n
theorem p_nI {n : Nat} (h : 0 < n) : nI n - 1 = nI (n - 1) := pk_sub (a := n) (b := 1) h
theorem nI_inj {a b : Nat} (ha : a < 2 ^ 31) (hb : b < 2 ^ 31) (h : nI a = nI b) : a = b := (nI_eq ha hb).mp h
theorem mem_ext {M M' : Mem} (h : ∀ f o i j, M f o i j = M' f o i j) : M = M' := funext fun f => funext fun o => funext fun i => funext fun j => h f o i j
/-- a loop that counts from 0 to N -/
theorem up_loop {σ : Type} {W : Nat → Int32 → σ → Prop} (I : Nat → σ → Prop) (N : Nat) (s : σ) (h0 : I 0 s) (hx : ∀ n s, I N s → W (n + 1) (nI N) s) (hs : ∀ n i s, i < N → I i s → (∀ s', I (i + 1) s' → W n (nI (i + 1)) s') → W (n + 1) (nI i) s) : ∃ n, W n 0 s :=
  pk_loop (fun n i s => W n (nI i) s) I N 0 s (Nat.zero_le _) h0 hx hs
/-- the same with a number that is carried along -/
theorem up_loop2 {σ : Type} {W : Nat → Int32 → Int32 → σ → Prop} (I : Nat → Int32 → σ → Prop) (N : Nat) (x : Int32) (s : σ) (h0 : I 0 x s) (hx : ∀ n x s, I N x s → W (n + 1) x (nI N) s) (hs : ∀ n i x s, i < N → I i x s → (∀ x' s', I (i + 1) x' s' → W n x' (nI (i + 1)) s') → W (n + 1) x (nI i) s) : ∃ n, W n x 0 s :=
  pk_loop (fun n i (q : Int32 × σ) => W n q.1 (nI i) q.2) (fun i q => I i q.1 q.2) N 0 (x, s) (Nat.zero_le _) h0 (fun n q h => hx n q.1 q.2 h) (fun n i q hi h k => hs n i q.1 q.2 hi h (fun x' s' h' => k (x', s') h'))
theorem up_loop3 {σ : Type} {W : Nat → Int32 → Int32 → Int32 → σ → Prop} (I : Nat → Int32 → Int32 → σ → Prop) (N : Nat) (x y : Int32) (s : σ) (h0 : I 0 x y s) (hx : ∀ n x y s, I N x y s → W (n + 1) x y (nI N) s) (hs : ∀ n i x y s, i < N → I i x y s → (∀ x' y' s', I (i + 1) x' y' s' → W n x' y' (nI (i + 1)) s') → W (n + 1) x y (nI i) s) : ∃ n, W n x y 0 s :=
  pk_loop (fun n i (q : Int32 × Int32 × σ) => W n q.1 q.2.1 (nI i) q.2.2) (fun i q => I i q.1 q.2.1 q.2.2) N 0 (x, y, s) (Nat.zero_le _) h0 (fun n q h => hx n q.1 q.2.1 q.2.2 h) (fun n i q hi h k => hs n i q.1 q.2.1 q.2.2 hi h (fun x' y' s' h' => k (x', y', s') h'))
/-- clear(): a row's numbers are 0 -/
def clr (M : Mem) (o i : Nat) : Mem := fun f' o' i' j' => if o' = o ∧ i' = i ∧ (((f' = 12 ∨ f' = 13 ∨ f' = 14 ∨ f' = 15) ∧ j' < 6) ∨ (f' = 4 ∧ (j' = 4 ∨ j' = 5))) then 0 else M f' o' i' j'
theorem sp_clear {o i : Nat} {M : Mem} {Q : Mem → Prop} (hQ : Q (clr M o i)) : wp_X1_clear o i M Q := by
  unfold wp_X1_clear
  refine up_loop (W := fun n v M => wp_X1_clear_L2 o i _ Q n v M) (fun k M' => M' = fun f' o' i' j' => if o' = o ∧ i' = i ∧ ((f' = 12 ∨ f' = 13 ∨ f' = 14 ∨ f' = 15) ∧ j' < k) then 0 else M f' o' i' j') 6 M ?_ ?_ ?_
  · refine mem_ext fun f' o' i' j' => ?_
    simp
  · intro n M' hM'
    unfold wp_X1_clear_L2
    refine ⟨fun _ => ?_, fun h => absurd (Int32.le_refl _) h⟩
    intro M44 e44 M49 e49
    have e : M49 = clr M o i := by
      refine mem_ext fun f' o' i' j' => ?_
      simp only [e49, e44, hM', rd, clr]
      grind
    rw [e]; exact hQ
  · intro n k M' hk hM' ih
    unfold wp_X1_clear_L2
    refine ⟨fun h => absurd h (nI_ge (a := k) (b := 6) hk (by decide)), fun _ => ?_⟩
    have hv := vin (n := k) (N := 6) hk (by decide)
    refine ⟨hv, fun M14 e14 => ⟨hv, fun M21 e21 => ⟨hv, fun M28 e28 => ⟨hv, fun M35 e35 => ?_⟩⟩⟩⟩
    rw [s_nI]
    refine ih _ (mem_ext fun f' o' i' j' => ?_)
    have hc : (nI k).toNatClampNeg = k := ncl (by omega)
    simp only [e35, e28, e21, e14, hM', rd, hc]
    grind
/-- copyFrom of a row -/
def cpr (M : Mem) (o i o1 i1 : Nat) : Mem := fun f' o' i' j' => if o' = o ∧ i' = i ∧ (((f' = 12 ∨ f' = 13 ∨ f' = 14 ∨ f' = 15) ∧ j' < 6) ∨ (f' = 4 ∧ (j' = 4 ∨ j' = 5))) then M f' o1 i1 j' else M f' o' i' j'
theorem sp_cpr {o i o1 i1 : Nat} {M : Mem} {Q : Mem → Prop} (hne : o ≠ o1) (hz : ∀ j, j < 6 → zb (M 15 o1 i1 j)) (hz2 : zb (M 4 o1 i1 5)) (hQ : Q (cpr M o i o1 i1)) : wp_X1_copyFrom o i o1 i1 M Q := by
  unfold wp_X1_copyFrom
  refine up_loop (W := fun n v M => wp_X1_copyFrom_L2 o i o1 i1 _ Q n v M) (fun k M' => M' = fun f' o' i' j' => if o' = o ∧ i' = i ∧ ((f' = 12 ∨ f' = 13 ∨ f' = 14 ∨ f' = 15) ∧ j' < k) then M f' o1 i1 j' else M f' o' i' j') 6 M ?_ ?_ ?_
  · refine mem_ext fun f' o' i' j' => ?_
    simp
  · intro n M' hM'
    unfold wp_X1_copyFrom_L2
    refine ⟨fun _ => ?_, fun h => absurd (Int32.le_refl _) h⟩
    unfold wp_X1_copyFrom_L62
    intro M67 e67
    have hne2 : ¬ o1 = o := fun q => hne q.symm
    refine ⟨by simp only [e67, hM', rd]; simp [hne2, hz2], fun M75 e75 => ?_⟩
    have e : M75 = cpr M o i o1 i1 := by
      refine mem_ext fun f' o' i' j' => ?_
      simp only [e75, e67, hM', rd, cpr]
      grind
    rw [e]; exact hQ
  · intro n k M' hk hM' ih
    unfold wp_X1_copyFrom_L2
    refine ⟨fun h => absurd h (nI_ge (a := k) (b := 6) hk (by decide)), fun _ => ?_⟩
    have hv := vin (n := k) (N := 6) hk (by decide)
    have hc : (nI k).toNatClampNeg = k := ncl (by omega)
    have hne2 : ¬ o1 = o := fun q => hne q.symm
    refine ⟨hv, hv, fun M14 e14 => ⟨hv, hv, fun M21 e21 => ⟨hv, hv, fun M28 e28 => ⟨hv, hv, ?_, fun M35 e35 => ?_⟩⟩⟩⟩
    · simp only [e28, e21, e14, hM', rd, hc]; simp [hne2, hz k hk]
    · rw [s_nI]
      refine ih _ (mem_ext fun f' o' i' j' => ?_)
      simp only [e35, e28, e21, e14, hM', rd, hc]
      grind
theorem sp_addColumn {o C : Nat} {k t : Int32} {M : Mem} {Q : Int32 → Mem → Prop} (hC : M 1 o 0 0 = nI C) (h6 : C < 6) (hQ : Q (nI C) (sM (sM (sM M 5 o 0 C k) 6 o 0 C t) 1 o 0 0 (nI (C + 1)))) : wp_X3_addColumn o k t M Q := by
  unfold wp_X3_addColumn
  have hc : (nI C).toNatClampNeg = C := ncl (by omega)
  have hv := vin (n := C) (N := 6) h6 (by decide)
  simp only [hC, hc]
  refine ⟨hv, fun M11 e11 => ⟨hv, fun M18 e18 M26 e26 => ?_⟩⟩
  have e1 : M18 1 o 0 0 = nI C := by simp only [e18, e11, rd]; simp [hC]
  rw [e26, e1, s_nI, e18, e11]
  exact hQ
theorem sp_addRow {o R : Nat} {M : Mem} {Q : Int32 → Mem → Prop} (hR : M 1 o 0 5 = nI R) (h30 : R < 30) (hQ : Q (nI R) (sM (clr M o R) 1 o 0 5 (nI (R + 1)))) : wp_X3_addRow o M Q := by
  unfold wp_X3_addRow
  have hc : (nI R).toNatClampNeg = R := ncl (by omega)
  have hv := vin (n := R) (N := 30) h30 (by decide)
  simp only [hR, hc]
  refine ⟨hv, sp_clear (fun M19 e19 => ?_)⟩
  have e1 : clr M o R 1 o 0 5 = nI R := by simp [clr, hR]
  have e2 : M19 1 o 0 5 = nI (R + 1) := by rw [e19, rd, e1, s_nI]; simp
  rw [e2, p_nI (by omega), e19, e1, s_nI]
  exact hQ
/-- copyFrom of a sheet -/
def cps (M : Mem) (C R o o1 : Nat) : Mem := fun f' o' i' j' => if o' = o ∧ ((f' = 1 ∧ i' = 0 ∧ (j' = 0 ∨ j' = 5)) ∨ ((f' = 5 ∨ f' = 6 ∨ f' = 7 ∨ f' = 8) ∧ i' = 0 ∧ j' < C) ∨ ((f' = 12 ∨ f' = 13 ∨ f' = 14 ∨ f' = 15) ∧ i' < R ∧ j' < 6) ∨ (f' = 4 ∧ i' < R ∧ (j' = 4 ∨ j' = 5))) then M f' o1 i' j' else M f' o' i' j'
theorem sp_cps {o o1 C R : Nat} {M : Mem} {Q : Mem → Prop} (hne : o ≠ o1) (hC : M 1 o1 0 0 = nI C) (hC6 : C ≤ 6) (hR : M 1 o1 0 5 = nI R) (hR30 : R ≤ 30) (hz : ∀ r, r < R → ∀ j, j < 6 → zb (M 15 o1 r j)) (hz2 : ∀ r, r < R → zb (M 4 o1 r 5)) (hQ : Q (cps M C R o o1)) : wp_X3_copyFrom o o1 M Q := by
  have hne2 : ¬ o1 = o := fun q => hne q.symm
  unfold wp_X3_copyFrom
  intro M5 e5
  refine up_loop (W := fun n v M => wp_X3_copyFrom_L10 o o1 _ Q n v M) (fun k M' => M' = fun f' o' i' j' => if o' = o ∧ ((f' = 1 ∧ i' = 0 ∧ j' = 0) ∨ ((f' = 5 ∨ f' = 6 ∨ f' = 7 ∨ f' = 8) ∧ i' = 0 ∧ j' < k)) then M f' o1 i' j' else M f' o' i' j') C M5 ?_ ?_ ?_
  · refine mem_ext fun f' o' i' j' => ?_
    simp only [e5, rd]
    grind
  · intro n M' hM'
    have hcc : M' 1 o 0 0 = nI C := by rw [hM']; simp [hC]
    unfold wp_X3_copyFrom_L10
    refine ⟨fun _ => ?_, fun h => absurd (by rw [hcc]; exact Int32.le_refl _) h⟩
    unfold wp_X3_copyFrom_L72
    intro M77 e77
    refine up_loop (W := fun n v M => wp_X3_copyFrom_L82 o o1 _ Q n v M) (fun k M' => M' = fun f' o' i' j' => if o' = o ∧ ((f' = 1 ∧ i' = 0 ∧ (j' = 0 ∨ j' = 5)) ∨ ((f' = 5 ∨ f' = 6 ∨ f' = 7 ∨ f' = 8) ∧ i' = 0 ∧ j' < C) ∨ ((f' = 12 ∨ f' = 13 ∨ f' = 14 ∨ f' = 15) ∧ i' < k ∧ j' < 6) ∨ (f' = 4 ∧ i' < k ∧ (j' = 4 ∨ j' = 5))) then M f' o1 i' j' else M f' o' i' j') R M77 ?_ ?_ ?_
    · refine mem_ext fun f' o' i' j' => ?_
      simp only [e77, rd, hM']
      grind
    · intro n M2 hM2
      have hrr : M2 1 o 0 5 = nI R := by rw [hM2]; simp [hR]
      unfold wp_X3_copyFrom_L82
      refine ⟨fun _ => ?_, fun h => absurd (by rw [hrr]; exact Int32.le_refl _) h⟩
      have e : M2 = cps M C R o o1 := hM2
      rw [e]; exact hQ
    · intro n k M2 hk hM2 ih
      have hrr : M2 1 o 0 5 = nI R := by rw [hM2]; simp [hR]
      have hc : (nI k).toNatClampNeg = k := ncl (by omega)
      have hv := vin (n := k) (N := 30) (by omega) (by decide)
      unfold wp_X3_copyFrom_L82
      refine ⟨fun h => absurd (by rw [hrr] at h; exact h) (nI_ge (a := k) (b := R) hk (by omega)), fun _ => ⟨hv, hv, ?_⟩⟩
      rw [hc]
      refine sp_cpr hne (fun j hj => ?_) ?_ ?_
      · rw [hM2]; simp [hne2]; exact hz k hk j hj
      · rw [hM2]; simp [hne2]; exact hz2 k hk
      · rw [s_nI]
        refine ih _ (mem_ext fun f' o' i' j' => ?_)
        simp only [cpr, hM2]
        grind
  · intro n k M' hk hM' ih
    have hcc : M' 1 o 0 0 = nI C := by rw [hM']; simp [hC]
    have hc : (nI k).toNatClampNeg = k := ncl (by omega)
    have hv := vin (n := k) (N := 6) (by omega) (by decide)
    unfold wp_X3_copyFrom_L10
    refine ⟨fun h => absurd (by rw [hcc] at h; exact h) (nI_ge (a := k) (b := C) hk (by omega)), fun _ => ?_⟩
    refine ⟨hv, hv, fun M1 e1 => ⟨hv, hv, fun M2 e2 => ⟨hv, hv, fun M3 e3 => ⟨hv, hv, fun M4 e4 => ?_⟩⟩⟩⟩
    rw [s_nI]
    refine ih _ (mem_ext fun f' o' i' j' => ?_)
    simp only [e4, e3, e2, e1, hM', rd, hc]
    grind
/-- sumUpTo -/
def suv (M : Mem) (o : Nat) (r c : Int32) : Int32 := if M 5 o 0 c.toNatClampNeg = 1 then -1 else if 0 ≤ r then M 16 o r.toNatClampNeg c.toNatClampNeg else 0
theorem sp_sumUpTo {o : Nat} {r c : Int32} {M : Mem} {Q : Int32 → Mem → Prop} (hc : vp_in c 6) (hr : 0 ≤ r → vp_in r 30) (hQ : Q (suv M o r c) M) : wp_X3_sumUpTo o r c M Q := by
  unfold wp_X3_sumUpTo
  unfold suv at hQ
  refine ⟨hc, fun h => ?_, fun h => ⟨fun h2 => ⟨hr h2, hc, ?_⟩, fun h2 => ?_⟩⟩
  · rw [if_pos h] at hQ; exact hQ
  · rw [if_neg h, if_pos h2] at hQ; exact hQ
  · rw [if_neg h, if_neg h2] at hQ; exact hQ
/-- linesOfNotes -/
def sumN (f : Nat → Int32) : Nat → Int32
  | 0 => 0
  | n + 1 => sumN f n + f n
theorem sp_linesOfNotes {o R : Nat} {M : Mem} {Q : Int32 → Mem → Prop} (hR : M 1 o 0 5 = nI R) (hR30 : R ≤ 30) (hQ : Q (sumN (fun r => M 4 o r 4) R) M) : wp_X3_linesOfNotes o M Q := by
  unfold wp_X3_linesOfNotes
  refine up_loop2 (W := fun n x v M => wp_X3_linesOfNotes_L4 o _ Q n x v M) (fun k x M' => M' = M ∧ x = sumN (fun r => M 4 o r 4) k) R 0 M ⟨rfl, rfl⟩ ?_ ?_
  · rintro n x M' ⟨rfl, rfl⟩
    unfold wp_X3_linesOfNotes_L4
    exact ⟨fun _ => hQ, fun h => absurd (by rw [hR]; exact Int32.le_refl _) h⟩
  · rintro n k x M' hk ⟨rfl, rfl⟩ ih
    have hc : (nI k).toNatClampNeg = k := ncl (by omega)
    unfold wp_X3_linesOfNotes_L4
    refine ⟨fun h => absurd (by rw [hR] at h; exact h) (nI_ge (a := k) (b := R) hk (by omega)), fun _ => ⟨vin (by omega) (by decide), ?_⟩⟩
    rw [s_nI, hc]
    exact ih _ _ ⟨rfl, rfl⟩
/-- isSpanning -/
def spv (M : Mem) (o C r c : Nat) : Int32 := if c + 1 < C ∧ ¬ M 17 o r (c + 1) = 0 then 1 else 0
theorem sp_isSpanning {o C r c : Nat} {M : Mem} {Q : Int32 → Mem → Prop} (hC : M 1 o 0 0 = nI C) (hC6 : C ≤ 6) (hr : r < 30) (hc6 : c < 6) (hQ : Q (spv M o C r c) M) : wp_X3_isSpanning o (nI r) (nI c) M Q := by
  unfold wp_X3_isSpanning
  unfold spv at hQ
  have e1 : (nI r).toNatClampNeg = r := ncl (by omega)
  have e2 : (nI (c + 1)).toNatClampNeg = c + 1 := ncl (by omega)
  rw [s_nI, hC, nI_leI (by omega) (by omega), e1, e2]
  by_cases h : c + 1 < C
  · refine ⟨fun h2 => absurd h (by omega), fun _ => ⟨vin hr (by decide), vin (by omega) (by decide), fun h3 => ?_, fun h3 => ?_⟩⟩
    · rw [if_neg (fun q => q.2 h3)] at hQ; exact hQ
    · rw [if_pos ⟨h, h3⟩] at hQ; exact hQ
  · refine ⟨fun _ => ?_, fun h2 => absurd (show C ≤ c + 1 by omega) h2⟩
    rw [if_neg (fun q => h q.1)] at hQ; exact hQ
