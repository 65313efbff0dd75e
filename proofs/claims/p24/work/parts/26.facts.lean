/-! The facts that are asked for, as functions of the numbers. -/
def chq (M : Mem) : Nat := if M 2 0 0 2 = 0 then 0 else 1
theorem chq_lt (M : Mem) : chq M < 2 := by unfold chq; split <;> decide
theorem sp_chosen {t : Nat} {M : Mem} {Q : Nat → Mem → Prop} (hQ : Q (2 * t + (if M 2 t 0 2 = 0 then 0 else 1)) M) : wp_X2_chosen t M Q := by
  unfold wp_X2_chosen
  refine ⟨fun h => ?_, fun h => ?_⟩
  · rw [if_pos h] at hQ; exact hQ
  · rw [if_neg h] at hQ; exact hQ
theorem sp_chosen0 {M : Mem} {Q : Nat → Mem → Prop} (hQ : Q (chq M) M) : wp_X2_chosen 0 M Q := by
  refine sp_chosen ?_
  have e : 2 * 0 + (if M 2 0 0 2 = 0 then 0 else 1) = chq M := by unfold chq; split <;> rfl
  rw [e]; exact hQ
def pnv (M : Mem) (q : Nat) : Int32 := if M 3 q 0 0 = 0 then -1 else M 3 q 0 6
theorem sp_pagesOrNone {q : Nat} {M : Mem} {Q : Int32 → Mem → Prop} (hQ : Q (pnv M q) M) : wp_X0_pagesOrNone q M Q := by
  unfold wp_X0_pagesOrNone
  unfold pnv at hQ
  refine ⟨fun h => ?_, fun h => ?_⟩
  · rw [if_pos h] at hQ; exact hQ
  · rw [if_neg h] at hQ; exact hQ
def neF (np rp : Nat → Int32) : Nat → Int32
  | 0 => 0
  | n + 1 => if np n = -1 ∨ np n = rp n then neF np rp n else neF np rp n + 1
theorem sp_notesElsewhere {q o R : Nat} {M : Mem} {Q : Int32 → Mem → Prop} (hR : M 1 o 0 5 = nI R) (hR30 : R ≤ 30) (hQ : Q (neF (M 21 q 0) (M 20 q 0) R) M) : wp_X0_notesElsewhere q o M Q := by
  unfold wp_X0_notesElsewhere
  refine up_loop2 (W := fun n x v M => wp_X0_notesElsewhere_L4 q o _ Q n x v M) (fun k x M' => M' = M ∧ x = neF (M 21 q 0) (M 20 q 0) k) R 0 M ⟨rfl, rfl⟩ ?_ ?_
  · rintro n x M' ⟨rfl, rfl⟩
    unfold wp_X0_notesElsewhere_L4
    exact ⟨fun _ => hQ, fun h => absurd (by rw [hR]; exact Int32.le_refl _) h⟩
  · rintro n k x M' hk ⟨rfl, rfl⟩ ih
    have hc : (nI k).toNatClampNeg = k := ncl (by omega)
    have hv := vin (n := k) (N := 30) (by omega) (by decide)
    unfold wp_X0_notesElsewhere_L4
    refine ⟨fun h => absurd (by rw [hR] at h; exact h) (nI_ge (a := k) (b := R) hk (by omega)), fun _ => ⟨hv, ?_⟩⟩
    rw [hc]
    refine ⟨fun h => ?_, fun h => ⟨hv, hv, fun h2 => ?_, fun h2 => ?_⟩⟩
    · unfold wp_X0_notesElsewhere_L40
      rw [s_nI]
      exact ih _ _ ⟨rfl, by simp only [neF, if_pos (Or.inl h : M' 21 q 0 k = -1 ∨ M' 21 q 0 k = M' 20 q 0 k)]⟩
    · unfold wp_X0_notesElsewhere_L40
      rw [s_nI]
      exact ih _ _ ⟨rfl, by simp only [neF, if_pos (Or.inr h2 : M' 21 q 0 k = -1 ∨ M' 21 q 0 k = M' 20 q 0 k)]⟩
    · unfold wp_X0_notesElsewhere_L40
      rw [s_nI]
      exact ih _ _ ⟨rfl, by simp only [neF, if_neg (fun z : M' 21 q 0 k = -1 ∨ M' 21 q 0 k = M' 20 q 0 k => z.elim h h2)]⟩
def scF (h : Nat → Int32) : Nat → Int32
  | 0 => 0
  | n + 1 => if h n = 0 then scF h n + 1 else scF h n
theorem sp_shownCells {o C r : Nat} {M : Mem} {Q : Int32 → Mem → Prop} (hC : M 1 o 0 0 = nI C) (hC6 : C ≤ 6) (hr : r < 30) (hQ : Q (scF (M 17 o r) C) M) : wp_X0_shownCells o (nI r) M Q := by
  have hrr : (nI r).toNatClampNeg = r := ncl (by omega)
  unfold wp_X0_shownCells
  refine up_loop2 (W := fun n x v M => wp_X0_shownCells_L4 o (nI r) _ Q n x v M) (fun k x M' => M' = M ∧ x = scF (M 17 o r) k) C 0 M ⟨rfl, rfl⟩ ?_ ?_
  · rintro n x M' ⟨rfl, rfl⟩
    unfold wp_X0_shownCells_L4
    exact ⟨fun _ => hQ, fun h => absurd (by rw [hC]; exact Int32.le_refl _) h⟩
  · rintro n k x M' hk ⟨rfl, rfl⟩ ih
    have hc : (nI k).toNatClampNeg = k := ncl (by omega)
    unfold wp_X0_shownCells_L4
    refine ⟨fun h => absurd (by rw [hC] at h; exact h) (nI_ge (a := k) (b := C) hk (by omega)), fun _ => ⟨vin hr (by decide), vin (by omega) (by decide), ?_⟩⟩
    rw [hc, hrr]
    refine ⟨fun h => ?_, fun h => ?_⟩
    · unfold wp_X0_shownCells_L29
      rw [s_nI]
      exact ih _ _ ⟨rfl, by simp only [scF, if_pos h]⟩
    · unfold wp_X0_shownCells_L29
      rw [s_nI]
      exact ih _ _ ⟨rfl, by simp only [scF, if_neg h]⟩
def ra1 (k : Nat → Int32) (p : Nat) (x : Int32) : Nat → Int32
  | 0 => x
  | n + 1 => if p = 0 ∨ k n = 1 then ra1 k p x n else ra1 k p x n + 1
def ra2 (rp : Nat → Int32) (h : Nat → Nat → Int32) (C p : Nat) (x : Int32) : Nat → Int32
  | 0 => x
  | n + 1 => if rp n = nI p then ra2 rp h C p x n + scF (h n) C else ra2 rp h C p x n
theorem sp_readAloud {q o C R p : Nat} {M : Mem} {Q : Int32 → Mem → Prop} (hC : M 1 o 0 0 = nI C) (hC6 : C ≤ 6) (hR : M 1 o 0 5 = nI R) (hR30 : R ≤ 30) (hp : p < 60) (hQ : Q (ra2 (M 20 q 0) (M 17 o) C p (ra1 (M 5 o 0) p (nI C + M 24 q 0 p) C) R) M) : wp_X0_readAloud q o (nI p) M Q := by
  have hpp : (nI p).toNatClampNeg = p := ncl (by omega)
  unfold wp_X0_readAloud
  rw [hpp, hC]
  refine ⟨vin hp (by decide), ?_⟩
  refine up_loop2 (W := fun n x v M => wp_X0_readAloud_L15 q o (nI p) _ Q n x v M) (fun k x M' => M' = M ∧ x = ra1 (M 5 o 0) p (nI C + M 24 q 0 p) k) C _ M ⟨rfl, rfl⟩ ?_ ?_
  · rintro n x M' ⟨rfl, rfl⟩
    unfold wp_X0_readAloud_L15
    refine ⟨fun _ => ?_, fun h => absurd (by rw [hC]; exact Int32.le_refl _) h⟩
    unfold wp_X0_readAloud_L48
    refine up_loop2 (W := fun n x v M => wp_X0_readAloud_L51 q o (nI p) _ Q n x v M) (fun k x M2 => M2 = M' ∧ x = ra2 (M' 20 q 0) (M' 17 o) C p (ra1 (M' 5 o 0) p (nI C + M' 24 q 0 p) C) k) R _ M' ⟨rfl, rfl⟩ ?_ ?_
    · rintro n2 x M2 ⟨rfl, rfl⟩
      unfold wp_X0_readAloud_L51
      exact ⟨fun _ => hQ, fun h => absurd (by rw [hR]; exact Int32.le_refl _) h⟩
    · rintro n2 k x M2 hk ⟨rfl, rfl⟩ ih
      have hc : (nI k).toNatClampNeg = k := ncl (by omega)
      unfold wp_X0_readAloud_L51
      refine ⟨fun h => absurd (by rw [hR] at h; exact h) (nI_ge (a := k) (b := R) hk (by omega)), fun _ => ⟨vin (by omega) (by decide), ?_⟩⟩
      rw [hc]
      refine ⟨fun h => sp_shownCells hC hC6 (by omega) ?_, fun h => ?_⟩
      · unfold wp_X0_readAloud_L80
        rw [s_nI]
        exact ih _ _ ⟨rfl, by simp only [ra2, if_pos h]⟩
      · unfold wp_X0_readAloud_L80
        rw [s_nI]
        exact ih _ _ ⟨rfl, by simp only [ra2, if_neg h]⟩
  · rintro n k x M' hk ⟨rfl, rfl⟩ ih
    have hc : (nI k).toNatClampNeg = k := ncl (by omega)
    unfold wp_X0_readAloud_L15
    refine ⟨fun h => absurd (by rw [hC] at h; exact h) (nI_ge (a := k) (b := C) hk (by omega)), fun _ => ⟨fun h => ?_, fun h => ⟨vin (by omega) (by decide), ?_⟩⟩⟩
    · have h0 : p = 0 := by
        rcases Nat.eq_zero_or_pos p with z | z
        · exact z
        · exact absurd h (nI_nle z (by omega))
      unfold wp_X0_readAloud_L42
      rw [s_nI]
      exact ih _ _ ⟨rfl, by simp only [ra1, if_pos (Or.inl h0 : p = 0 ∨ M' 5 o 0 k = 1)]⟩
    · have h0 : ¬ p = 0 := fun z => h (by rw [z]; exact Int32.le_refl _)
      rw [hc]
      refine ⟨fun h1 => ?_, fun h1 => ?_⟩
      · unfold wp_X0_readAloud_L42
        rw [s_nI]
        exact ih _ _ ⟨rfl, by simp only [ra1, if_pos (Or.inr h1 : p = 0 ∨ M' 5 o 0 k = 1)]⟩
      · unfold wp_X0_readAloud_L42
        rw [s_nI]
        exact ih _ _ ⟨rfl, by simp only [ra1, if_neg (fun z : p = 0 ∨ M' 5 o 0 k = 1 => z.elim h0 h1)]⟩
/-- what a sheet and its chosen layout answer -/
def tblF (C R : Nat) (M : Mem) : Nat → Int32
  | 0 => nI C
  | 1 => nI R
  | 2 => pnv M (chq M)
  | 3 => if M 3 (chq M) 0 0 = 0 then -1 else if M 2 0 0 2 = 0 then 0 else 1
  | 4 => if M 3 (chq M) 0 0 = 0 then -1 else twF (nI C) (M 18 (chq M) 0) C
  | 5 => if M 3 (chq M) 0 0 = 0 then -1 else sumN (M 19 (chq M) 0) R
  | 6 => sumN (fun r => M 4 0 r 4) R
  | _ => if M 3 (chq M) 0 0 = 0 then -1 else neF (M 21 (chq M) 0) (M 20 (chq M) 0) R
theorem iw {w k : Nat} (hw : w < 2 ^ 31) (hk : k < 2 ^ 31) {x : Int32} (hx : nI k = x) (h : nI w = x) : w = k := nI_inj hw hk (h.trans hx.symm)
theorem sp_factOfTable {C R w : Nat} {M : Mem} {Q : Int32 → Mem → Prop} (hC : M 1 0 0 0 = nI C) (hC6 : C ≤ 6) (hR : M 1 0 0 5 = nI R) (hR30 : R ≤ 30) (hw : w < 8) (hQ : Q (tblF C R M w) M) : wp_X4_factOfTable (nI w) M Q := by
  unfold wp_X4_factOfTable
  refine sp_chosen0 ⟨fun h => ?_, fun h => ?_, fun h => ?_, fun h => ?_, fun h => ?_, fun h => ?_, fun h => ?_, fun h => ?_, fun h0 h1 h2 h3 h4 h5 h6 h7 => ?_⟩
  · have e := iw (k := 0) (by omega) (by omega) rfl h; subst e
    rw [hC]; exact hQ
  · have e := iw (k := 1) (by omega) (by omega) rfl h; subst e
    rw [hR]; exact hQ
  · have e := iw (k := 2) (by omega) (by omega) rfl h; subst e
    exact sp_pagesOrNone hQ
  · have e := iw (k := 3) (by omega) (by omega) rfl h; subst e
    have hQ : Q (if M 3 (chq M) 0 0 = 0 then -1 else if M 2 0 0 2 = 0 then 0 else 1) M := hQ
    refine ⟨fun z => ?_, fun z => ⟨fun y => ?_, fun y => ?_⟩⟩
    · rw [if_pos z] at hQ; exact hQ
    · rw [if_neg z, if_pos y] at hQ; exact hQ
    · rw [if_neg z, if_neg y] at hQ; exact hQ
  · have e := iw (k := 4) (by omega) (by omega) rfl h; subst e
    have hQ : Q (if M 3 (chq M) 0 0 = 0 then -1 else twF (nI C) (M 18 (chq M) 0) C) M := hQ
    refine ⟨fun z => ?_, fun z => sp_tableWidth hC hC6 ?_⟩
    · rw [if_pos z] at hQ; exact hQ
    · rw [if_neg z] at hQ; exact hQ
  · have e := iw (k := 5) (by omega) (by omega) rfl h; subst e
    have hQ : Q (if M 3 (chq M) 0 0 = 0 then -1 else sumN (M 19 (chq M) 0) R) M := hQ
    refine ⟨fun z => ?_, fun z => sp_heightOfRows hR hR30 ?_⟩
    · rw [if_pos z] at hQ; exact hQ
    · rw [if_neg z] at hQ; exact hQ
  · have e := iw (k := 6) (by omega) (by omega) rfl h; subst e
    exact sp_linesOfNotes hR hR30 hQ
  · have e := iw (k := 7) (by omega) (by omega) rfl h; subst e
    have hQ : Q (if M 3 (chq M) 0 0 = 0 then -1 else neF (M 21 (chq M) 0) (M 20 (chq M) 0) R) M := hQ
    refine ⟨fun z => ?_, fun z => sp_notesElsewhere hR hR30 ?_⟩
    · rw [if_pos z] at hQ; exact hQ
    · rw [if_neg z] at hQ; exact hQ
  · exfalso
    have k0 : ¬ w = 0 := fun z => h0 (by rw [z]; rfl)
    have k1 : ¬ w = 1 := fun z => h1 (by rw [z]; rfl)
    have k2 : ¬ w = 2 := fun z => h2 (by rw [z]; rfl)
    have k3 : ¬ w = 3 := fun z => h3 (by rw [z]; rfl)
    have k4 : ¬ w = 4 := fun z => h4 (by rw [z]; rfl)
    have k5 : ¬ w = 5 := fun z => h5 (by rw [z]; rfl)
    have k6 : ¬ w = 6 := fun z => h6 (by rw [z]; rfl)
    have k7 : ¬ w = 7 := fun z => h7 (by rw [z]; rfl)
    omega
def colF (R : Nat) (M : Mem) (c : Nat) : Nat → Int32
  | 0 => M 5 0 0 c
  | 1 => M 9 0 0 c
  | 2 => M 10 0 0 c
  | 3 => if M 3 (chq M) 0 0 = 0 then -1 else M 18 (chq M) 0 c
  | _ => suv M 0 (nI R - 1) (nI c)
theorem sp_factOfColumn {R c w : Nat} {M : Mem} {Q : Int32 → Mem → Prop} (hR : M 1 0 0 5 = nI R) (hR30 : R ≤ 30) (hc : c < 6) (hw : w < 5) (hQ : Q (colF R M c w) M) : wp_X4_factOfColumn (nI c) (nI w) M Q := by
  have hcc : (nI c).toNatClampNeg = c := ncl (by omega)
  have hv := vin (n := c) (N := 6) hc (by decide)
  unfold wp_X4_factOfColumn
  rw [hcc]
  refine sp_chosen0 ⟨fun h => ?_, fun h => ?_, fun h => ?_, fun h => ?_, fun h => ?_, fun h0 h1 h2 h3 h4 => ?_⟩
  · have e := iw (k := 0) (by omega) (by omega) rfl h; subst e
    exact ⟨hv, hQ⟩
  · have e := iw (k := 1) (by omega) (by omega) rfl h; subst e
    exact ⟨hv, hQ⟩
  · have e := iw (k := 2) (by omega) (by omega) rfl h; subst e
    exact ⟨hv, hQ⟩
  · have e := iw (k := 3) (by omega) (by omega) rfl h; subst e
    have hQ : Q (if M 3 (chq M) 0 0 = 0 then -1 else M 18 (chq M) 0 c) M := hQ
    refine ⟨fun z => ?_, fun z => ⟨hv, ?_⟩⟩
    · rw [if_pos z] at hQ; exact hQ
    · rw [if_neg z] at hQ; exact hQ
  · have e := iw (k := 4) (by omega) (by omega) rfl h; subst e
    rw [hR]
    refine sp_sumUpTo hv (fun z => ?_) hQ
    rcases Nat.eq_zero_or_pos R with y | y
    · subst y; exact absurd z (by decide)
    · rw [p_nI y]; exact vin (by omega) (by decide)
  · exfalso
    have k0 : ¬ w = 0 := fun z => h0 (by rw [z]; rfl)
    have k1 : ¬ w = 1 := fun z => h1 (by rw [z]; rfl)
    have k2 : ¬ w = 2 := fun z => h2 (by rw [z]; rfl)
    have k3 : ¬ w = 3 := fun z => h3 (by rw [z]; rfl)
    have k4 : ¬ w = 4 := fun z => h4 (by rw [z]; rfl)
    omega
def rowF (M : Mem) (r w : Nat) : Int32 := if M 3 (chq M) 0 0 = 0 then -1 else if w = 0 then M 19 (chq M) 0 r else if w = 1 then M 20 (chq M) 0 r else M 21 (chq M) 0 r
theorem sp_factOfRow {r w : Nat} {M : Mem} {Q : Int32 → Mem → Prop} (hr : r < 30) (hw : w < 3) (hQ : Q (rowF M r w) M) : wp_X4_factOfRow (nI r) (nI w) M Q := by
  have hrr : (nI r).toNatClampNeg = r := ncl (by omega)
  have hv := vin (n := r) (N := 30) hr (by decide)
  unfold wp_X4_factOfRow
  rw [hrr]
  unfold rowF at hQ
  refine sp_chosen0 ⟨fun z => ?_, fun z => ?_⟩
  · rw [if_pos z] at hQ; exact hQ
  rw [if_neg z] at hQ
  refine ⟨fun h => ?_, fun h => ?_, fun h => ?_, fun h0 h1 h2 => ?_⟩
  · have e := iw (k := 0) (by omega) (by omega) rfl h; subst e
    exact ⟨hv, hQ⟩
  · have e := iw (k := 1) (by omega) (by omega) rfl h; subst e
    exact ⟨hv, hQ⟩
  · have e := iw (k := 2) (by omega) (by omega) rfl h; subst e
    exact ⟨hv, hQ⟩
  · exfalso
    have k0 : ¬ w = 0 := fun z => h0 (by rw [z]; rfl)
    have k1 : ¬ w = 1 := fun z => h1 (by rw [z]; rfl)
    have k2 : ¬ w = 2 := fun z => h2 (by rw [z]; rfl)
    omega
def cellF (C : Nat) (M : Mem) (r c : Nat) : Nat → Int32
  | 0 => if M 5 0 0 c = 1 then M 13 0 r c else M 12 0 r c
  | 1 => if M 3 (chq M) 0 0 = 0 then -1 else chF (vw M 0) C (M 18 (chq M) 0) r c
  | 2 => if M 17 0 r c = 0 then 0 else 1
  | _ => suv M 0 (nI r) (nI c)
theorem sp_factOfCell {C r c w : Nat} {M : Mem} {Q : Int32 → Mem → Prop} (hC : M 1 0 0 0 = nI C) (hC6 : C ≤ 6) (hr : r < 30) (hc : c < C) (hw : w < 4) (hQ : Q (cellF C M r c w) M) : wp_X4_factOfCell (nI r) (nI c) (nI w) M Q := by
  have hrr : (nI r).toNatClampNeg = r := ncl (by omega)
  have hcc : (nI c).toNatClampNeg = c := ncl (by omega)
  have hv := vin (n := r) (N := 30) hr (by decide)
  have hvc := vin (n := c) (N := 6) (by omega) (by decide)
  unfold wp_X4_factOfCell
  rw [hrr, hcc]
  refine sp_chosen0 ⟨hv, fun h => ?_, fun h => ?_, fun h => ?_, fun h => ?_, fun h0 h1 h2 h3 => ?_⟩
  · have e := iw (k := 0) (by omega) (by omega) rfl h; subst e
    have hQ : Q (if M 5 0 0 c = 1 then M 13 0 r c else M 12 0 r c) M := hQ
    refine ⟨hvc, fun z => ⟨hvc, ?_⟩, fun z => ⟨hvc, ?_⟩⟩
    · rw [if_pos z] at hQ; exact hQ
    · rw [if_neg z] at hQ; exact hQ
  · have e := iw (k := 1) (by omega) (by omega) rfl h; subst e
    have hQ : Q (if M 3 (chq M) 0 0 = 0 then -1 else chF (vw M 0) C (M 18 (chq M) 0) r c) M := hQ
    refine ⟨fun z => ?_, fun z => sp_heightOfCell hC hC6 hr hc ?_⟩
    · rw [if_pos z] at hQ; exact hQ
    · rw [if_neg z] at hQ; exact hQ
  · have e := iw (k := 2) (by omega) (by omega) rfl h; subst e
    have hQ : Q (if M 17 0 r c = 0 then 0 else 1) M := hQ
    refine ⟨hvc, fun z => ?_, fun z => ?_⟩
    · rw [if_pos z] at hQ; exact hQ
    · rw [if_neg z] at hQ; exact hQ
  · have e := iw (k := 3) (by omega) (by omega) rfl h; subst e
    exact sp_sumUpTo hvc (fun _ => hv) hQ
  · exfalso
    have k0 : ¬ w = 0 := fun z => h0 (by rw [z]; rfl)
    have k1 : ¬ w = 1 := fun z => h1 (by rw [z]; rfl)
    have k2 : ¬ w = 2 := fun z => h2 (by rw [z]; rfl)
    have k3 : ¬ w = 3 := fun z => h3 (by rw [z]; rfl)
    omega
def pageF (C R : Nat) (M : Mem) (p : Nat) : Nat → Int32
  | 0 => M 22 (chq M) 0 p
  | 1 => M 23 (chq M) 0 p
  | 2 => M 24 (chq M) 0 p
  | 3 => M 25 (chq M) 0 p
  | _ => ra2 (M 20 (chq M) 0) (M 17 0) C p (ra1 (M 5 0 0) p (nI C + M 24 (chq M) 0 p) C) R
theorem sp_factOfPage {C R p w : Nat} {M : Mem} {Q : Int32 → Mem → Prop} (hC : M 1 0 0 0 = nI C) (hC6 : C ≤ 6) (hR : M 1 0 0 5 = nI R) (hR30 : R ≤ 30) (hp : p < 60) (hw : w < 5) (hQ : Q (pageF C R M p w) M) : wp_X4_factOfPage (nI p) (nI w) M Q := by
  have hpp : (nI p).toNatClampNeg = p := ncl (by omega)
  have hv := vin (n := p) (N := 60) hp (by decide)
  unfold wp_X4_factOfPage
  rw [hpp]
  refine sp_chosen0 ⟨fun h => ?_, fun h => ?_, fun h => ?_, fun h => ?_, fun h => ?_, fun h0 h1 h2 h3 h4 => ?_⟩
  · have e := iw (k := 0) (by omega) (by omega) rfl h; subst e
    exact ⟨hv, hQ⟩
  · have e := iw (k := 1) (by omega) (by omega) rfl h; subst e
    exact ⟨hv, hQ⟩
  · have e := iw (k := 2) (by omega) (by omega) rfl h; subst e
    exact ⟨hv, hQ⟩
  · have e := iw (k := 3) (by omega) (by omega) rfl h; subst e
    exact ⟨hv, hQ⟩
  · have e := iw (k := 4) (by omega) (by omega) rfl h; subst e
    exact sp_readAloud hC hC6 hR hR30 hp hQ
  · exfalso
    have k0 : ¬ w = 0 := fun z => h0 (by rw [z]; rfl)
    have k1 : ¬ w = 1 := fun z => h1 (by rw [z]; rfl)
    have k2 : ¬ w = 2 := fun z => h2 (by rw [z]; rfl)
    have k3 : ¬ w = 3 := fun z => h3 (by rw [z]; rfl)
    have k4 : ¬ w = 4 := fun z => h4 (by rw [z]; rfl)
    omega
def caF (M : Mem) (q o p c : Nat) : Int32 := suv M o (M 26 q 0 p) (nI c)
theorem sp_carriedOn {q o p c : Nat} {M : Mem} {Q : Int32 → Mem → Prop} (hp : p < 60) (hc : c < 6) (hl : 0 ≤ M 26 q 0 p → vp_in (M 26 q 0 p) 30) (hQ : Q (caF M q o p c) M) : wp_X0_carriedOn q o (nI p) (nI c) M Q := by
  have hpp : (nI p).toNatClampNeg = p := ncl (by omega)
  unfold wp_X0_carriedOn
  rw [hpp]
  exact ⟨vin hp (by decide), sp_sumUpTo (vin hc (by decide)) hl hQ⟩
