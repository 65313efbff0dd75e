/-! The widths and the heights of a layout, in numbers. -/
/-- but for one family of one object, nothing has changed -/
def fr1 (f q : Nat) (M M' : Mem) : Prop := ∀ f' o', ¬ (f' = f ∧ o' = q) → M' f' o' = M f' o'
theorem fr1_rf {f q : Nat} {M : Mem} : fr1 f q M M := fun _ _ _ => rfl
theorem fr1_set {f q : Nat} {M M' : Mem} {i j : Nat} {x : Int32} (h : fr1 f q M M') : fr1 f q M (sM M' f q i j x) := by
  intro f' o' hn
  rw [← h f' o' hn]
  funext i' j'
  rw [rd, if_neg (fun z => hn ⟨z.1, z.2.1⟩)]
theorem fr1_at {f q f' o' i j : Nat} {M M' : Mem} (h : fr1 f q M M') (hn : ¬ (f' = f ∧ o' = q)) : M' f' o' i j = M f' o' i j := by rw [h f' o' hn]
def twF (cc : Int32) (wd : Nat → Int32) : Nat → Int32
  | 0 => cc - 1
  | n + 1 => twF cc wd n + wd n
theorem twF_c {cc : Int32} {w w' : Nat → Int32} : ∀ n, (∀ j, j < n → w j = w' j) → twF cc w n = twF cc w' n
  | 0, _ => rfl
  | n + 1, h => by simp only [twF, twF_c n (fun j hj => h j (by omega)), h n (by omega)]
theorem sp_tableWidth {q o C : Nat} {M : Mem} {Q : Int32 → Mem → Prop} (hC : M 1 o 0 0 = nI C) (hC6 : C ≤ 6) (hQ : Q (twF (nI C) (M 18 q 0) C) M) : wp_X0_tableWidth q o M Q := by
  unfold wp_X0_tableWidth
  rw [hC]
  refine up_loop2 (W := fun n x v M => wp_X0_tableWidth_L9 q o _ Q n x v M) (fun k x M' => M' = M ∧ x = twF (nI C) (M 18 q 0) k) C _ M ⟨rfl, rfl⟩ ?_ ?_
  · rintro n x M' ⟨rfl, rfl⟩
    unfold wp_X0_tableWidth_L9
    exact ⟨fun _ => hQ, fun h => absurd (by rw [hC]; exact Int32.le_refl _) h⟩
  · rintro n k x M' hk ⟨rfl, rfl⟩ ih
    have hc : (nI k).toNatClampNeg = k := ncl (by omega)
    unfold wp_X0_tableWidth_L9
    refine ⟨fun h => absurd (by rw [hC] at h; exact h) (nI_ge (a := k) (b := C) hk (by omega)), fun _ => ⟨vin (by omega) (by decide), ?_⟩⟩
    rw [s_nI, hc]
    exact ih _ _ ⟨rfl, rfl⟩
/-- heightOfRows -/
theorem sp_heightOfRows {q o R : Nat} {M : Mem} {Q : Int32 → Mem → Prop} (hR : M 1 o 0 5 = nI R) (hR30 : R ≤ 30) (hQ : Q (sumN (M 19 q 0) R) M) : wp_X0_heightOfRows q o M Q := by
  unfold wp_X0_heightOfRows
  refine up_loop2 (W := fun n x v M => wp_X0_heightOfRows_L4 q o _ Q n x v M) (fun k x M' => M' = M ∧ x = sumN (M 19 q 0) k) R 0 M ⟨rfl, rfl⟩ ?_ ?_
  · rintro n x M' ⟨rfl, rfl⟩
    unfold wp_X0_heightOfRows_L4
    exact ⟨fun _ => hQ, fun h => absurd (by rw [hR]; exact Int32.le_refl _) h⟩
  · rintro n k x M' hk ⟨rfl, rfl⟩ ih
    have hc : (nI k).toNatClampNeg = k := ncl (by omega)
    unfold wp_X0_heightOfRows_L4
    refine ⟨fun h => absurd (by rw [hR] at h; exact h) (nI_ge (a := k) (b := R) hk (by omega)), fun _ => ⟨vin (by omega) (by decide), ?_⟩⟩
    rw [s_nI, hc]
    exact ih _ _ ⟨rfl, rfl⟩
/-- mostSpareColumn -/
def msF (wd le : Nat → Int32) : Nat → Int32 × Int32
  | 0 => (0, -1)
  | n + 1 => if wd n - le n ≤ (msF wd le n).1 then msF wd le n else (wd n - le n, nI n)
theorem msF_c {w w' l l' : Nat → Int32} : ∀ n, (∀ j, j < n → w j = w' j ∧ l j = l' j) → msF w l n = msF w' l' n
  | 0, _ => rfl
  | n + 1, h => by simp only [msF, msF_c n (fun j hj => h j (by omega)), (h n (by omega)).1, (h n (by omega)).2]
theorem msF_in {w l : Nat → Int32} : ∀ n, n ≤ 6 → (msF w l n).2 = -1 ∨ ∃ c, c < n ∧ (msF w l n).2 = nI c
  | 0, _ => Or.inl rfl
  | n + 1, h => by
    by_cases q : w n - l n ≤ (msF w l n).1
    · have e : msF w l (n + 1) = msF w l n := by simp only [msF, if_pos q]
      rw [e]
      rcases msF_in n (by omega) with h1 | ⟨c, h1, h2⟩
      · exact Or.inl h1
      · exact Or.inr ⟨c, by omega, h2⟩
    · have e : msF w l (n + 1) = (w n - l n, nI n) := by simp only [msF, if_neg q]
      rw [e]
      exact Or.inr ⟨n, by omega, rfl⟩
theorem sp_mostSpareColumn {q o C : Nat} {M : Mem} {Q : Int32 → Mem → Prop} (hC : M 1 o 0 0 = nI C) (hC6 : C ≤ 6) (hQ : Q (msF (M 18 q 0) (M 9 o 0) C).2 M) : wp_X0_mostSpareColumn q o M Q := by
  unfold wp_X0_mostSpareColumn
  refine up_loop3 (W := fun n x y v M => wp_X0_mostSpareColumn_L7 q o _ Q n x y v M) (fun k x y M' => M' = M ∧ (x, y) = msF (M 18 q 0) (M 9 o 0) k) C 0 (-1) M ⟨rfl, rfl⟩ ?_ ?_
  · rintro n x y M' ⟨rfl, h⟩
    unfold wp_X0_mostSpareColumn_L7
    refine ⟨fun _ => ?_, fun h => absurd (by rw [hC]; exact Int32.le_refl _) h⟩
    have e : y = (msF (M' 18 q 0) (M' 9 o 0) C).2 := by rw [← h]
    rw [e]; exact hQ
  · rintro n k x y M' hk ⟨rfl, h⟩ ih
    have hc : (nI k).toNatClampNeg = k := ncl (by omega)
    have hv := vin (n := k) (N := 6) (by omega) (by decide)
    have e1 : x = (msF (M' 18 q 0) (M' 9 o 0) k).1 := by rw [← h]
    unfold wp_X0_mostSpareColumn_L7
    refine ⟨fun h => absurd (by rw [hC] at h; exact h) (nI_ge (a := k) (b := C) hk (by omega)), fun _ => ⟨hv, hv, ?_⟩⟩
    rw [hc]
    refine ⟨fun h1 => ?_, fun h1 => ?_⟩
    · unfold wp_X0_mostSpareColumn_L45
      rw [s_nI]
      refine ih _ _ _ ⟨rfl, ?_⟩
      rw [e1] at h1
      simp only [msF, if_pos h1]
      exact h
    · unfold wp_X0_mostSpareColumn_L45
      rw [s_nI]
      refine ih _ _ _ ⟨rfl, ?_⟩
      rw [e1] at h1
      simp only [msF, if_neg h1]
/-- the narrowing, k times -/
def narF (C : Nat) (le : Nat → Int32) : Nat → (Nat → Int32) → Option (Nat → Int32)
  | 0, wd => some wd
  | k + 1, wd => if (msF wd le C).2 = -1 then none else narF C le k (upd wd (msF wd le C).2.toNatClampNeg (wd (msF wd le C).2.toNatClampNeg - 1))
def cut0 (C : Nat) (w : Nat → Int32) : Nat → Int32 := fun j => if j < C then w j else 0
/-- the widths in some width w, of bests and leasts -/
def WID (be le : Nat → Int32) (C R : Nat) (w : Int32) : Option (Nat → Int32) :=
  if C = 0 ∨ R = 0 then none else narF C le (twF (nI C) (cut0 C be) C - w).toNatClampNeg (cut0 C be)
theorem clampPos {x : Int32} (h : ¬ x ≤ 0) : ∃ k : Nat, k + 1 < 2 ^ 31 ∧ x = nI (k + 1) ∧ x.toNatClampNeg = k + 1 := by
  obtain ⟨j, hj, rfl⟩ := nI_of (x := x) (fun q => h (Int32.le_of_lt q))
  cases j with
  | zero => exact absurd (Int32.le_refl _) h
  | succ k => exact ⟨k, hj, rfl, ncl hj⟩
theorem clampNeg {x : Int32} (h : x ≤ 0) : x.toNatClampNeg = 0 := by
  have h1 : x.toInt ≤ 0 := by rw [Int32.le_iff_toInt_le] at h; exact h
  show x.toInt.toNat = 0
  omega
theorem narrow_loop {q o C : Nat} {w : Int32} {le : Nat → Int32} {Q : Int32 → Mem → Prop} {M0 : Mem} (hC6 : C ≤ 6) (hC : M0 1 o 0 0 = nI C) (hle : ∀ j, j < C → M0 9 o 0 j = le j) :
    ∀ (k : Nat) (x : Int32) (M : Mem) (wd : Nat → Int32), x.toNatClampNeg = k → fr1 18 q M0 M → (∀ j, j < C → M 18 q 0 j = wd j) → (narF C le k wd = none → ∀ M', fr1 18 q M0 M' → Q 0 M') →
      (∀ wd', narF C le k wd = some wd' → ∀ M', fr1 18 q M0 M' → (∀ j, j < C → M' 18 q 0 j = wd' j) → Q 1 M') → ∃ n, wp_X0_isWidthFit_L52 q o w (fun M => Q 1 M) Q n x M := by
  intro k
  induction k with
  | zero =>
    intro x M wd hx hf hw hs0 hs
    refine ⟨1, ?_⟩
    unfold wp_X0_isWidthFit_L52
    refine ⟨fun _ => hs wd rfl M hf hw, fun h => ?_⟩
    obtain ⟨j, -, -, e⟩ := clampPos h
    omega
  | succ k ih =>
    intro x M wd hx hf hw hs0 hs
    have hpos : ¬ x ≤ 0 := fun h => by rw [clampNeg h] at hx; omega
    obtain ⟨j, hj, ex, ej⟩ := clampPos hpos
    have ejk : j = k := by omega
    subst ejk
    have hC' : M 1 o 0 0 = nI C := by rw [fr1_at hf (by omega)]; exact hC
    have ems : msF (M 18 q 0) (M 9 o 0) C = msF wd le C := msF_c C (fun j hj => ⟨hw j hj, by rw [fr1_at hf (by omega)]; exact hle j hj⟩)
    by_cases hm : (msF wd le C).2 = -1
    · refine ⟨1, ?_⟩
      unfold wp_X0_isWidthFit_L52
      refine ⟨fun h => absurd h hpos, fun _ => sp_mostSpareColumn hC' hC6 ?_⟩
      rw [ems, hm]
      exact ⟨fun _ => hs0 (by simp only [narF, if_pos hm]) M hf, fun h => absurd rfl h⟩
    · obtain ⟨c, hc, e2⟩ := (msF_in (w := wd) (l := le) C hC6).resolve_left hm
      have hcc : (nI c).toNatClampNeg = c := ncl (by omega)
      have hv := vin (n := c) (N := 6) (by omega) (by decide)
      have e3 : narF C le (j + 1) wd = narF C le j (upd wd c (wd c - 1)) := by
        rw [narF, if_neg hm, e2, hcc]
      have ex2 : x + (-1) = nI j := by rw [ex]; exact pk_m1 j
      obtain ⟨n, hn⟩ := ih (x + (-1)) (sM M 18 q 0 c (M 18 q 0 c - 1)) (upd wd c (wd c - 1)) (by rw [ex2]; exact ncl (by omega)) (fr1_set hf) (fun i hi => by
        rw [rd]
        by_cases hic : i = c
        · subst hic
          simp [upd, hw i hi]
        · simp [upd, hic, hw i hi]) (fun h => hs0 (by rw [e3]; exact h)) (fun wd' h M' h1 h2 => hs wd' (by rw [e3]; exact h) M' h1 h2)
      refine ⟨n + 1, ?_⟩
      unfold wp_X0_isWidthFit_L52
      refine ⟨fun h => absurd h hpos, fun _ => sp_mostSpareColumn hC' hC6 ?_⟩
      rw [ems, e2]
      refine ⟨fun h => ?_, fun _ => ⟨hv, hv, fun M81 e81 => ?_⟩⟩
      · exact absurd (by rw [e2]; exact h) hm
      · rw [e81, hcc]; exact hn
theorem sp_isWidthFit {q o C R : Nat} {w : Int32} {M : Mem} {be le : Nat → Int32} {Q : Int32 → Mem → Prop} (hC : M 1 o 0 0 = nI C) (hC6 : C ≤ 6) (hR : M 1 o 0 5 = nI R) (hR30 : R ≤ 30) (hle : ∀ j, j < C → M 9 o 0 j = le j) (hbe : ∀ j, j < C → M 10 o 0 j = be j)
    (hQ0 : WID be le C R w = none → ∀ M', fr1 18 q M M' → Q 0 M')
    (hQ1 : ∀ wd, WID be le C R w = some wd → ∀ M', fr1 18 q M M' → (∀ j, j < C → M' 18 q 0 j = wd j) → Q 1 M') : wp_X0_isWidthFit q o w M Q := by
  unfold wp_X0_isWidthFit
  rw [hC, hR]
  by_cases h0 : C = 0
  · have eW : WID be le C R w = none := by unfold WID; rw [if_pos (Or.inl h0)]
    subst h0
    exact ⟨fun _ => hQ0 eW M fr1_rf, fun h => absurd rfl h⟩
  refine ⟨fun h => absurd h (nI_ne0 (by omega) (by omega)), fun _ => ?_⟩
  by_cases h1 : R = 0
  · have eW : WID be le C R w = none := by unfold WID; rw [if_pos (Or.inr h1)]
    subst h1
    exact ⟨fun _ => hQ0 eW M fr1_rf, fun h => absurd rfl h⟩
  refine ⟨fun h => absurd h (nI_ne0 (by omega) (by omega)), fun _ => ?_⟩
  have eW : WID be le C R w = narF C le (twF (nI C) (cut0 C be) C - w).toNatClampNeg (cut0 C be) := by unfold WID; rw [if_neg (by omega)]
  refine up_loop (W := fun n v M => wp_X0_isWidthFit_L18 q o w _ Q n v M) (fun k M' => fr1 18 q M M' ∧ ∀ j, j < k → M' 18 q 0 j = be j) C M ⟨fr1_rf, fun j hj => absurd hj (Nat.not_lt_zero _)⟩ ?_ ?_
  · rintro n M' ⟨hf, hb⟩
    have hC' : M' 1 o 0 0 = nI C := by rw [fr1_at hf (by omega)]; exact hC
    unfold wp_X0_isWidthFit_L18
    refine ⟨fun _ => ?_, fun h => absurd (by rw [hC']; exact Int32.le_refl _) h⟩
    unfold wp_X0_isWidthFit_L44
    refine sp_tableWidth hC' hC6 ?_
    have et : twF (nI C) (M' 18 q 0) C = twF (nI C) (cut0 C be) C := twF_c C (fun j hj => by rw [hb j hj]; simp [cut0, hj])
    rw [et]
    exact narrow_loop (le := le) (M0 := M) hC6 hC hle _ _ M' (cut0 C be) rfl hf (fun j hj => by rw [hb j hj]; simp [cut0, hj]) (fun h => hQ0 (by rw [eW]; exact h)) (fun wd' h M2 h1 h2 => hQ1 wd' (by rw [eW]; exact h) M2 h1 h2)
  · rintro n k M' hk ⟨hf, hb⟩ ih
    have hC' : M' 1 o 0 0 = nI C := by rw [fr1_at hf (by omega)]; exact hC
    have hcc : (nI k).toNatClampNeg = k := ncl (by omega)
    have hv := vin (n := k) (N := 6) (by omega) (by decide)
    unfold wp_X0_isWidthFit_L18
    refine ⟨fun h => absurd (by rw [hC'] at h; exact h) (nI_ge (a := k) (b := C) hk (by omega)), fun _ => ⟨hv, hv, fun M37 e37 => ?_⟩⟩
    rw [s_nI, e37, hcc]
    refine ih _ ⟨fr1_set hf, fun j hj => ?_⟩
    rw [rd]
    by_cases hjk : j = k
    · subst hjk
      simp
      rw [fr1_at hf (by omega)]
      exact hbe j hk
    · simp [hjk]
      exact hb j (by omega)
/-- heightOfCell -/
def h60 (len w : Int32) : Int32 := if 0 < w then (if 1 < ((len + w) - 1) / w then ((len + w) - 1) / w else 1) else 1
def chF (Y : Vw) (C : Nat) (wd : Nat → Int32) (r c : Nat) : Int32 :=
  if Y 17 r c = 0 then (if Y 5 0 c = 1 then h60 (Y 13 r c) (if c + 1 < C ∧ ¬ Y 17 r (c + 1) = 0 then wd c + (1 + wd (c + 1)) else wd c) else 1) else 0
theorem sp_heightOfCell {q o C r c : Nat} {M : Mem} {Q : Int32 → Mem → Prop} (hC : M 1 o 0 0 = nI C) (hC6 : C ≤ 6) (hr : r < 30) (hc : c < C) (hQ : Q (chF (vw M o) C (M 18 q 0) r c) M) : wp_X0_heightOfCell q o (nI r) (nI c) M Q := by
  have e1 : (nI r).toNatClampNeg = r := ncl (by omega)
  have e2 : (nI c).toNatClampNeg = c := ncl (by omega)
  have e3 : (nI (c + 1)).toNatClampNeg = c + 1 := ncl (by omega)
  have vr := vin (n := r) (N := 30) hr (by decide)
  have vc := vin (n := c) (N := 6) (by omega) (by decide)
  have tail : ∀ w : Int32, Q (h60 (M 13 o r c) w) M → wp_X0_heightOfCell_L60 q o (nI r) (nI c) Q w M := by
    intro w h
    unfold wp_X0_heightOfCell_L60
    rw [e1, e2]
    unfold h60 at h
    refine ⟨fun h0 => ⟨vr, vc, fun hw => ?_, ?_⟩, fun h0 => ?_⟩
    · rw [hw] at h0; exact absurd h0 (by decide)
    · rw [if_pos h0] at h; exact h
    · rw [if_neg h0] at h; exact h
  unfold wp_X0_heightOfCell
  rw [e1, e2]
  unfold chF at hQ
  refine ⟨vr, vc, fun h17 => ⟨vc, fun h5 => ⟨vc, sp_isSpanning hC hC6 hr (by omega) ⟨fun hs => ?_, fun hs => ?_⟩⟩, fun h5 => ?_⟩, fun h17 => ?_⟩
  · have a1 : vw M o 17 r c = 0 := h17
    have a2 : vw M o 5 0 c = 1 := h5
    have a3 : ¬ (c + 1 < C ∧ ¬ vw M o 17 r (c + 1) = 0) := fun z => by
      have z : c + 1 < C ∧ ¬ M 17 o r (c + 1) = 0 := z
      unfold spv at hs
      rw [if_pos z] at hs
      exact absurd hs (by decide)
    rw [if_pos a1, if_pos a2, if_neg a3] at hQ
    exact tail _ hQ
  · have a1 : vw M o 17 r c = 0 := h17
    have a2 : vw M o 5 0 c = 1 := h5
    have a3 : c + 1 < C ∧ ¬ vw M o 17 r (c + 1) = 0 := by
      by_cases z : c + 1 < C ∧ ¬ M 17 o r (c + 1) = 0
      · exact z
      · unfold spv at hs
        rw [if_neg z] at hs
        exact absurd rfl hs
    rw [if_pos a1, if_pos a2, if_pos a3] at hQ
    rw [s_nI, e3]
    exact ⟨vin (by omega) (by decide), tail _ hQ⟩
  · have a1 : vw M o 17 r c = 0 := h17
    have a2 : ¬ vw M o 5 0 c = 1 := h5
    rw [if_pos a1, if_neg a2] at hQ
    exact hQ
  · have a1 : ¬ vw M o 17 r c = 0 := h17
    rw [if_neg a1] at hQ
    exact hQ
def rhF (Y : Vw) (C : Nat) (wd : Nat → Int32) (r : Nat) : Nat → Int32
  | 0 => 0
  | n + 1 => imax (rhF Y C wd r n) (chF Y C wd r n)
theorem sp_areHeightsFit {q o C R : Nat} {M : Mem} {Q : Int32 → Mem → Prop} (hC : M 1 o 0 0 = nI C) (hC6 : C ≤ 6) (hR : M 1 o 0 5 = nI R) (hR30 : R ≤ 30)
    (hQ0 : (∃ r, r < R ∧ ¬ rhF (vw M o) C (M 18 q 0) r C ≤ M 3 q 0 1) → ∀ M', fr1 19 q M M' → Q 0 M')
    (hQ1 : (∀ r, r < R → rhF (vw M o) C (M 18 q 0) r C ≤ M 3 q 0 1) → ∀ M', fr1 19 q M M' → (∀ r, r < R → M' 19 q 0 r = rhF (vw M o) C (M 18 q 0) r C) → Q 1 M') : wp_X0_areHeightsFit q o M Q := by
  unfold wp_X0_areHeightsFit
  refine up_loop (W := fun n v M => wp_X0_areHeightsFit_L2 q o _ Q n v M) (fun k M' => fr1 19 q M M' ∧ ∀ r, r < k → rhF (vw M o) C (M 18 q 0) r C ≤ M 3 q 0 1 ∧ M' 19 q 0 r = rhF (vw M o) C (M 18 q 0) r C) R M ⟨fr1_rf, fun j hj => absurd hj (Nat.not_lt_zero _)⟩ ?_ ?_
  · rintro n M' ⟨hf, hb⟩
    have hR' : M' 1 o 0 5 = nI R := by rw [fr1_at hf (by omega)]; exact hR
    unfold wp_X0_areHeightsFit_L2
    exact ⟨fun _ => hQ1 (fun r hr => (hb r hr).1) M' hf (fun r hr => (hb r hr).2), fun h => absurd (by rw [hR']; exact Int32.le_refl _) h⟩
  · rintro n k M' hk ⟨hf, hb⟩ ih
    have hR' : M' 1 o 0 5 = nI R := by rw [fr1_at hf (by omega)]; exact hR
    have hC' : M' 1 o 0 0 = nI C := by rw [fr1_at hf (by omega)]; exact hC
    have hkk : (nI k).toNatClampNeg = k := ncl (by omega)
    have ev : ∀ f, ¬ f = 19 → vw M' o f = vw M o f := fun f h => by funext i j; show M' f o i j = M f o i j; exact fr1_at hf (fun z => h z.1)
    have e18 : M' 18 q 0 = M 18 q 0 := by funext j; exact fr1_at hf (by omega)
    have e3 : M' 3 q 0 1 = M 3 q 0 1 := fr1_at hf (by omega)
    have ech : ∀ c, chF (vw M' o) C (M' 18 q 0) k c = chF (vw M o) C (M 18 q 0) k c := fun c => by
      unfold chF
      rw [ev 17 (by decide), ev 5 (by decide), ev 13 (by decide), e18]
    unfold wp_X0_areHeightsFit_L2
    refine ⟨fun h => absurd (by rw [hR'] at h; exact h) (nI_ge (a := k) (b := R) hk (by omega)), fun _ => ?_⟩
    refine up_loop2 (W := fun n x v M => wp_X0_areHeightsFit_L15 q o (nI k) _ Q n x v M) (fun j x M2 => M2 = M' ∧ x = rhF (vw M o) C (M 18 q 0) k j) C 0 M' ⟨rfl, rfl⟩ ?_ ?_
    · rintro n2 x M2 ⟨rfl, rfl⟩
      unfold wp_X0_areHeightsFit_L15
      refine ⟨fun _ => ?_, fun h => absurd (by rw [hC']; exact Int32.le_refl _) h⟩
      unfold wp_X0_areHeightsFit_L43
      rw [e3]
      refine ⟨fun h1 => ⟨vin (by omega) (by decide), fun M59 e59 => ?_⟩, fun h1 => hQ0 ⟨k, hk, h1⟩ _ hf⟩
      rw [s_nI, e59, hkk]
      refine ih _ ⟨fr1_set hf, fun r hr => ?_⟩
      rw [rd]
      by_cases hrk : r = k
      · subst hrk
        simp [h1]
      · simp [hrk]
        exact hb r (by omega)
    · rintro n2 j x M2 hj ⟨rfl, rfl⟩ ih2
      unfold wp_X0_areHeightsFit_L15
      refine ⟨fun h => absurd (by rw [hC'] at h; exact h) (nI_ge (a := j) (b := C) hj (by omega)), fun _ => sp_heightOfCell hC' hC6 (by omega) hj ?_⟩
      rw [s_nI, ech]
      exact ih2 _ _ ⟨rfl, rfl⟩
