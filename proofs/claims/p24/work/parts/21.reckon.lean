/-! reckon(): what follows from what is written. -/
def hidF (k t : Nat → Int32) : Nat → Int32
  | 0 => 0
  | c + 1 => if k c = 1 ∧ ¬ t c = 0 ∧ hidF k t c = 0 then 1 else 0
def sumF (v : Nat → Int32) : Nat → Int32
  | 0 => 0
  | n + 1 => sumF v n + v n
/-- a sheet's numbers: family, row, place -/
abbrev Vw : Type := Nat → Nat → Nat → Int32
def vw (M : Mem) (o : Nat) : Vw := fun f i j => M f o i j
def HID (V : Vw) (r c : Nat) : Int32 := if V 5 0 c = 1 then hidF (V 5 0) (V 15 r) c else 0
/-- a text's cell that counts for the widths: not hidden, not spanning -/
def shown (V : Vw) (C r c : Nat) : Prop := HID V r c = 0 ∧ ¬ (c + 1 < C ∧ ¬ HID V r (c + 1) = 0)
noncomputable def shB (V : Vw) (C r c : Nat) (a b : Int32) : Int32 := @ite _ (shown V C r c) (Classical.propDecidable _) a b
noncomputable def ltF (V : Vw) (C c : Nat) : Nat → Int32
  | 0 => V 6 0 c
  | n + 1 => shB V C n c (if ltF V C c n < V 14 n c then V 14 n c else ltF V C c n) (ltF V C c n)
noncomputable def lgF (V : Vw) (C c : Nat) : Nat → Int32
  | 0 => 0
  | n + 1 => shB V C n c (if lgF V C c n < V 13 n c then V 13 n c else lgF V C c n) (lgF V C c n)
def szF : Nat → Int32 → Int32 → Int32
  | 0, s, _ => s
  | k + 1, s, r => if r = 0 then s else szF k (s + 1) (r / 10)
def sizeF (n : Int32) : Int32 := szF 10 (if 0 ≤ n then 1 else 2) (n / 10)
def lnF (V : Vw) (c : Nat) : Nat → Int32
  | 0 => V 6 0 c
  | n + 1 => imax (imax (lnF V c n) (sizeF (V 12 n c))) (sizeF (sumF (fun r => V 12 r c) (n + 1)))
def min30 (x : Int32) : Int32 := if x < 30 then x else 30
noncomputable def LEA (V : Vw) (C R c : Nat) : Int32 := if V 5 0 c = 1 then ltF V C c R else lnF V c R
noncomputable def BST (V : Vw) (C R c : Nat) : Int32 := if V 5 0 c = 1 then imax (ltF V C c R) (min30 (lgF V C c R)) else lnF V c R
theorem shB_p {V : Vw} {C r c : Nat} {a b : Int32} (h : shown V C r c) : shB V C r c a b = a := if_pos h
theorem shB_n {V : Vw} {C r c : Nat} {a b : Int32} (h : ¬ shown V C r c) : shB V C r c a b = b := if_neg h
/-- reckonHidden -/
theorem sp_reckonHidden {o C R c : Nat} {M : Mem} {Q : Mem → Prop} (hR : M 1 o 0 5 = nI R) (hR30 : R ≤ 30) (hc : c < 6) (hz : ∀ r, r < R → 0 < c → M 5 o 0 (c - 1) = 1 → M 17 o r (c - 1) = hidF (M 5 o 0) (M 15 o r) (c - 1))
    (hQ : Q (fun f' o' i' j' => if f' = 17 ∧ o' = o ∧ i' < R ∧ j' = c then hidF (M 5 o 0) (M 15 o i') c else M f' o' i' j')) : wp_X3_reckonHidden o (nI c) M Q := by
  have hcc : (nI c).toNatClampNeg = c := ncl (by omega)
  have hv := vin (n := c) (N := 6) hc (by decide)
  have loop : ∀ t : Int32, (t = 1 ∧ 0 < c ∧ M 5 o 0 (c - 1) = 1) ∨ (t = 0 ∧ ¬ (0 < c ∧ M 5 o 0 (c - 1) = 1)) → wp_X3_reckonHidden_L21 o (nI c) Q t M := by
    intro t ht
    unfold wp_X3_reckonHidden_L21
    refine up_loop (W := fun n v M => wp_X3_reckonHidden_L24 o (nI c) t _ Q n v M) (fun k M' => M' = fun f' o' i' j' => if f' = 17 ∧ o' = o ∧ i' < k ∧ j' = c then hidF (M 5 o 0) (M 15 o i') c else M f' o' i' j') R M ?_ ?_ ?_
    · refine mem_ext fun f' o' i' j' => ?_
      simp
    · intro n M' hM'
      have hrr : M' 1 o 0 5 = nI R := by rw [hM']; simp [hR]
      unfold wp_X3_reckonHidden_L24
      refine ⟨fun _ => ?_, fun h => absurd (by rw [hrr]; exact Int32.le_refl _) h⟩
      rw [hM']; exact hQ
    · intro n k M' hk hM' ih
      have hrr : M' 1 o 0 5 = nI R := by rw [hM']; simp [hR]
      have hkk : (nI k).toNatClampNeg = k := ncl (by omega)
      have fin : ∀ x : Int32, zb x → x = hidF (M 5 o 0) (M 15 o k) c → wp_X3_reckonHidden_L79 o (nI c) (wp_X3_reckonHidden_L24 o (nI c) t (fun M => Q M) Q n) (fun M => Q M) Q t (nI k) x (nI c) o k M' := by
        intro x hx e
        unfold wp_X3_reckonHidden_L79
        refine ⟨hv, hx, fun M79 e79 => ?_⟩
        rw [s_nI]
        refine ih _ (mem_ext fun f' o' i' j' => ?_)
        simp only [e79, hM', rd, hcc, e]
        grind
      unfold wp_X3_reckonHidden_L24
      refine ⟨fun h => absurd (by rw [hrr] at h; exact h) (nI_ge (a := k) (b := R) hk (by omega)), fun _ => ⟨vin (by omega) (by decide), ?_⟩⟩
      rw [hkk]
      rcases ht with ⟨rfl, h0, h1⟩ | ⟨rfl, h0⟩
      · refine ⟨fun h => absurd h (by decide), fun _ => ?_⟩
        obtain ⟨d, rfl⟩ : ∃ d, c = d + 1 := ⟨c - 1, by omega⟩
        have hd : (nI (d + 1) - 1) = nI d := by rw [p_nI (by omega)]; rfl
        have hdd : (nI d).toNatClampNeg = d := ncl (by omega)
        have hvd := vin (n := d) (N := 6) (by omega) (by decide)
        have hkd : M 5 o 0 d = 1 := h1
        have hz1 := hz k hk h0 h1
        have hz1 : M 17 o k d = hidF (M 5 o 0) (M 15 o k) d := hz1
        have e15 : M' 15 o k d = M 15 o k d := by rw [hM']; simp
        have e17 : M' 17 o k d = M 17 o k d := by rw [hM']; simp
        rw [hd, hdd, e15, e17]
        refine ⟨hvd, fun h => ?_, fun h => ⟨hvd, fun h2 => ?_, fun h2 => ?_⟩⟩
        · unfold wp_X3_reckonHidden_L78
          exact fin 0 zb_0 (by simp [hidF, h])
        · exact fin 1 zb_1 (by rw [hz1] at h2; simp [hidF, h, hkd, h2])
        · unfold wp_X3_reckonHidden_L78
          exact fin 0 zb_0 (by rw [hz1] at h2; simp [hidF, h2])
      · refine ⟨fun _ => ?_, fun h => absurd rfl h⟩
        unfold wp_X3_reckonHidden_L78
        refine fin 0 zb_0 ?_
        cases c with
        | zero => rfl
        | succ d =>
          have : ¬ M 5 o 0 d = 1 := fun q => h0 ⟨by omega, q⟩
          simp [hidF, this]
  unfold wp_X3_reckonHidden
  by_cases h0 : 0 < c
  · refine ⟨fun h => absurd h (nI_nle h0 (by omega)), fun _ => ?_⟩
    have hd : (nI c - 1) = nI (c - 1) := p_nI h0
    have hdd : (nI (c - 1)).toNatClampNeg = c - 1 := ncl (by omega)
    rw [hd, hdd]
    refine ⟨vin (by omega) (by decide), fun h => loop 1 (Or.inl ⟨rfl, h0, h⟩), fun h => ?_⟩
    unfold wp_X3_reckonHidden_L20
    exact loop 0 (Or.inr ⟨rfl, fun q => h q.2⟩)
  · have e : c = 0 := by omega
    subst e
    refine ⟨fun _ => ?_, fun h => absurd (show nI 0 ≤ 0 from Int32.le_refl _) h⟩
    unfold wp_X3_reckonHidden_L20
    exact loop 0 (Or.inr ⟨rfl, fun q => h0 q.1⟩)
/-- reckonNumbers, of a column of numbers -/
theorem sp_reckonNumbers {o R c : Nat} {M : Mem} {Q : Mem → Prop} (hR : M 1 o 0 5 = nI R) (hR30 : R ≤ 30) (hc : c < 6) (hk0 : M 5 o 0 c = 0)
    (hQ : Q (fun f' o' i' j' => if f' = 16 ∧ o' = o ∧ i' < R ∧ j' = c then sumF (fun r => M 12 o r c) (i' + 1) else M f' o' i' j')) : wp_X3_reckonNumbers o (nI c) M Q := by
  have hcc : (nI c).toNatClampNeg = c := ncl (by omega)
  have hv := vin (n := c) (N := 6) hc (by decide)
  unfold wp_X3_reckonNumbers
  refine up_loop2 (W := fun n x v M => wp_X3_reckonNumbers_L4 o (nI c) _ Q n x v M) (fun k x M' => x = sumF (fun r => M 12 o r c) k ∧ M' = fun f' o' i' j' => if f' = 16 ∧ o' = o ∧ i' < k ∧ j' = c then sumF (fun r => M 12 o r c) (i' + 1) else M f' o' i' j') R 0 M ⟨rfl, ?_⟩ ?_ ?_
  · refine mem_ext fun f' o' i' j' => ?_
    simp
  · rintro n x M' ⟨-, hM'⟩
    have hrr : M' 1 o 0 5 = nI R := by rw [hM']; simp [hR]
    unfold wp_X3_reckonNumbers_L4
    refine ⟨fun _ => ?_, fun h => absurd (by rw [hrr]; exact Int32.le_refl _) h⟩
    rw [hM']; exact hQ
  · rintro n k x M' hk ⟨hx, hM'⟩ ih
    have hrr : M' 1 o 0 5 = nI R := by rw [hM']; simp [hR]
    have hkk : (nI k).toNatClampNeg = k := ncl (by omega)
    have e5 : M' 5 o 0 c = 0 := by rw [hM']; simp [hk0]
    have e12 : M' 12 o k c = M 12 o k c := by rw [hM']; simp
    unfold wp_X3_reckonNumbers_L4
    refine ⟨fun h => absurd (by rw [hrr] at h; exact h) (nI_ge (a := k) (b := R) hk (by omega)), fun _ => ⟨vin (by omega) (by decide), hv, ?_⟩⟩
    rw [hcc, hkk, e5, e12]
    refine ⟨fun _ => ⟨hv, hv, fun M96 e96 => ?_⟩, fun h => absurd rfl h⟩
    rw [s_nI]
    have es : x + M 12 o k c = sumF (fun r => M 12 o r c) (k + 1) := by rw [hx]; rfl
    refine ih _ _ ⟨es, mem_ext fun f' o' i' j' => ?_⟩
    simp only [e96, hM', rd, es]
    grind
/-- sizeOf -/
theorem i32_rng (x : Int32) : -2147483648 ≤ x.toInt ∧ x.toInt < 2147483648 := ⟨Int32.le_toInt x, Int32.toInt_lt x⟩
theorem tdiv10 (z : Int) : (z.tdiv 10).natAbs = z.natAbs / 10 := Int.natAbs_tdiv z 10
theorem div10 (x : Int32) : (x / 10).toInt = x.toInt.tdiv 10 := by
  have h := i32_rng x
  rw [Int32.toInt_div]
  have e : (10 : Int32).toInt = 10 := by decide
  rw [e]
  have h2 := tdiv10 x.toInt
  rw [Int.bmod_eq_of_le] <;> omega
theorem szloop {v0 : Int32} {M : Mem} {Q : Int32 → Mem → Prop} : ∀ (k : Nat) (s r : Int32), r.toInt.natAbs < 10 ^ k → Q (szF k s r) M → ∃ n, wp_X3_sizeOf_L15 v0 (fun v1 M => Q v1 M) Q n s r M := by
  intro k
  induction k with
  | zero =>
    intro s r h hQ
    refine ⟨1, ?_⟩
    unfold wp_X3_sizeOf_L15
    have e : r = 0 := Int32.toInt_inj.mp (by rw [show (0 : Int32).toInt = 0 from rfl]; simp at h; exact h)
    exact ⟨fun _ => hQ, fun h2 => absurd e h2⟩
  | succ k ih =>
    intro s r h hQ
    by_cases h0 : r = 0
    · refine ⟨1, ?_⟩
      unfold wp_X3_sizeOf_L15
      refine ⟨fun _ => ?_, fun h2 => absurd h0 h2⟩
      have : szF (k + 1) s r = s := by simp [szF, h0]
      rw [this] at hQ; exact hQ
    · have h1 : (r / 10).toInt.natAbs < 10 ^ k := by
        rw [div10, tdiv10]
        rw [Nat.pow_succ] at h
        exact Nat.div_lt_of_lt_mul (by rw [Nat.mul_comm]; exact h)
      have e : szF (k + 1) s r = szF k (s + 1) (r / 10) := by simp [szF, h0]
      rw [e] at hQ
      obtain ⟨n, hn⟩ := ih (s + 1) (r / 10) h1 hQ
      refine ⟨n + 1, ?_⟩
      unfold wp_X3_sizeOf_L15
      exact ⟨fun h2 => absurd h2 h0, fun _ => hn⟩
theorem sp_sizeOf {x : Int32} {M : Mem} {Q : Int32 → Mem → Prop} (hQ : Q (sizeF x) M) : wp_X3_sizeOf x M Q := by
  have h : (x / 10).toInt.natAbs < 10 ^ 10 := by
    rw [div10, tdiv10]
    have := i32_rng x
    omega
  unfold wp_X3_sizeOf
  unfold sizeF at hQ
  refine ⟨fun h0 => ?_, fun h0 => ?_⟩
  · rw [if_pos h0] at hQ
    exact szloop 10 1 (x / 10) h hQ
  · rw [if_neg h0] at hQ
    exact szloop 10 2 (x / 10) h hQ
/-- what measureText reads of who is hidden -/
def hidOK (M : Mem) (o C R : Nat) : Prop := ∀ r c, r < R → c < C → M 17 o r c = HID (vw M o) r c
theorem sp_measureText {o C R c : Nat} {M : Mem} {Q : Mem → Prop} (hC : M 1 o 0 0 = nI C) (hC6 : C ≤ 6) (hR : M 1 o 0 5 = nI R) (hR30 : R ≤ 30) (hc : c < C) (hh : hidOK M o C R)
    (hQ : Q (sM (sM M 9 o 0 c (ltF (vw M o) C c R)) 10 o 0 c (imax (ltF (vw M o) C c R) (min30 (lgF (vw M o) C c R))))) : wp_X3_measureText o (nI c) M Q := by
  have hcc : (nI c).toNatClampNeg = c := ncl (by omega)
  have hv := vin (n := c) (N := 6) (by omega) (by decide)
  unfold wp_X3_measureText
  refine ⟨hv, ?_⟩
  rw [hcc]
  refine up_loop3 (W := fun n x y v M => wp_X3_measureText_L12 o (nI c) _ Q n x y v M) (fun k x y M' => M' = M ∧ x = ltF (vw M o) C c k ∧ y = lgF (vw M o) C c k) R (M 6 o 0 c) 0 M ⟨rfl, rfl, rfl⟩ ?_ ?_
  · rintro n x y M' ⟨rfl, rfl, rfl⟩
    unfold wp_X3_measureText_L12
    refine ⟨fun _ => ?_, fun h => absurd (by rw [hR]; exact Int32.le_refl _) h⟩
    unfold wp_X3_measureText_L86
    rw [hcc]
    refine ⟨hv, fun M92 e92 => ⟨hv, fun M108 e108 => ?_⟩⟩
    rw [e108, e92]
    exact hQ
  · rintro n k x y M' hk ⟨rfl, hx, hy⟩ ih
    have hkk : (nI k).toNatClampNeg = k := ncl (by omega)
    have hvk := vin (n := k) (N := 30) (by omega) (by decide)
    have h17 := hh k c hk hc
    have nx : ∀ x' y', x' = ltF (vw M' o) C c (k + 1) → y' = lgF (vw M' o) C c (k + 1) → wp_X3_measureText_L80 o (nI c) (wp_X3_measureText_L12 o (nI c) (fun v2 v3 M => wp_X3_measureText_L86 o (nI c) Q v2 v3 M) Q n) (fun v2 v3 M => wp_X3_measureText_L86 o (nI c) Q v2 v3 M) Q x' y' (nI k) M' := by
      intro x' y' h1 h2
      unfold wp_X3_measureText_L80
      rw [s_nI]
      exact ih _ _ _ ⟨rfl, h1, h2⟩
    unfold wp_X3_measureText_L12
    refine ⟨fun h => absurd (by rw [hR] at h; exact h) (nI_ge (a := k) (b := R) hk (by omega)), fun _ => ⟨hvk, hv, ?_⟩⟩
    rw [hkk, hcc]
    refine ⟨fun h0 => sp_isSpanning hC hC6 (by omega) (by omega) ⟨fun hs => ⟨hvk, hv, hvk, hv, ?_⟩, fun hs => ?_⟩, fun h0 => ?_⟩
    · have hsh : shown (vw M' o) C k c := by
        refine ⟨by rw [← h17]; exact h0, fun q => ?_⟩
        unfold spv at hs
        rw [hh k (c + 1) hk q.1, if_pos q] at hs
        exact absurd hs (by decide)
      refine nx _ _ ?_ ?_
      · show _ = shB _ _ _ _ _ _
        rw [shB_p hsh, hx]; rfl
      · show _ = shB _ _ _ _ _ _
        rw [shB_p hsh, hy]; rfl
    · have hsh : ¬ shown (vw M' o) C k c := by
        intro q
        unfold spv at hs
        by_cases h1 : c + 1 < C
        · rw [hh k (c + 1) hk h1] at hs
          rw [if_neg q.2] at hs
          exact hs rfl
        · rw [if_neg (fun z => h1 z.1)] at hs
          exact hs rfl
      refine nx _ _ ?_ ?_
      · show _ = shB _ _ _ _ _ _
        rw [shB_n hsh, hx]
      · show _ = shB _ _ _ _ _ _
        rw [shB_n hsh, hy]
    · have hsh : ¬ shown (vw M' o) C k c := fun q => h0 (by rw [h17]; exact q.1)
      refine nx _ _ ?_ ?_
      · show _ = shB _ _ _ _ _ _
        rw [shB_n hsh, hx]
      · show _ = shB _ _ _ _ _ _
        rw [shB_n hsh, hy]
theorem sp_measureNumbers {o R c : Nat} {M : Mem} {Q : Mem → Prop} (hR : M 1 o 0 5 = nI R) (hR30 : R ≤ 30) (hc : c < 6) (hs : ∀ r, r < R → M 16 o r c = sumF (fun r => M 12 o r c) (r + 1))
    (hQ : Q (sM (sM M 9 o 0 c (lnF (vw M o) c R)) 10 o 0 c (lnF (vw M o) c R))) : wp_X3_measureNumbers o (nI c) M Q := by
  have hcc : (nI c).toNatClampNeg = c := ncl (by omega)
  have hv := vin (n := c) (N := 6) hc (by decide)
  unfold wp_X3_measureNumbers
  refine ⟨hv, ?_⟩
  rw [hcc]
  refine up_loop2 (W := fun n x v M => wp_X3_measureNumbers_L9 o (nI c) _ Q n x v M) (fun k x M' => M' = M ∧ x = lnF (vw M o) c k) R (M 6 o 0 c) M ⟨rfl, rfl⟩ ?_ ?_
  · rintro n x M' ⟨rfl, rfl⟩
    unfold wp_X3_measureNumbers_L9
    refine ⟨fun _ => ?_, fun h => absurd (by rw [hR]; exact Int32.le_refl _) h⟩
    unfold wp_X3_measureNumbers_L61
    rw [hcc]
    refine ⟨hv, fun M92 e92 => ⟨hv, fun M108 e108 => ?_⟩⟩
    rw [e108, e92]
    exact hQ
  · rintro n k x M' hk ⟨rfl, hx⟩ ih
    have hkk : (nI k).toNatClampNeg = k := ncl (by omega)
    have hvk := vin (n := k) (N := 30) (by omega) (by decide)
    unfold wp_X3_measureNumbers_L9
    refine ⟨fun h => absurd (by rw [hR] at h; exact h) (nI_ge (a := k) (b := R) hk (by omega)), fun _ => ⟨hvk, hv, ?_⟩⟩
    rw [hkk, hcc]
    refine sp_sizeOf ⟨hvk, hv, sp_sizeOf ?_⟩
    rw [s_nI]
    refine ih _ _ ⟨rfl, ?_⟩
    rw [hx, hs k hk]
    rfl
/-- what reckon() makes -/
noncomputable def rkM (M : Mem) (o C R : Nat) : Mem := fun f' o' i' j' =>
  if f' = 17 ∧ o' = o ∧ i' < R ∧ j' < C ∧ M 5 o 0 j' = 1 then hidF (M 5 o 0) (M 15 o i') j'
  else if f' = 16 ∧ o' = o ∧ i' < R ∧ j' < C ∧ ¬ M 5 o 0 j' = 1 then sumF (fun r => M 12 o r j') (i' + 1)
  else if f' = 9 ∧ o' = o ∧ i' = 0 ∧ j' < C then LEA (vw M o) C R j'
  else if f' = 10 ∧ o' = o ∧ i' = 0 ∧ j' < C then BST (vw M o) C R j'
  else M f' o' i' j'
/-- the functions of a sheet's numbers see only what is written -/
def sameW (V V' : Vw) (C R : Nat) : Prop := (∀ c, c < C → V 5 0 c = V' 5 0 c ∧ V 6 0 c = V' 6 0 c) ∧ ∀ r, r < R → ∀ c, c < C → V 12 r c = V' 12 r c ∧ V 13 r c = V' 13 r c ∧ V 14 r c = V' 14 r c ∧ V 15 r c = V' 15 r c
theorem hidF_c {k k' t t' : Nat → Int32} : ∀ c, (∀ j, j < c → k j = k' j ∧ t j = t' j) → hidF k t c = hidF k' t' c
  | 0, _ => rfl
  | c + 1, h => by
    have ih := hidF_c c (fun j hj => h j (by omega))
    have h1 := h c (by omega)
    simp only [hidF, ih, h1.1, h1.2]
theorem HID_c {V V' : Vw} {C R r c : Nat} (h : sameW V V' C R) (hr : r < R) (hc : c < C) : HID V r c = HID V' r c := by
  unfold HID
  rw [(h.1 c hc).1, hidF_c c (fun j hj => ⟨(h.1 j (by omega)).1, (h.2 r hr j (by omega)).2.2.2⟩)]
theorem shown_c {V V' : Vw} {C R r c : Nat} (h : sameW V V' C R) (hr : r < R) (hc : c < C) : shown V C r c ↔ shown V' C r c := by
  unfold shown
  rw [HID_c h hr hc]
  by_cases h1 : c + 1 < C
  · rw [HID_c h hr h1]
  · simp [h1]
theorem shB_c {V V' : Vw} {C R r c : Nat} (h : sameW V V' C R) (hr : r < R) (hc : c < C) {a a' b b' : Int32} (ha : a = a') (hb : b = b') : shB V C r c a b = shB V' C r c a' b' := by
  subst ha; subst hb
  by_cases q : shown V C r c
  · rw [shB_p q, shB_p ((shown_c h hr hc).mp q)]
  · rw [shB_n q, shB_n (fun z => q ((shown_c h hr hc).mpr z))]
theorem ltF_c {V V' : Vw} {C R c : Nat} (h : sameW V V' C R) (hc : c < C) : ∀ n, n ≤ R → ltF V C c n = ltF V' C c n
  | 0, _ => (h.1 c hc).2
  | n + 1, hn => by
    have ih := ltF_c h hc n (by omega)
    show shB _ _ _ _ _ _ = shB _ _ _ _ _ _
    rw [ih, ((h.2 n (by omega) c hc).2.2.1)]
    exact shB_c h (by omega) hc rfl rfl
theorem lgF_c {V V' : Vw} {C R c : Nat} (h : sameW V V' C R) (hc : c < C) : ∀ n, n ≤ R → lgF V C c n = lgF V' C c n
  | 0, _ => rfl
  | n + 1, hn => by
    have ih := lgF_c h hc n (by omega)
    show shB _ _ _ _ _ _ = shB _ _ _ _ _ _
    rw [ih, ((h.2 n (by omega) c hc).2.1)]
    exact shB_c h (by omega) hc rfl rfl
theorem sumF_c {v v' : Nat → Int32} : ∀ n, (∀ r, r < n → v r = v' r) → sumF v n = sumF v' n
  | 0, _ => rfl
  | n + 1, h => by simp only [sumF, sumF_c n (fun r hr => h r (by omega)), h n (by omega)]
theorem lnF_c {V V' : Vw} {C R c : Nat} (h : sameW V V' C R) (hc : c < C) : ∀ n, n ≤ R → lnF V c n = lnF V' c n
  | 0, _ => (h.1 c hc).2
  | n + 1, hn => by
    have ih := lnF_c h hc n (by omega)
    have e := sumF_c (v := fun r => V 12 r c) (v' := fun r => V' 12 r c) (n + 1) (fun r hr => (h.2 r (by omega) c hc).1)
    simp only [lnF, ih, e, ((h.2 n (by omega) c hc).1)]
theorem LEA_c {V V' : Vw} {C R c : Nat} (h : sameW V V' C R) (hc : c < C) : LEA V C R c = LEA V' C R c := by
  unfold LEA
  rw [(h.1 c hc).1, ltF_c h hc R (Nat.le_refl _), lnF_c h hc R (Nat.le_refl _)]
theorem BST_c {V V' : Vw} {C R c : Nat} (h : sameW V V' C R) (hc : c < C) : BST V C R c = BST V' C R c := by
  unfold BST
  rw [(h.1 c hc).1, ltF_c h hc R (Nat.le_refl _), lgF_c h hc R (Nat.le_refl _), lnF_c h hc R (Nat.le_refl _)]
theorem sp_reckon {o C R : Nat} {M : Mem} {Q : Mem → Prop} (hC : M 1 o 0 0 = nI C) (hC6 : C ≤ 6) (hR : M 1 o 0 5 = nI R) (hR30 : R ≤ 30) (hk : ∀ c, c < C → M 5 o 0 c = 0 ∨ M 5 o 0 c = 1) (h17 : ∀ r c, r < R → c < C → ¬ M 5 o 0 c = 1 → M 17 o r c = 0)
    (hQ : Q (rkM M o C R)) : wp_X3_reckon o M Q := by
  unfold wp_X3_reckon
  refine up_loop (W := fun n v M => wp_X3_reckon_L2 o _ Q n v M) (fun k M' => M' = fun f' o' i' j' => if f' = 17 ∧ o' = o ∧ i' < R ∧ j' < k ∧ M 5 o 0 j' = 1 then hidF (M 5 o 0) (M 15 o i') j' else if f' = 16 ∧ o' = o ∧ i' < R ∧ j' < k ∧ ¬ M 5 o 0 j' = 1 then sumF (fun r => M 12 o r j') (i' + 1) else M f' o' i' j') C M ?_ ?_ ?_
  · refine mem_ext fun f' o' i' j' => ?_
    simp
  · intro n M' hM'
    have hcc : M' 1 o 0 0 = nI C := by rw [hM']; simp [hC]
    unfold wp_X3_reckon_L2
    refine ⟨fun _ => ?_, fun h => absurd (by rw [hcc]; exact Int32.le_refl _) h⟩
    unfold wp_X3_reckon_L39
    have same : ∀ M2 : Mem, (∀ f i j, (f = 5 ∨ f = 6 ∨ f = 12 ∨ f = 13 ∨ f = 14 ∨ f = 15) → M2 f o i j = M f o i j) → sameW (vw M2 o) (vw M o) C R := fun M2 h => ⟨fun c _ => ⟨h 5 0 c (by simp), h 6 0 c (by simp)⟩, fun r _ c _ => ⟨h 12 r c (by simp), h 13 r c (by simp), h 14 r c (by simp), h 15 r c (by simp)⟩⟩
    refine up_loop (W := fun n v M => wp_X3_reckon_L41 o _ Q n v M) (fun k M2 => M2 = fun f' o' i' j' => if f' = 9 ∧ o' = o ∧ i' = 0 ∧ j' < k then LEA (vw M o) C R j' else if f' = 10 ∧ o' = o ∧ i' = 0 ∧ j' < k then BST (vw M o) C R j' else M' f' o' i' j') C M' ?_ ?_ ?_
    · refine mem_ext fun f' o' i' j' => ?_
      simp
    · intro n M2 hM2
      have hcc2 : M2 1 o 0 0 = nI C := by rw [hM2]; simp [hcc]
      unfold wp_X3_reckon_L41
      refine ⟨fun _ => ?_, fun h => absurd (by rw [hcc2]; exact Int32.le_refl _) h⟩
      have e : M2 = rkM M o C R := by
        refine mem_ext fun f' o' i' j' => ?_
        simp only [hM2, hM', rkM]
        grind
      show Q M2
      rw [e]; exact hQ
    · intro n k M2 hkC hM2 ih
      have hcc2 : M2 1 o 0 0 = nI C := by rw [hM2]; simp [hcc]
      have hrr2 : M2 1 o 0 5 = nI R := by rw [hM2, hM']; simp [hR]
      have e5 : ∀ c, M2 5 o 0 c = M 5 o 0 c := fun c => by rw [hM2, hM']; simp
      have hsw : sameW (vw M2 o) (vw M o) C R := same M2 (fun f i j hf => by rw [hM2, hM']; rcases hf with rfl | rfl | rfl | rfl | rfl | rfl <;> simp)
      have hkk : (nI k).toNatClampNeg = k := ncl (by omega)
      have nx : ∀ M3 : Mem, M3 = sM (sM M2 9 o 0 k (LEA (vw M o) C R k)) 10 o 0 k (BST (vw M o) C R k) → wp_X3_reckon_L72 o (wp_X3_reckon_L41 o (fun M => Q M) Q n) (fun M => Q M) Q (nI k) M3 := by
        intro M3 e3
        unfold wp_X3_reckon_L72
        rw [s_nI]
        refine ih _ (mem_ext fun f' o' i' j' => ?_)
        simp only [e3, hM2, rd]
        grind
      unfold wp_X3_reckon_L41
      refine ⟨fun h => absurd (by rw [hcc2] at h; exact h) (nI_ge (a := k) (b := C) hkC (by omega)), fun _ => ⟨vin (by omega) (by decide), ?_⟩⟩
      rw [hkk, e5]
      refine ⟨fun h1 => ?_, fun h1 => ?_⟩
      · refine sp_measureText hcc2 hC6 hrr2 hR30 hkC (fun r c hr hc => ?_) ?_
        · rw [HID_c hsw hr hc]
          unfold HID
          rw [hM2, hM']
          by_cases q : M 5 o 0 c = 1
          · have q2 : vw M o 5 0 c = 1 := q
            simp [q2, q, hr, hc]; rfl
          · have q2 : ¬ vw M o 5 0 c = 1 := q
            simp [q2, q, hr, hc, h17 r c hr hc q]
        · rw [ltF_c hsw hkC R (Nat.le_refl _), lgF_c hsw hkC R (Nat.le_refl _)]
          refine nx _ ?_
          have q2 : vw M o 5 0 k = 1 := h1
          simp only [LEA, BST, if_pos q2]
      · refine sp_measureNumbers hrr2 hR30 (by omega) (fun r hr => ?_) ?_
        · rw [hM2, hM']; simp [h1, hr, hkC]
        · rw [lnF_c hsw hkC R (Nat.le_refl _)]
          refine nx _ ?_
          have q2 : ¬ vw M o 5 0 k = 1 := h1
          simp only [LEA, BST, if_neg q2]
  · intro n k M' hkC hM' ih
    have hcc : M' 1 o 0 0 = nI C := by rw [hM']; simp [hC]
    have hrr : M' 1 o 0 5 = nI R := by rw [hM']; simp [hR]
    have e5 : M' 5 o 0 = M 5 o 0 := by funext c; rw [hM']; simp
    have e15 : ∀ r, M' 15 o r = M 15 o r := fun r => by funext c; rw [hM']; simp
    have hkk : (nI k).toNatClampNeg = k := ncl (by omega)
    unfold wp_X3_reckon_L2
    refine ⟨fun h => absurd (by rw [hcc] at h; exact h) (nI_ge (a := k) (b := C) hkC (by omega)), fun _ => ⟨vin (by omega) (by decide), ?_⟩⟩
    rw [hkk, e5]
    refine ⟨fun h1 => ?_, fun h1 => ?_⟩
    · refine sp_reckonHidden (C := 0) hrr hR30 (by omega) (fun r hr h0 hd => ?_) ?_
      · rw [e5] at hd ⊢
        rw [e15, hM']
        simp [hd, hr, show k - 1 < k by omega]
      · unfold wp_X3_reckon_L33
        rw [s_nI]
        refine ih _ (mem_ext fun f' o' i' j' => ?_)
        simp only [e5, e15, hM']
        grind
    · have h0 : M 5 o 0 k = 0 := (hk k hkC).elim id (fun q => absurd q h1)
      have e12 : (fun r => M' 12 o r k) = fun r => M 12 o r k := by funext r; rw [hM']; simp
      refine sp_reckonNumbers hrr hR30 (by omega) (by rw [e5]; exact h0) ?_
      unfold wp_X3_reckon_L33
      rw [s_nI, e12]
      refine ih _ (mem_ext fun f' o' i' j' => ?_)
      simp only [hM']
      by_cases z : j' = k
      · subst z; grind
      · grind
