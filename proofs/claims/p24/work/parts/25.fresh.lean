/-! The table: what is written stays, what follows is laid out. -/
theorem agF_pg {nt h : Nat → Nat} {kp : Nat → Bool} {R rm : Nat} : ∀ (k : Nat) (a : AS), (agF nt h kp R rm k a).1 ≤ a.1 + k
  | 0, a => Nat.le_refl _
  | k + 1, a => by
    by_cases q : a.2.1 < R ∨ a.2.2.1 < a.2.1
    · have e : agF nt h kp R rm (k + 1) a = agF nt h kp R rm k (asN nt h kp R rm a) := by simp only [agF, if_pos q]
      have := agF_pg (nt := nt) (h := h) (kp := kp) (R := R) (rm := rm) k (asN nt h kp R rm a)
      have e1 : (asN nt h kp R rm a).1 = a.1 + 1 := rfl
      rw [e]; omega
    · have e : agF nt h kp R rm (k + 1) a = a := by simp only [agF, if_neg q]
      rw [e]; omega
theorem PAG_pg {nt h : Nat → Nat} {kp : Nat → Bool} {R rm : Nat} : (PAG nt h kp R rm).1 ≤ 60 := by
  have := agF_pg (nt := nt) (h := h) (kp := kp) (R := R) (rm := rm) 60 as0
  exact this
theorem LAYF_some {Y : Vw} {C R : Nat} {w : Int32} {rm : Nat} {wd : Nat → Int32} {a : AS} (h : LAYF Y C R w rm = some (wd, a)) :
    WID (cut0 C (Y 10 0)) (cut0 C (Y 9 0)) C R w = some wd ∧ (∀ r, r < R → rhF Y C wd r C ≤ nI rm) ∧ a = PAG (ntY Y R) (hY Y C R wd) (kpY Y R) R rm := by
  unfold LAYF at h
  cases hW : WID (cut0 C (Y 10 0)) (cut0 C (Y 9 0)) C R w with
  | none => rw [hW] at h; cases h
  | some wd' =>
    rw [hW] at h
    by_cases z : ∀ r, r < R → rhF Y C wd' r C ≤ nI rm
    · have h : (if ∀ r, r < R → rhF Y C wd' r C ≤ nI rm then some (wd', PAG (ntY Y R) (hY Y C R wd') (kpY Y R) R rm) else none) = some (wd, a) := h
      rw [if_pos z] at h
      cases h
      exact ⟨rfl, z, rfl⟩
    · have h : (if ∀ r, r < R → rhF Y C wd' r C ≤ nI rm then some (wd', PAG (ntY Y R) (hY Y C R wd') (kpY Y R) R rm) else none) = some (wd, a) := h
      rw [if_neg z] at h
      cases h
theorem LAYF_pg {Y : Vw} {C R : Nat} {w : Int32} {rm : Nat} {wd : Nat → Int32} {a : AS} (h : LAYF Y C R w rm = some (wd, a)) : a.1 ≤ 60 := by
  rw [(LAYF_some h).2.2]; exact PAG_pg
theorem LYS_k {M M' : Mem} {q : Nat} {Y : Vw} {C R : Nat} {x : Option ((Nat → Int32) × AS)} (h : LYS M q Y C R x) (hk : ∀ f, (f = 3 ∨ (18 ≤ f ∧ f ≤ 26)) → M' f q = M f q) : LYS M' q Y C R x := by
  have k3 := hk 3 (Or.inl rfl)
  cases x with
  | none =>
    show M' 3 q 0 0 = 0 ∧ M' 3 q 0 6 = 0
    rw [k3]; exact h
  | some p =>
    obtain ⟨wd, a⟩ := p
    show M' 3 q 0 0 = 1 ∧ (∀ j, j < C → M' 18 q 0 j = wd j) ∧ (∀ r, r < R → M' 19 q 0 r = rhF Y C wd r C) ∧ asM M' q a
    unfold asM
    rw [k3, hk 18 (by omega), hk 19 (by omega), hk 20 (by omega), hk 21 (by omega), hk 22 (by omega), hk 23 (by omega), hk 24 (by omega), hk 25 (by omega), hk 26 (by omega)]
    exact h
theorem LYS_y {M : Mem} {q : Nat} {Y Y' : Vw} {C R : Nat} {x : Option ((Nat → Int32) × AS)} (h : LYS M q Y C R x) (hs : sameY Y Y' C R) : LYS M q Y' C R x := by
  cases x with
  | none => exact h
  | some p =>
    obtain ⟨wd, a⟩ := p
    refine ⟨h.1, h.2.1, fun r hr => ?_, h.2.2.2⟩
    rw [h.2.2.1 r hr]
    exact rhF_c (fun c hc => (hs.1 c hc).1) (fun c hc => ((hs.2 r hr).2 c hc).2) (fun c hc => ((hs.2 r hr).2 c hc).1) (fun _ _ => rfl) C (Nat.le_refl _)
/-- which of the two is taken -/
def trn : Option ((Nat → Int32) × AS) → Option ((Nat → Int32) × AS) → Int32
  | _, none => 0
  | none, some _ => 1
  | some a, some b => if b.2.1 < a.2.1 then 1 else 0
/-- what a setting's arranging leaves as it is -/
def frS (t : Nat) (M M' : Mem) : Prop := ∀ f' o', ¬ ((f' = 2 ∧ o' = t) ∨ ((o' = 2 * t ∨ o' = 2 * t + 1) ∧ (f' = 3 ∨ (18 ≤ f' ∧ f' ≤ 26)))) → M' f' o' = M f' o'
theorem sameY_of {M M' : Mem} {o C R : Nat} (h : ∀ f, (f = 4 ∨ f = 5 ∨ f = 9 ∨ f = 10 ∨ f = 13 ∨ f = 17) → M' f o = M f o) : sameY (vw M' o) (vw M o) C R := by
  have e : ∀ f, (f = 4 ∨ f = 5 ∨ f = 9 ∨ f = 10 ∨ f = 13 ∨ f = 17) → vw M' o f = vw M o f := fun f hf => by
    show (fun i j => M' f o i j) = fun i j => M f o i j
    rw [h f hf]
  refine ⟨fun c hc => ⟨?_, ?_, ?_⟩, fun r hr => ⟨⟨?_, ?_⟩, fun c hc => ⟨?_, ?_⟩⟩⟩ <;> rw [e _ (by decide)]
theorem sp_setArrange {t o C R W H : Nat} {M : Mem} {Q : Mem → Prop} (ht : t < 2) (hC : M 1 o 0 0 = nI C) (hC6 : C ≤ 6) (hR : M 1 o 0 5 = nI R) (hR30 : R ≤ 30) (hW : 3 ≤ W) (hW2 : W ≤ 60) (hH : 3 ≤ H) (hH2 : H ≤ 60)
    (hnt : ∀ r, r < R → 0 ≤ M 4 o r 4 ∧ M 4 o r 4 ≤ 5)
    (hQ : ∀ M', LYS M' (2 * t) (vw M o) C R (LAYF (vw M o) C R (nI W) (H - 3)) → LYS M' (2 * t + 1) (vw M o) C R (LAYF (vw M o) C R (nI H) (W - 3)) → M' 2 t 0 2 = trn (LAYF (vw M o) C R (nI W) (H - 3)) (LAYF (vw M o) C R (nI H) (W - 3)) → frS t M M' → Q M') : wp_X2_arrange t o (nI W) (nI H) M Q := by
  unfold wp_X2_arrange
  refine sp_arrange hC hC6 hR hR30 hH hH2 hnt (fun M7 h7 f7 => ?_)
  have s7 : sameY (vw M7 o) (vw M o) C R := sameY_of (fun f hf => f7 f o (by omega))
  refine sp_arrange (by rw [f7 1 o (by omega)]; exact hC) hC6 (by rw [f7 1 o (by omega)]; exact hR) hR30 hW hW2 (fun r hr => by rw [f7 4 o (by omega)]; exact hnt r hr) (fun M17 h17 f17 => ?_)
  rw [LAYF_c s7] at h17
  have h17 := LYS_y h17 s7
  have h7 : LYS M17 (2 * t) (vw M o) C R (LAYF (vw M o) C R (nI W) (H - 3)) := LYS_k h7 (fun f hf => f17 f (2 * t) (by omega))
  have F : ∀ f' o', ¬ ((o' = 2 * t ∨ o' = 2 * t + 1) ∧ (f' = 3 ∨ (18 ≤ f' ∧ f' ≤ 26))) → M17 f' o' = M f' o' := fun f' o' hn => (f17 f' o' (by omega)).trans (f7 f' o' (by omega))
  have fin : ∀ (x : Int32) (M85 : Mem), x = trn (LAYF (vw M o) C R (nI W) (H - 3)) (LAYF (vw M o) C R (nI H) (W - 3)) → M85 = sM M17 2 t 0 2 x → Q M85 := by
    intro x M85 ex e85
    have k85 : ∀ f' o', ¬ (f' = 2 ∧ o' = t) → M85 f' o' = M17 f' o' := fun f' o' hn => by rw [e85]; exact fr1_set fr1_rf f' o' hn
    refine hQ M85 (LYS_k h7 (fun f hf => k85 f _ (by omega))) (LYS_k h17 (fun f hf => k85 f _ (by omega))) ?_ (fun f' o' hn => (k85 f' o' (by omega)).trans (F f' o' (by omega)))
    rw [e85, rd, ex]; simp
  have tail : ∀ (x : Int32), (x = 0 ∨ x = 1) → ((x = 0) → trn (LAYF (vw M o) C R (nI W) (H - 3)) (LAYF (vw M o) C R (nI H) (W - 3)) = if M17 3 (2 * t + 1) 0 0 = 0 then 0 else 1) → (x = 1 → trn (LAYF (vw M o) C R (nI W) (H - 3)) (LAYF (vw M o) C R (nI H) (W - 3)) = 0) → wp_X2_arrange_L62 t o (nI W) (nI H) Q x M17 := by
    intro x hx h0 h1
    unfold wp_X2_arrange_L62
    refine ⟨fun z M85 e85 => fin 0 M85 ?_ e85, fun z => ⟨fun y M85 e85 => fin 1 M85 ?_ e85, fun y M85 e85 => fin 0 M85 ?_ e85⟩⟩
    · rcases hx with q | q
      · rw [h0 q, if_pos z]
      · rw [h1 q]
    · rw [h0 y, if_neg z]
    · rw [h1 (hx.resolve_left y)]
  have one0 : ¬ (1 : Int32) = 0 := by decide
  cases eu : LAYF (vw M o) C R (nI W) (H - 3) with
  | none =>
    rw [eu] at h7 tail
    refine ⟨fun _ => ?_, fun z => absurd h7.1 z⟩
    unfold wp_X2_arrange_L61
    refine tail 0 (Or.inl rfl) (fun _ => ?_) (fun z => absurd z (by decide))
    cases et : LAYF (vw M o) C R (nI H) (W - 3) with
    | none => rw [et] at h17; rw [h17.1]; rfl
    | some b => rw [et] at h17; rw [h17.1, if_neg one0]; rfl
  | some a =>
    have pa := LAYF_pg (wd := a.1) (a := a.2) eu
    rw [eu] at h7 tail
    refine ⟨fun z => absurd (h7.1.symm.trans z) one0, fun _ => ?_⟩
    cases et : LAYF (vw M o) C R (nI H) (W - 3) with
    | none =>
      rw [et] at h17 tail
      refine ⟨fun _ => ?_, fun z => absurd h17.1 z⟩
      unfold wp_X2_arrange_L57
      exact tail 1 (Or.inr rfl) (fun z => absurd z (by decide)) (fun _ => rfl)
    | some b =>
      have pb := LAYF_pg (wd := b.1) (a := b.2) et
      rw [et] at h17 tail
      refine ⟨fun z => absurd (h17.1.symm.trans z) one0, fun _ => ?_⟩
      have e1 : M17 3 (2 * t) 0 6 = nI a.2.1 := h7.2.2.2.1
      have e2 : M17 3 (2 * t + 1) 0 6 = nI b.2.1 := h17.2.2.2.1
      rw [e1, e2, nI_ltI (by omega) (by omega)]
      refine ⟨fun z => ?_, fun z => ?_⟩
      · unfold wp_X2_arrange_L61
        refine tail 0 (Or.inl rfl) (fun _ => ?_) (fun z => absurd z (by decide))
        rw [h17.1, if_neg one0]
        exact if_pos z
      · unfold wp_X2_arrange_L57
        exact tail 1 (Or.inr rfl) (fun z => absurd z (by decide)) (fun _ => if_neg z)
/-- what is written of a table: C columns, R rows, paper W by H -/
def Inv (C R W H : Nat) (M : Mem) : Prop :=
  (M 1 0 0 0 = nI C ∧ C ≤ 6 ∧ M 1 0 0 5 = nI R ∧ R ≤ 30) ∧ (M 0 0 0 2 = nI W ∧ 10 ≤ W ∧ W ≤ 60 ∧ M 0 0 0 3 = nI H ∧ 10 ≤ H ∧ H ≤ 60 ∧ zb (M 0 0 0 4)) ∧
  (∀ c, c < C → (M 5 0 0 c = 0 ∨ M 5 0 0 c = 1) ∧ 1 ≤ M 6 0 0 c ∧ M 6 0 0 c ≤ 12) ∧
  (∀ r, r < 30 → (0 ≤ M 4 0 r 4 ∧ M 4 0 r 4 ≤ 5) ∧ zb (M 4 0 r 5) ∧ ∀ c, c < 6 → -9999 ≤ M 12 0 r c ∧ M 12 0 r c ≤ 9999) ∧
  (∀ r, r < 30 → ∀ c, c < 6 → 0 ≤ M 13 0 r c ∧ M 13 0 r c ≤ 200 ∧ 0 ≤ M 14 0 r c ∧ M 14 0 r c ≤ 12 ∧ zb (M 15 0 r c)) ∧
  (∀ o, o < 2 → ∀ r, r < 30 → ∀ c, c < 6 → ¬ (c < C ∧ M 5 0 0 c = 1) → M 17 o r c = 0)
/-- the sheet is reckoned -/
def RKD (C R : Nat) (M : Mem) : Prop :=
  (∀ r, r < R → ∀ c, c < C → (M 5 0 0 c = 1 → M 17 0 r c = hidF (M 5 0 0) (M 15 0 r) c) ∧ (¬ M 5 0 0 c = 1 → M 16 0 r c = sumF (fun i => M 12 0 i c) (r + 1))) ∧ ∀ c, c < C → M 9 0 0 c = LEA (vw M 0) C R c ∧ M 10 0 0 c = BST (vw M 0) C R c
def upL (C R W H : Nat) (M : Mem) : Option ((Nat → Int32) × AS) := LAYF (vw M 0) C R (nI W) (H - 3)
def tuL (C R W H : Nat) (M : Mem) : Option ((Nat → Int32) × AS) := LAYF (vw M 0) C R (nI H) (W - 3)
def Fresh (C R W H : Nat) (M : Mem) : Prop :=
  M 0 0 0 4 = 0 ∧ RKD C R M ∧ LYS M 0 (vw M 0) C R (upL C R W H M) ∧ LYS M 1 (vw M 0) C R (tuL C R W H M) ∧ M 2 0 0 2 = trn (upL C R W H M) (tuL C R W H M)
/-- the invariant: what is not stale is laid out -/
def Tab (C R W H : Nat) (M : Mem) : Prop := Inv C R W H M ∧ (M 0 0 0 4 = 0 → Fresh C R W H M)
/-- the same is written -/
def SW (M M' : Mem) : Prop := (∀ f, (f = 1 ∨ f = 4 ∨ f = 5 ∨ f = 6 ∨ f = 12 ∨ f = 13 ∨ f = 14 ∨ f = 15 ∨ 27 ≤ f) → M' f 0 = M f 0) ∧ M' 0 0 0 2 = M 0 0 0 2 ∧ M' 0 0 0 3 = M 0 0 0 3
theorem SW_rf {M : Mem} : SW M M := ⟨fun _ _ => rfl, rfl, rfl⟩
theorem SW_tr {M M1 M2 : Mem} (h : SW M M1) (h2 : SW M1 M2) : SW M M2 := ⟨fun f hf => (h2.1 f hf).trans (h.1 f hf), h2.2.1.trans h.2.1, h2.2.2.trans h.2.2⟩
theorem Inv_SW {C R W H : Nat} {M M' : Mem} (h : Inv C R W H M) (hs : SW M M') (h4 : zb (M' 0 0 0 4)) (h17 : ∀ o, o < 2 → ∀ r, r < 30 → ∀ c, c < 6 → ¬ (c < C ∧ M 5 0 0 c = 1) → M' 17 o r c = 0) : Inv C R W H M' := by
  obtain ⟨a1, a2, a3, a4, a5, a6⟩ := h
  refine ⟨?_, ?_, ?_, ?_, ?_, ?_⟩
  · rw [hs.1 1 (by decide)]; exact a1
  · rw [hs.2.1, hs.2.2]; exact ⟨a2.1, a2.2.1, a2.2.2.1, a2.2.2.2.1, a2.2.2.2.2.1, a2.2.2.2.2.2.1, h4⟩
  · rw [hs.1 5 (by decide), hs.1 6 (by decide)]; exact a3
  · rw [hs.1 4 (by decide), hs.1 12 (by decide)]; exact a4
  · rw [hs.1 13 (by decide), hs.1 14 (by decide), hs.1 15 (by decide)]; exact a5
  · rw [hs.1 5 (by decide)]; exact h17
/-- refresh() -/
theorem sp_refresh {C R W H : Nat} {M : Mem} {Q : Mem → Prop} (h : Tab C R W H M) (hQ : ∀ M', Inv C R W H M' → Fresh C R W H M' → SW M M' → (M 0 0 0 4 = 0 → M' = M) → Q M') : wp_X4_refresh M Q := by
  obtain ⟨hI, hF⟩ := h
  have hI2 := hI
  obtain ⟨a1, a2, a3, a4, a5, a6⟩ := hI2
  unfold wp_X4_refresh
  refine ⟨fun h0 => hQ M hI (hF h0) SW_rf (fun _ => rfl), fun h0 => ?_⟩
  refine sp_reckon a1.1 a1.2.1 a1.2.2.1 a1.2.2.2 (fun c hc => (a3 c hc).1) (fun r c hr hc hk => a6 0 (by decide) r (by omega) c (by omega) (fun z => hk z.2)) ?_
  have e02 : rkM M 0 C R 0 0 0 2 = nI W := by simp [rkM, a2.1]
  have e03 : rkM M 0 C R 0 0 0 3 = nI H := by simp [rkM, a2.2.2.2.1]
  rw [e02, e03]
  refine sp_setArrange (by decide) (by simp [rkM, a1.1]) a1.2.1 (by simp [rkM, a1.2.2.1]) a1.2.2.2 (by omega) a2.2.2.1 (by omega) a2.2.2.2.2.2.1 (fun r hr => by simpa [rkM] using (a4 r (by omega)).1) (fun M30 hu ht htr hfr M35 e35 => ?_)
  have k35 : ∀ f' o', ¬ (f' = 0 ∧ o' = 0) → M35 f' o' = M30 f' o' := fun f' o' hn => by rw [e35]; exact fr1_set fr1_rf f' o' hn
  have kk : ∀ f' o', ¬ ((f' = 0 ∧ o' = 0) ∨ (f' = 2 ∧ o' = 0) ∨ ((o' = 0 ∨ o' = 1) ∧ (f' = 3 ∨ (18 ≤ f' ∧ f' ≤ 26)))) → M35 f' o' = rkM M 0 C R f' o' := fun f' o' hn => (k35 f' o' (by omega)).trans (hfr f' o' (by omega))
  have sw : SW M M35 := by
    refine ⟨fun f hf => ?_, ?_, ?_⟩
    · rw [kk f 0 (by omega)]
      funext i j
      have h1 : ¬ f = 17 := by omega
      have h2 : ¬ f = 16 := by omega
      have h3 : ¬ f = 9 := by omega
      have h4 : ¬ f = 10 := by omega
      simp [rkM, h1, h2, h3, h4]
    · rw [e35, rd]; simp; rw [hfr 0 0 (by omega)]; simp [rkM]
    · rw [e35, rd]; simp; rw [hfr 0 0 (by omega)]; simp [rkM]
  have z4 : M35 0 0 0 4 = 0 := by rw [e35, rd]; simp
  have hI3 : Inv C R W H M35 := Inv_SW hI sw (Or.inl z4) (fun o ho r hr c hc hn => by
    rw [kk 17 o (by omega)]
    by_cases z : o = 0 ∧ r < R ∧ c < C ∧ M 5 0 0 c = 1
    · exact absurd ⟨z.2.2.1, z.2.2.2⟩ hn
    · have : rkM M 0 C R 17 o r c = M 17 o r c := by simp [rkM, z]
      rw [this]; exact a6 o ho r hr c hc hn)
  have sV : sameW (vw M35 0) (vw M 0) C R := ⟨fun c _ => ⟨by show M35 5 0 0 c = M 5 0 0 c; rw [sw.1 5 (by decide)], by show M35 6 0 0 c = M 6 0 0 c; rw [sw.1 6 (by decide)]⟩, fun r _ c _ => ⟨by show M35 12 0 r c = M 12 0 r c; rw [sw.1 12 (by decide)], by show M35 13 0 r c = M 13 0 r c; rw [sw.1 13 (by decide)], by show M35 14 0 r c = M 14 0 r c; rw [sw.1 14 (by decide)], by show M35 15 0 r c = M 15 0 r c; rw [sw.1 15 (by decide)]⟩⟩
  have sY : sameY (vw (rkM M 0 C R) 0) (vw M35 0) C R := by
    have e : ∀ f, (f = 4 ∨ f = 5 ∨ f = 9 ∨ f = 10 ∨ f = 13 ∨ f = 17) → vw (rkM M 0 C R) 0 f = vw M35 0 f := fun f hf => by
      show (fun i j => rkM M 0 C R f 0 i j) = fun i j => M35 f 0 i j
      rw [kk f 0 (by omega)]
    refine ⟨fun c hc => ⟨?_, ?_, ?_⟩, fun r hr => ⟨⟨?_, ?_⟩, fun c hc => ⟨?_, ?_⟩⟩⟩ <;> rw [e _ (by decide)]
  refine hQ M35 hI3 ⟨z4, ⟨fun r hr c hc => ⟨fun hk => ?_, fun hk => ?_⟩, fun c hc => ⟨?_, ?_⟩⟩, ?_, ?_, ?_⟩ sw (fun z => absurd z h0)
  · rw [sw.1 5 (by decide)] at hk ⊢
    rw [sw.1 15 (by decide), kk 17 0 (by omega)]
    simp [rkM, hr, hc, hk]
  · rw [sw.1 5 (by decide)] at hk
    rw [sw.1 12 (by decide), kk 16 0 (by omega)]
    simp [rkM, hr, hc, hk]
  · rw [LEA_c sV hc, kk 9 0 (by omega)]
    simp [rkM, hc]
  · rw [BST_c sV hc, kk 10 0 (by omega)]
    simp [rkM, hc]
  · unfold upL
    rw [← LAYF_c sY]
    exact LYS_k (LYS_y hu sY) (fun f hf => k35 f _ (by omega))
  · unfold tuL
    rw [← LAYF_c sY]
    exact LYS_k (LYS_y ht sY) (fun f hf => k35 f _ (by omega))
  · unfold upL tuL
    rw [← LAYF_c sY, ← LAYF_c sY, k35 2 0 (by omega)]
    exact htr
