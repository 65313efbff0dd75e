/-! The calls that write. -/
theorem sp_range {v lo hi : Int32} {M : Mem} {Q : Mem → Prop} (h1 : lo ≤ v) (h2 : v ≤ hi) (hQ : Q M) : wp_X4_requireRange v lo hi M Q :=
  ⟨fun z => absurd z (Int32.not_lt.mpr h1), fun _ => ⟨fun _ => hQ, fun z => absurd h2 z⟩⟩
theorem sp_rRow {R r : Nat} {M : Mem} {Q : Mem → Prop} (hR : M 1 0 0 5 = nI R) (hR30 : R ≤ 30) (hr : r < R) (hQ : Q M) : wp_X4_requireRow (nI r) M Q := by
  unfold wp_X4_requireRow
  rw [hR]
  exact ⟨fun z => absurd z (nI_pos (by omega)), fun _ => ⟨fun _ => hQ, fun z => absurd (nI_lt hr (by omega)) z⟩⟩
theorem sp_rCol {C c : Nat} {M : Mem} {Q : Mem → Prop} (hC : M 1 0 0 0 = nI C) (hC6 : C ≤ 6) (hc : c < C) (hQ : Q M) : wp_X4_requireColumn (nI c) M Q := by
  unfold wp_X4_requireColumn
  rw [hC]
  exact ⟨fun z => absurd z (nI_pos (by omega)), fun _ => ⟨fun _ => hQ, fun z => absurd (nI_lt hc (by omega)) z⟩⟩
theorem sp_rKind {c : Nat} {k : Int32} {M : Mem} {Q : Mem → Prop} (hc : c < 6) (hk : M 5 0 0 c = k) (hQ : Q M) : wp_X4_requireKind (nI c) k M Q := by
  unfold wp_X4_requireKind
  rw [ncl (by omega)]
  exact ⟨vin hc (by decide), fun _ => hQ, fun z => absurd hk z⟩
theorem sp_rPage {p pg : Nat} {M : Mem} {Q : Mem → Prop} (hp : p < pg) (hpg : pg ≤ 60) (h6 : M 3 (chq M) 0 6 = nI pg) (hQ : Q M) : wp_X4_requirePage (nI p) M Q := by
  unfold wp_X4_requirePage
  refine ⟨fun z => absurd z (nI_pos (by omega)), fun _ => sp_chosen0 ?_⟩
  rw [h6]
  exact ⟨fun _ => hQ, fun z => absurd (nI_lt hp (by omega)) z⟩
theorem sp_rNumber {C R r c : Nat} {v : Int32} {M : Mem} {Q : Mem → Prop} (hC : M 1 0 0 0 = nI C) (hC6 : C ≤ 6) (hR : M 1 0 0 5 = nI R) (hR30 : R ≤ 30) (hr : r < R) (hc : c < C) (hk : M 5 0 0 c = 0) (h1 : -9999 ≤ v) (h2 : v ≤ 9999) (hQ : Q M) : wp_X4_requireNumberCell (nI r) (nI c) v M Q := by
  unfold wp_X4_requireNumberCell
  exact sp_rRow hR hR30 hr (sp_rCol hC hC6 hc (sp_rKind (by omega) hk (sp_range h1 h2 hQ)))
/-- what else the law looks at: kinds, notes and keeping, its own arrays -/
def LK (M M' : Mem) : Prop := M' 5 0 = M 5 0 ∧ M' 4 0 = M 4 0 ∧ ∀ f, 27 ≤ f → M' f 0 = M f 0
theorem LK_SW {M M' : Mem} (hs : SW M M') : LK M M' := ⟨hs.1 5 (by decide), hs.1 4 (by decide), fun f hf => hs.1 f (by omega)⟩
theorem LK_tr {M M1 M2 : Mem} (h : LK M M1) (h2 : LK M1 M2) : LK M M2 := ⟨h2.1.trans h.1, h2.2.1.trans h.2.1, fun f hf => (h2.2.2 f hf).trans (h.2.2 f hf)⟩
theorem one_ne : ¬ (1 : Int32) = 0 := by decide
theorem sp_column {C R W H : Nat} {v t : Int32} {M : Mem} {Q : Int32 → Mem → Prop} (h : Tab C R W H M) (hC : C < 6) (t1 : 1 ≤ t) (t2 : t ≤ 12)
    (hQ : ∀ M', Tab (C + 1) R W H M' → (∀ j, M' 5 0 0 j = if j = C then (if v = 0 then 0 else 1) else M 5 0 0 j) → M' 4 0 = M 4 0 → (∀ f, 27 ≤ f → M' f 0 = M f 0) → Q (nI C) M') : wp_X4_column v t M Q := by
  obtain ⟨⟨a1, a2, a3, a4, a5, a6⟩, -⟩ := h
  have main : ∀ (k : Int32), k = (if v = 0 then 0 else 1) → ∀ M13 : Mem, M13 = sM M 0 0 0 4 1 → wp_X4_column_L29 v t Q k 0 M13 := by
    intro k hk M13 e13
    have hkz : k = 0 ∨ k = 1 := by rw [hk]; split <;> simp
    unfold wp_X4_column_L29
    refine sp_addColumn (by rw [e13, rd]; simp [a1.1]) hC ?_
    have e : ∀ f o i j, (sM (sM (sM M13 5 0 0 C k) 6 0 0 C t) 1 0 0 0 (nI (C + 1))) f o i j = if f = 1 ∧ o = 0 ∧ i = 0 ∧ j = 0 then nI (C + 1) else if f = 6 ∧ o = 0 ∧ i = 0 ∧ j = C then t else if f = 5 ∧ o = 0 ∧ i = 0 ∧ j = C then k else if f = 0 ∧ o = 0 ∧ i = 0 ∧ j = 4 then 1 else M f o i j := fun f o i j => by rw [rd, rd, rd, e13, rd]
    generalize sM (sM (sM M13 5 0 0 C k) 6 0 0 C t) 1 0 0 0 (nI (C + 1)) = M' at e
    have e5 : ∀ j, M' 5 0 0 j = if j = C then (if v = 0 then 0 else 1) else M 5 0 0 j := fun j => by rw [e]; simp [hk]
    have e4 : M' 4 0 = M 4 0 := by funext i j; rw [e]; simp
    refine hQ M' ⟨⟨⟨by rw [e]; simp, hC, by rw [e]; simp [a1.2.2.1], a1.2.2.2⟩, ⟨by rw [e]; simp [a2.1], a2.2.1, a2.2.2.1, by rw [e]; simp [a2.2.2.2.1], a2.2.2.2.2.1, a2.2.2.2.2.2.1, by rw [e]; simp [zb]⟩, fun c hc => ?_, fun r hr => ?_, fun r hr c hc => ?_, fun o ho r hr c hc hn => ?_⟩, fun z => absurd (by rw [e] at z; simpa using z) one_ne⟩ e5 e4 (fun f hf => by funext i j; rw [e]; simp [show ¬ f = 1 by omega, show ¬ f = 6 by omega, show ¬ f = 5 by omega, show ¬ f = 0 by omega])
    · by_cases z : c = C
      · subst z
        refine ⟨by rw [e]; simpa using hkz, by rw [e]; simpa using t1, by rw [e]; simpa using t2⟩
      · have := a3 c (by omega)
        refine ⟨by rw [e]; simpa [z] using this.1, by rw [e]; simpa [z] using this.2.1, by rw [e]; simpa [z] using this.2.2⟩
    · rw [e4]
      refine ⟨(a4 r hr).1, (a4 r hr).2.1, fun c hc => ?_⟩
      rw [e]; simpa using (a4 r hr).2.2 c hc
    · rw [e, e, e]; simpa using a5 r hr c hc
    · have hz := a6 o ho r hr c hc (fun q => hn ⟨by omega, by rw [e]; simp [show ¬ c = C by omega, q.2]⟩)
      rw [e]; simpa using hz
  unfold wp_X4_column
  refine sp_range t1 t2 ?_
  unfold wp_X4_requireSpareColumn
  rw [a1.1]
  refine ⟨fun _ M13 e13 => ⟨fun z => main 0 (by rw [if_pos z]) M13 e13, fun z => main 1 (by rw [if_neg z]) M13 e13⟩, fun z => absurd (nI_lt (a := C) (b := 6) hC (by decide)) z⟩
theorem sp_row {C R W H : Nat} {M : Mem} {Q : Int32 → Mem → Prop} (h : Tab C R W H M) (hR : R < 30)
    (hQ : ∀ M', Tab C (R + 1) W H M' → M' 5 0 = M 5 0 → (∀ r j, j = 4 ∨ j = 5 → M' 4 0 r j = if r = R then 0 else M 4 0 r j) → (∀ f, 27 ≤ f → M' f 0 = M f 0) → Q (nI R) M') : wp_X4_row M Q := by
  obtain ⟨⟨a1, a2, a3, a4, a5, a6⟩, -⟩ := h
  unfold wp_X4_row
  rw [a1.2.2.1]
  refine ⟨fun _ M24 e24 => ?_, fun z => absurd (nI_lt (a := R) (b := 30) hR (by decide)) z⟩
  refine sp_addRow (by rw [e24, rd]; simp [a1.2.2.1]) hR ?_
  have e : ∀ f o i j, (sM (clr M24 0 R) 1 0 0 5 (nI (R + 1))) f o i j = if f = 1 ∧ o = 0 ∧ i = 0 ∧ j = 5 then nI (R + 1) else if o = 0 ∧ i = R ∧ (((f = 12 ∨ f = 13 ∨ f = 14 ∨ f = 15) ∧ j < 6) ∨ (f = 4 ∧ (j = 4 ∨ j = 5))) then 0 else if f = 0 ∧ o = 0 ∧ i = 0 ∧ j = 4 then 1 else M f o i j := fun f o i j => by rw [rd]; simp only [clr, e24, rd]
  generalize sM (clr M24 0 R) 1 0 0 5 (nI (R + 1)) = M' at e
  have e5 : M' 5 0 = M 5 0 := by funext i j; rw [e]; simp
  have e4 : ∀ r j, j = 4 ∨ j = 5 → M' 4 0 r j = if r = R then 0 else M 4 0 r j := fun r j hj => by rw [e]; simp [hj]
  refine hQ M' ⟨⟨⟨by rw [e]; simp [a1.1], a1.2.1, by rw [e]; simp, hR⟩, ⟨by rw [e]; simp [a2.1], a2.2.1, a2.2.2.1, by rw [e]; simp [a2.2.2.2.1], a2.2.2.2.2.1, a2.2.2.2.2.2.1, by rw [e]; simp [zb]⟩, fun c hc => ?_, fun r hr => ?_, fun r hr c hc => ?_, fun o ho r hr c hc hn => ?_⟩, fun z => absurd (by rw [e] at z; simpa using z) one_ne⟩ e5 e4 (fun f hf => by funext i j; rw [e]; simp [show ¬ f = 1 by omega, show ¬ f = 0 by omega, show ¬ f = 12 by omega, show ¬ f = 13 by omega, show ¬ f = 14 by omega, show ¬ f = 15 by omega, show ¬ f = 4 by omega])
  · rw [e5, e]; simpa using a3 c hc
  · rw [e4 r 4 (Or.inl rfl), e4 r 5 (Or.inr rfl)]
    refine ⟨?_, ?_, fun c hc => ?_⟩
    · split
      · decide
      · exact (a4 r hr).1
    · split
      · exact zb_0
      · exact (a4 r hr).2.1
    · rw [e]
      by_cases z : r = R
      · simp [z, hc]
      · simpa [z] using (a4 r hr).2.2 c hc
  · rw [e, e, e]
    by_cases z : r = R
    · simp [z, hc, zb]
    · simpa [z] using a5 r hr c hc
  · rw [e5] at hn
    have hz := a6 o ho r hr c hc hn
    rw [e]; simpa using hz
/-- one number of a row is written -/
theorem sp_number {C R W H r c : Nat} {v : Int32} {M : Mem} {Q : Int32 → Mem → Prop} (h : Tab C R W H M) (hr : r < R) (hc : c < C) (hk : M 5 0 0 c = 0) (h1 : -9999 ≤ v) (h2 : v ≤ 9999)
    (hQ : ∀ M', Tab C R W H M' → LK M M' → Q (M 12 0 r c) M') : wp_X4_number (nI r) (nI c) v M Q := by
  obtain ⟨⟨a1, a2, a3, a4, a5, a6⟩, -⟩ := h
  have hrr : (nI r).toNatClampNeg = r := ncl (by omega)
  have hcc : (nI c).toNatClampNeg = c := ncl (by omega)
  have hv := vin (n := r) (N := 30) (by omega) (by decide)
  have hvc := vin (n := c) (N := 6) (by omega) (by decide)
  unfold wp_X4_number
  refine sp_rNumber a1.1 a1.2.1 a1.2.2.1 a1.2.2.2 hr hc hk h1 h2 (fun M9 e9 => ?_)
  rw [hrr, hcc]
  refine ⟨hv, hvc, hv, hvc, fun M' e' => ?_⟩
  have e : ∀ f o i j, M' f o i j = if f = 12 ∧ o = 0 ∧ i = r ∧ j = c then v else if f = 0 ∧ o = 0 ∧ i = 0 ∧ j = 4 then 1 else M f o i j := fun f o i j => by rw [e', rd, e9, rd]
  have e12 : M9 12 0 r c = M 12 0 r c := by rw [e9, rd]; simp
  rw [e12]
  have e5 : M' 5 0 = M 5 0 := by funext i j; rw [e]; simp
  have e4 : M' 4 0 = M 4 0 := by funext i j; rw [e]; simp
  refine hQ M' ⟨⟨⟨by rw [e]; simp [a1.1], a1.2.1, by rw [e]; simp [a1.2.2.1], a1.2.2.2⟩, ⟨by rw [e]; simp [a2.1], a2.2.1, a2.2.2.1, by rw [e]; simp [a2.2.2.2.1], a2.2.2.2.2.1, a2.2.2.2.2.2.1, by rw [e]; simp [zb]⟩, fun c hc => ?_, fun r' hr' => ?_, fun r' hr' c' hc' => ?_, fun o ho r' hr' c' hc' hn => ?_⟩, fun z => absurd (by rw [e] at z; simpa using z) one_ne⟩ ⟨e5, e4, fun f hf => by funext i j; rw [e]; simp [show ¬ f = 12 by omega, show ¬ f = 0 by omega]⟩
  · rw [e5, e]; simpa using a3 c hc
  · rw [e4]
    refine ⟨(a4 r' hr').1, (a4 r' hr').2.1, fun c' hc' => ?_⟩
    rw [e]
    by_cases z : r' = r ∧ c' = c
    · simp [z, h1, h2]
    · simpa [z] using (a4 r' hr').2.2 c' hc'
  · rw [e, e, e]; simpa using a5 r' hr' c' hc'
  · rw [e5] at hn
    have hz := a6 o ho r' hr' c' hc' hn
    rw [e]; simpa using hz
theorem sp_text {C R W H r c : Nat} {x y : Int32} {M : Mem} {Q : Int32 → Mem → Prop} (h : Tab C R W H M) (hr : r < R) (hc : c < C) (hk : M 5 0 0 c = 1) (x1 : 0 ≤ x) (x2 : x ≤ 200) (y1 : 0 ≤ y) (y2 : y ≤ 12) (y3 : y ≤ x)
    (hQ : ∀ M', Tab C R W H M' → LK M M' → Q (M 13 0 r c) M') : wp_X4_text (nI r) (nI c) x y M Q := by
  obtain ⟨⟨a1, a2, a3, a4, a5, a6⟩, -⟩ := h
  have hrr : (nI r).toNatClampNeg = r := ncl (by omega)
  have hcc : (nI c).toNatClampNeg = c := ncl (by omega)
  have hv := vin (n := r) (N := 30) (by omega) (by decide)
  have hvc := vin (n := c) (N := 6) (by omega) (by decide)
  unfold wp_X4_text
  refine sp_rRow a1.2.2.1 a1.2.2.2 hr (sp_rCol a1.1 a1.2.1 hc (sp_rKind (by omega) hk (sp_range x1 x2 (sp_range y1 (by split <;> assumption) (fun M38 e38 => ?_)))))
  rw [hrr, hcc]
  refine ⟨hv, hvc, hv, hvc, fun M71 e71 => ⟨hv, hvc, fun M' e' => ?_⟩⟩
  have e : ∀ f o i j, M' f o i j = if f = 14 ∧ o = 0 ∧ i = r ∧ j = c then y else if f = 13 ∧ o = 0 ∧ i = r ∧ j = c then x else if f = 0 ∧ o = 0 ∧ i = 0 ∧ j = 4 then 1 else M f o i j := fun f o i j => by rw [e', rd, e71, rd, e38, rd]
  have e13 : M38 13 0 r c = M 13 0 r c := by rw [e38, rd]; simp
  rw [e13]
  have e5 : M' 5 0 = M 5 0 := by funext i j; rw [e]; simp
  have e4 : M' 4 0 = M 4 0 := by funext i j; rw [e]; simp
  refine hQ M' ⟨⟨⟨by rw [e]; simp [a1.1], a1.2.1, by rw [e]; simp [a1.2.2.1], a1.2.2.2⟩, ⟨by rw [e]; simp [a2.1], a2.2.1, a2.2.2.1, by rw [e]; simp [a2.2.2.2.1], a2.2.2.2.2.1, a2.2.2.2.2.2.1, by rw [e]; simp [zb]⟩, fun c hc => ?_, fun r' hr' => ?_, fun r' hr' c' hc' => ?_, fun o ho r' hr' c' hc' hn => ?_⟩, fun z => absurd (by rw [e] at z; simpa using z) one_ne⟩ ⟨e5, e4, fun f hf => by funext i j; rw [e]; simp [show ¬ f = 13 by omega, show ¬ f = 14 by omega, show ¬ f = 0 by omega]⟩
  · rw [e5, e]; simpa using a3 c hc
  · rw [e4]
    refine ⟨(a4 r' hr').1, (a4 r' hr').2.1, fun c' hc' => ?_⟩
    rw [e]; simpa using (a4 r' hr').2.2 c' hc'
  · rw [e, e, e]
    by_cases z : r' = r ∧ c' = c
    · simpa [z, x1, x2, y1, y2] using (a5 r' hr' c' hc').2.2.2.2
    · simpa [z] using a5 r' hr' c' hc'
  · rw [e5] at hn
    have hz := a6 o ho r' hr' c' hc' hn
    rw [e]; simpa using hz
theorem sp_note {C R W H r : Nat} {v : Int32} {M : Mem} {Q : Int32 → Mem → Prop} (h : Tab C R W H M) (hr : r < R) (v1 : 0 ≤ v) (v2 : v ≤ 5)
    (hQ : ∀ M', Tab C R W H M' → M' 5 0 = M 5 0 → (∀ r' j, M' 4 0 r' j = if r' = r ∧ j = 4 then v else M 4 0 r' j) → (∀ f, 27 ≤ f → M' f 0 = M f 0) → Q (M 4 0 r 4) M') : wp_X4_note (nI r) v M Q := by
  obtain ⟨⟨a1, a2, a3, a4, a5, a6⟩, -⟩ := h
  have hrr : (nI r).toNatClampNeg = r := ncl (by omega)
  have hv := vin (n := r) (N := 30) (by omega) (by decide)
  unfold wp_X4_note
  refine sp_rRow a1.2.2.1 a1.2.2.2 hr (sp_range v1 v2 (fun M13 e13 => ?_))
  rw [hrr]
  refine ⟨hv, hv, fun M' e' => ?_⟩
  have e : ∀ f o i j, M' f o i j = if f = 4 ∧ o = 0 ∧ i = r ∧ j = 4 then v else if f = 0 ∧ o = 0 ∧ i = 0 ∧ j = 4 then 1 else M f o i j := fun f o i j => by rw [e', rd, e13, rd]
  have e44 : M13 4 0 r 4 = M 4 0 r 4 := by rw [e13, rd]; simp
  rw [e44]
  have e5 : M' 5 0 = M 5 0 := by funext i j; rw [e]; simp
  have e4 : ∀ r' j, M' 4 0 r' j = if r' = r ∧ j = 4 then v else M 4 0 r' j := fun r' j => by rw [e]; simp
  refine hQ M' ⟨⟨⟨by rw [e]; simp [a1.1], a1.2.1, by rw [e]; simp [a1.2.2.1], a1.2.2.2⟩, ⟨by rw [e]; simp [a2.1], a2.2.1, a2.2.2.1, by rw [e]; simp [a2.2.2.2.1], a2.2.2.2.2.1, a2.2.2.2.2.2.1, by rw [e]; simp [zb]⟩, fun c hc => ?_, fun r' hr' => ?_, fun r' hr' c' hc' => ?_, fun o ho r' hr' c' hc' hn => ?_⟩, fun z => absurd (by rw [e] at z; simpa using z) one_ne⟩ e5 e4 (fun f hf => by funext i j; rw [e]; simp [show ¬ f = 4 by omega, show ¬ f = 0 by omega])
  · rw [e5, e]; simpa using a3 c hc
  · rw [e4, e4]
    refine ⟨?_, by simpa using (a4 r' hr').2.1, fun c' hc' => ?_⟩
    · split
      · exact ⟨v1, v2⟩
      · exact (a4 r' hr').1
    · rw [e]; simpa using (a4 r' hr').2.2 c' hc'
  · rw [e, e, e]; simpa using a5 r' hr' c' hc'
  · rw [e5] at hn
    have hz := a6 o ho r' hr' c' hc' hn
    rw [e]; simpa using hz
theorem sp_keep {C R W H r : Nat} {v : Int32} {M : Mem} {Q : Int32 → Mem → Prop} (h : Tab C R W H M) (hr : r < R) (hz : zb v)
    (hQ : ∀ M', Tab C R W H M' → M' 5 0 = M 5 0 → (∀ r' j, M' 4 0 r' j = if r' = r ∧ j = 5 then v else M 4 0 r' j) → (∀ f, 27 ≤ f → M' f 0 = M f 0) → Q (M 4 0 r 5) M') : wp_X4_keep (nI r) v M Q := by
  obtain ⟨⟨a1, a2, a3, a4, a5, a6⟩, -⟩ := h
  have hrr : (nI r).toNatClampNeg = r := ncl (by omega)
  have hv := vin (n := r) (N := 30) (by omega) (by decide)
  unfold wp_X4_keep
  refine sp_rRow a1.2.2.1 a1.2.2.2 hr (fun M13 e13 => ?_)
  rw [hrr]
  have e44 : M13 4 0 r 5 = M 4 0 r 5 := by rw [e13, rd]; simp
  rw [e44]
  refine ⟨hv, hv, hz, fun M' e' => ⟨(a4 r (by omega)).2.1, ?_⟩⟩
  have e : ∀ f o i j, M' f o i j = if f = 4 ∧ o = 0 ∧ i = r ∧ j = 5 then v else if f = 0 ∧ o = 0 ∧ i = 0 ∧ j = 4 then 1 else M f o i j := fun f o i j => by rw [e', rd, e13, rd]
  have e5 : M' 5 0 = M 5 0 := by funext i j; rw [e]; simp
  have e4 : ∀ r' j, M' 4 0 r' j = if r' = r ∧ j = 5 then v else M 4 0 r' j := fun r' j => by rw [e]; simp
  refine hQ M' ⟨⟨⟨by rw [e]; simp [a1.1], a1.2.1, by rw [e]; simp [a1.2.2.1], a1.2.2.2⟩, ⟨by rw [e]; simp [a2.1], a2.2.1, a2.2.2.1, by rw [e]; simp [a2.2.2.2.1], a2.2.2.2.2.1, a2.2.2.2.2.2.1, by rw [e]; simp [zb]⟩, fun c hc => ?_, fun r' hr' => ?_, fun r' hr' c' hc' => ?_, fun o ho r' hr' c' hc' hn => ?_⟩, fun z => absurd (by rw [e] at z; simpa using z) one_ne⟩ e5 e4 (fun f hf => by funext i j; rw [e]; simp [show ¬ f = 4 by omega, show ¬ f = 0 by omega])
  · rw [e5, e]; simpa using a3 c hc
  · rw [e4, e4]
    refine ⟨by simpa using (a4 r' hr').1, ?_, fun c' hc' => ?_⟩
    · split
      · exact hz
      · exact (a4 r' hr').2.1
    · rw [e]; simpa using (a4 r' hr').2.2 c' hc'
  · rw [e, e, e]; simpa using a5 r' hr' c' hc'
  · rw [e5] at hn
    have hz := a6 o ho r' hr' c' hc' hn
    rw [e]; simpa using hz
theorem hidF_z (k t : Nat → Int32) : ∀ c, zb (hidF k t c)
  | 0 => zb_0
  | c + 1 => by
    unfold hidF
    split
    · exact zb_1
    · exact zb_0
/-- in a fresh table nothing but a text's cell is hidden -/
theorem hid_zb {C R W H r c : Nat} {M : Mem} (hI : Inv C R W H M) (hF : Fresh C R W H M) (hr : r < R) (hc : c < C) : zb (M 17 0 r c) ∧ (¬ M 5 0 0 c = 1 → M 17 0 r c = 0) := by
  have hR := hI.1.2.2.2
  have hC := hI.1.2.1
  refine ⟨?_, fun hk => hI.2.2.2.2.2 0 (by decide) r (by omega) c (by omega) (fun z => hk z.2)⟩
  by_cases hk : M 5 0 0 c = 1
  · rw [(hF.2.1.1 r hr c hc).1 hk]; exact hidF_z _ _ _
  · rw [hI.2.2.2.2.2 0 (by decide) r (by omega) c (by omega) (fun z => hk z.2)]; exact zb_0
theorem sp_span {C R W H r c : Nat} {v : Int32} {M : Mem} {Q : Int32 → Mem → Prop} (h : Tab C R W H M) (hr : r < R) (hc : c + 1 < C) (hk : M 5 0 0 c = 1) (hz : zb v)
    (hQ : ∀ M' x, Tab C R W H M' → LK M M' → (¬ M 5 0 0 (c + 1) = 1 → x = 0) → Q x M') : wp_X4_span (nI r) (nI c) v M Q := by
  obtain ⟨⟨a1, a2, a3, a4, a5, a6⟩, -⟩ := h
  have hrr : (nI r).toNatClampNeg = r := ncl (by omega)
  have hcc : (nI c).toNatClampNeg = c := ncl (by omega)
  have hcc1 : (nI (c + 1)).toNatClampNeg = c + 1 := ncl (by omega)
  have hv := vin (n := r) (N := 30) (by omega) (by decide)
  have hvc := vin (n := c) (N := 6) (by omega) (by decide)
  have hvc1 := vin (n := c + 1) (N := 6) (by omega) (by decide)
  unfold wp_X4_span
  refine sp_rRow a1.2.2.1 a1.2.2.2 hr (sp_rCol a1.1 a1.2.1 (by omega) (sp_rKind (by omega) hk ?_))
  rw [a1.1, s_nI, hrr, hcc, hcc1]
  refine ⟨fun _ M41 e41 => ⟨hv, hvc, hz, fun M58 e58 => ?_⟩, fun z => absurd (nI_lt hc (by omega)) z⟩
  have e : ∀ f o i j, M58 f o i j = if f = 15 ∧ o = 0 ∧ i = r ∧ j = c then v else if f = 0 ∧ o = 0 ∧ i = 0 ∧ j = 4 then 1 else M f o i j := fun f o i j => by rw [e58, rd, e41, rd]
  have e5 : M58 5 0 = M 5 0 := by funext i j; rw [e]; simp
  have e4 : M58 4 0 = M 4 0 := by funext i j; rw [e]; simp
  have T58 : Tab C R W H M58 := by
    refine ⟨⟨⟨by rw [e]; simp [a1.1], a1.2.1, by rw [e]; simp [a1.2.2.1], a1.2.2.2⟩, ⟨by rw [e]; simp [a2.1], a2.2.1, a2.2.2.1, by rw [e]; simp [a2.2.2.2.1], a2.2.2.2.2.1, a2.2.2.2.2.2.1, by rw [e]; simp [zb]⟩, fun c hc => ?_, fun r' hr' => ?_, fun r' hr' c' hc' => ?_, fun o ho r' hr' c' hc' hn => ?_⟩, fun z => absurd (by rw [e] at z; simpa using z) one_ne⟩
    · rw [e5, e]; simpa using a3 c hc
    · rw [e4]
      refine ⟨(a4 r' hr').1, (a4 r' hr').2.1, fun c' hc' => ?_⟩
      rw [e]; simpa using (a4 r' hr').2.2 c' hc'
    · rw [e, e, e]
      have := a5 r' hr' c' hc'
      refine ⟨by simpa using this.1, by simpa using this.2.1, by simpa using this.2.2.1, by simpa using this.2.2.2.1, ?_⟩
      by_cases z : r' = r ∧ c' = c
      · simpa [z] using hz
      · simpa [z] using this.2.2.2.2
    · rw [e5] at hn
      have hz := a6 o ho r' hr' c' hc' hn
      rw [e]; simpa using hz
  refine sp_refresh T58 (fun M60 hI hF hs _ => ?_)
  have hh := hid_zb hI hF hr hc
  refine ⟨hv, hvc1, hh.1, hQ M60 _ ⟨hI, fun _ => hF⟩ (LK_tr ⟨e5, e4, fun f hf => by funext i j; rw [e]; simp [show ¬ f = 15 by omega, show ¬ f = 0 by omega]⟩ (LK_SW hs)) (fun hk1 => hh.2 ?_)⟩
  rw [hs.1 5 (by decide), e5]; exact hk1
/-- the layout that is taken -/
def chL (C R W H : Nat) (M : Mem) : Option ((Nat → Int32) × AS) := if trn (upL C R W H M) (tuL C R W H M) = 0 then upL C R W H M else tuL C R W H M
theorem ch_LYS {C R W H : Nat} {M : Mem} (hF : Fresh C R W H M) : LYS M (chq M) (vw M 0) C R (chL C R W H M) := by
  unfold chq chL
  rw [hF.2.2.2.2]
  split
  · exact hF.2.2.1
  · exact hF.2.2.2.1
def pnO : Option ((Nat → Int32) × AS) → Int32
  | none => -1
  | some b => nI b.2.1
theorem LYS_pnv {M : Mem} {q : Nat} {Y : Vw} {C R : Nat} {x : Option ((Nat → Int32) × AS)} (h : LYS M q Y C R x) : pnv M q = pnO x := by
  unfold pnv
  cases x with
  | none => rw [if_pos h.1]; rfl
  | some b => rw [if_neg (by rw [h.1]; decide)]; exact h.2.2.2.1
theorem sp_paper {C R W H W' H' : Nat} {M : Mem} {Q : Int32 → Mem → Prop} (h : Tab C R W H M) (w1 : 10 ≤ W') (w2 : W' ≤ 60) (h1 : 10 ≤ H') (h2 : H' ≤ 60)
    (hQ : ∀ M', Inv C R W' H' M' → Fresh C R W' H' M' → LK M M' → Q (pnO (chL C R W' H' M')) M') : wp_X4_paper (nI W') (nI H') M Q := by
  obtain ⟨⟨a1, a2, a3, a4, a5, a6⟩, -⟩ := h
  unfold wp_X4_paper
  refine sp_range (nI_le (a := 10) w1 (by omega)) (nI_le (b := 60) w2 (by decide)) (sp_range (nI_le (a := 10) h1 (by omega)) (nI_le (b := 60) h2 (by decide)) (fun M18 e18 M23 e23 M28 e28 => ?_))
  have e : ∀ f o i j, M28 f o i j = if f = 0 ∧ o = 0 ∧ i = 0 ∧ j = 3 then nI H' else if f = 0 ∧ o = 0 ∧ i = 0 ∧ j = 2 then nI W' else if f = 0 ∧ o = 0 ∧ i = 0 ∧ j = 4 then 1 else M f o i j := fun f o i j => by rw [e28, rd, e23, rd, e18, rd]
  have e0 : ∀ f, ¬ f = 0 → M28 f = M f := fun f hf => by funext o i j; rw [e]; simp [hf]
  have T28 : Tab C R W' H' M28 := by
    refine ⟨⟨?_, ⟨by rw [e]; simp, w1, w2, by rw [e]; simp, h1, h2, by rw [e]; simp [zb]⟩, ?_, ?_, ?_, ?_⟩, fun z => absurd (by rw [e] at z; simpa using z) one_ne⟩
    · rw [e0 1 (by decide)]; exact a1
    · rw [e0 5 (by decide), e0 6 (by decide)]; exact a3
    · rw [e0 4 (by decide), e0 12 (by decide)]; exact a4
    · rw [e0 13 (by decide), e0 14 (by decide), e0 15 (by decide)]; exact a5
    · rw [e0 5 (by decide), e0 17 (by decide)]; exact a6
  refine sp_refresh T28 (fun M32 hI hF hs _ => sp_chosen0 (sp_pagesOrNone ?_))
  rw [LYS_pnv (ch_LYS hF)]
  exact hQ M32 hI hF (LK_tr ⟨by rw [e0 5 (by decide)], by rw [e0 4 (by decide)], fun f hf => by rw [e0 f (by omega)]⟩ (LK_SW hs))
/-- the calls that ask, in a fresh table -/
theorem ref_same {C R W H : Nat} {M : Mem} {Q : Mem → Prop} (hI : Inv C R W H M) (hF : Fresh C R W H M) (hQ : Q M) : wp_X4_refresh M Q :=
  sp_refresh ⟨hI, fun _ => hF⟩ (fun M' _ _ _ hs => by rw [hs hF.1]; exact hQ)
theorem sp_many {C R W H w : Nat} {M : Mem} {Q : Int32 → Mem → Prop} (h : Tab C R W H M) (hw : w < 8) (hQ : ∀ M', Inv C R W H M' → Fresh C R W H M' → SW M M' → (M 0 0 0 4 = 0 → M' = M) → Q (tblF C R M' w) M') : wp_X4_many (nI w) M Q := by
  unfold wp_X4_many
  refine sp_range (nI_pos' (by omega)) (nI_le (b := 7) (by omega) (by decide)) (sp_refresh h (fun M' hI hF hs hm => ?_))
  exact sp_factOfTable hI.1.1 hI.1.2.1 hI.1.2.2.1 hI.1.2.2.2 hw (hQ M' hI hF hs hm)
theorem sp_manyF {C R W H w : Nat} {M : Mem} {Q : Int32 → Mem → Prop} (hI : Inv C R W H M) (hF : Fresh C R W H M) (hw : w < 8) (hQ : Q (tblF C R M w) M) : wp_X4_many (nI w) M Q :=
  sp_many ⟨hI, fun _ => hF⟩ hw (fun M' _ _ _ hm => by rw [hm hF.1]; exact hQ)
theorem sp_ofColumn {C R W H c w : Nat} {M : Mem} {Q : Int32 → Mem → Prop} (hI : Inv C R W H M) (hF : Fresh C R W H M) (hc : c < C) (hw : w < 5) (hQ : Q (colF R M c w) M) : wp_X4_ofColumn (nI c) (nI w) M Q := by
  have hC := hI.1.2.1
  unfold wp_X4_ofColumn
  exact sp_rCol hI.1.1 hC hc (sp_range (nI_pos' (by omega)) (nI_le (b := 4) (by omega) (by decide)) (ref_same hI hF (sp_factOfColumn hI.1.2.2.1 hI.1.2.2.2 (by omega) hw hQ)))
theorem sp_ofRow {C R W H r w : Nat} {M : Mem} {Q : Int32 → Mem → Prop} (hI : Inv C R W H M) (hF : Fresh C R W H M) (hr : r < R) (hw : w < 3) (hQ : Q (rowF M r w) M) : wp_X4_ofRow (nI r) (nI w) M Q := by
  have hR := hI.1.2.2.2
  unfold wp_X4_ofRow
  exact sp_rRow hI.1.2.2.1 hR hr (sp_range (nI_pos' (by omega)) (nI_le (b := 2) (by omega) (by decide)) (ref_same hI hF (sp_factOfRow (by omega) hw hQ)))
theorem sp_ofPage {C R W H p pg w : Nat} {M : Mem} {Q : Int32 → Mem → Prop} (hI : Inv C R W H M) (hF : Fresh C R W H M) (h6 : M 3 (chq M) 0 6 = nI pg) (hp : p < pg) (hpg : pg ≤ 60) (hw : w < 5) (hQ : Q (pageF C R M p w) M) : wp_X4_ofPage (nI p) (nI w) M Q := by
  unfold wp_X4_ofPage
  exact ref_same hI hF (sp_rPage hp hpg h6 (sp_range (nI_pos' (by omega)) (nI_le (b := 4) (by omega) (by decide)) (sp_factOfPage hI.1.1 hI.1.2.1 hI.1.2.2.1 hI.1.2.2.2 (by omega) hw hQ)))
theorem sp_carried {C R W H p pg c : Nat} {M : Mem} {Q : Int32 → Mem → Prop} (hI : Inv C R W H M) (hF : Fresh C R W H M) (h6 : M 3 (chq M) 0 6 = nI pg) (hp : p < pg) (hpg : pg ≤ 60) (hc : c < C) (hl : 0 ≤ M 26 (chq M) 0 p → vp_in (M 26 (chq M) 0 p) 30) (hQ : Q (caF M (chq M) 0 p c) M) : wp_X4_carried (nI p) (nI c) M Q := by
  have hC := hI.1.2.1
  unfold wp_X4_carried
  exact ref_same hI hF (sp_rPage hp hpg h6 (sp_rCol hI.1.1 hC hc (sp_chosen0 (sp_carriedOn (by omega) (by omega) hl hQ))))
theorem sp_cell {C R W H r c w : Nat} {M : Mem} {Q : Int32 → Mem → Prop} (hI : Inv C R W H M) (hF : Fresh C R W H M) (hr : r < R) (hc : c < C) (hw : w < 4) (hQ : Q (cellF C M r c w) M) : wp_X4_cell (nI r) (nI c) (nI w) M Q := by
  have hC := hI.1.2.1
  have hR := hI.1.2.2.2
  unfold wp_X4_cell
  exact sp_rRow hI.1.2.2.1 hR hr (sp_rCol hI.1.1 hC hc (sp_range (nI_pos' (by omega)) (nI_le (b := 3) (by omega) (by decide)) (ref_same hI hF (sp_factOfCell hI.1.1 hC (by omega) hc hw hQ))))
/-! what is not the table's own: the trial's cells, the probe's -/
def mnk (f o : Nat) : Prop := f = 0 ∨ 27 ≤ f ∨ (o = 0 ∧ ¬ f = 3 ∧ ¬ (18 ≤ f ∧ f ≤ 26)) ∨ ((o = 0 ∨ o = 1) ∧ (f = 3 ∨ (18 ≤ f ∧ f ≤ 26)))
def MEq (M M' : Mem) : Prop := ∀ f o, mnk f o → M' f o = M f o
theorem MEq_rf {M : Mem} : MEq M M := fun _ _ _ => rfl
theorem MEq_tr {M M1 M2 : Mem} (h : MEq M M1) (h2 : MEq M1 M2) : MEq M M2 := fun f o hm => (h2 f o hm).trans (h f o hm)
theorem MEq_frL {M M' : Mem} {q : Nat} (hq : 2 ≤ q) (h : frL q M M') : MEq M M' := fun f o hm => h f o (by unfold mnk at hm; omega)
theorem MEq_vw {M M' : Mem} (h : MEq M M') : vw M' 0 = vw M 0 := by
  funext f i j
  show M' f 0 i j = M f 0 i j
  rw [h f 0 (by unfold mnk; omega)]
theorem MEq_chq {M M' : Mem} (h : MEq M M') : chq M' = chq M := by
  unfold chq
  rw [h 2 0 (by unfold mnk; omega)]
theorem MEq_Fresh {C R W H : Nat} {M M' : Mem} (h : MEq M M') (hF : Fresh C R W H M) : Fresh C R W H M' := by
  have hv := MEq_vw h
  have k : ∀ f, M' f 0 = M f 0 := fun f => h f 0 (by unfold mnk; omega)
  have eu : upL C R W H M' = upL C R W H M := by unfold upL; rw [hv]
  have et : tuL C R W H M' = tuL C R W H M := by unfold tuL; rw [hv]
  obtain ⟨f1, f2, f3, f4, f5⟩ := hF
  refine ⟨by rw [k]; exact f1, ?_, ?_, ?_, ?_⟩
  · unfold RKD
    rw [hv, k 5, k 9, k 10, k 12, k 15, k 16, k 17]; exact f2
  · rw [hv, eu]; exact LYS_k f3 (fun f _ => k f)
  · rw [hv, et]; exact LYS_k f4 (fun f hf => h f 1 (by unfold mnk; omega))
  · rw [eu, et, k 2]; exact f5
theorem MEq_Inv {C R W H : Nat} {M M' : Mem} (h : MEq M M') (hI : Inv C R W H M) (h17 : ∀ r, r < 30 → ∀ c, c < 6 → ¬ (c < C ∧ M 5 0 0 c = 1) → M' 17 1 r c = 0) : Inv C R W H M' := by
  have k : ∀ f, M' f 0 = M f 0 := fun f => h f 0 (by unfold mnk; omega)
  obtain ⟨a1, a2, a3, a4, a5, a6⟩ := hI
  refine ⟨?_, ?_, ?_, ?_, ?_, ?_⟩
  · rw [k 1]; exact a1
  · rw [k 0]; exact a2
  · rw [k 5, k 6]; exact a3
  · rw [k 4, k 12]; exact a4
  · rw [k 13, k 14, k 15]; exact a5
  · rw [k 5]
    intro o ho r hr c hc hn
    rcases (show o = 0 ∨ o = 1 by omega) with rfl | rfl
    · rw [k 17]; exact a6 0 ho r hr c hc hn
    · exact h17 r hr c hc hn
theorem MEq_LK {M M' : Mem} (h : MEq M M') : LK M M' := ⟨h 5 0 (by unfold mnk; omega), h 4 0 (by unfold mnk; omega), fun f hf => h f 0 (by unfold mnk; omega)⟩
/-- pagesIn -/
theorem sp_pagesIn {C R W H w L : Nat} {M : Mem} {Q : Int32 → Mem → Prop} (hI : Inv C R W H M) (hL : 3 ≤ L) (hL2 : L ≤ 60) (hQ : ∀ M', frL 4 M M' → Q (pnO (LAYF (vw M 0) C R (nI w) (L - 3))) M') : wp_X4_pagesIn (nI w) (nI L) M Q := by
  unfold wp_X4_pagesIn
  have hR := hI.1.2.2.2
  refine sp_arrange hI.1.1 hI.1.2.1 hI.1.2.2.1 hR hL hL2 (fun r hr => (hI.2.2.2.1 r (by omega)).1) (fun M' hl hf => sp_pagesOrNone ?_)
  rw [LYS_pnv hl]
  exact hQ M' hf
theorem sp_pagesWith {C R W H w h : Nat} {t : Int32} {M : Mem} {Q : Int32 → Mem → Prop} (hI : Inv C R W H M) (hF : Fresh C R W H M) (w1 : 10 ≤ w) (w2 : w ≤ 60) (h1 : 10 ≤ h) (h2 : h ≤ 60)
    (hQ : ∀ M', frL 4 M M' → Q (pnO (if t = 0 then LAYF (vw M 0) C R (nI w) (h - 3) else LAYF (vw M 0) C R (nI h) (w - 3))) M') : wp_X4_pagesWith (nI w) (nI h) t M Q := by
  unfold wp_X4_pagesWith
  refine sp_range (nI_le (a := 10) w1 (by omega)) (nI_le (b := 60) w2 (by decide)) (sp_range (nI_le (a := 10) h1 (by omega)) (nI_le (b := 60) h2 (by decide)) (ref_same hI hF ⟨fun z => ?_, fun z => ?_⟩))
  · refine sp_pagesIn hI (by omega) h2 (fun M' hf => ?_)
    have := hQ M' hf
    rw [if_pos z] at this; exact this
  · refine sp_pagesIn hI (by omega) w2 (fun M' hf => ?_)
    have := hQ M' hf
    rw [if_neg z] at this; exact this
