/-! What was made is the law's world. -/
def soA (u : STa) (o : Nat) : Nat × SSh := if o = 0 then u.1 else u.2.2.1
def seA (u : STa) (o : Nat) : Nat × SSe := if o = 0 then u.2.1 else u.2.2.2.1
def layA (u : STa) (q : Nat) : Nat × (Nat → Nat) := if q = 0 then (u.2.1.2.1, u.2.1.2.2.1) else if q = 1 then (u.2.1.2.2.2.1, u.2.1.2.2.2.2) else if q = 2 then (u.2.2.2.1.2.1, u.2.2.2.1.2.2.1) else if q = 3 then (u.2.2.2.1.2.2.2.1, u.2.2.2.1.2.2.2.2) else u.2.2.2.2
def adK (h : Nat) (u : STa) : KY → Nat := fun k =>
  if k.1 = 0 then h else if k.1 = 1 then (soA u k.2.1).1 else if k.1 = 2 then (seA u k.2.1).1 else if k.1 = 3 then (layA u k.2.1).1 else if k.1 = 4 then (soA u k.2.1).2.2.1 k.2.2
  else if k.1 = 9 then (soA u k.2.1).2.1 6 else if k.1 = 10 then (soA u k.2.1).2.1 7 else if k.1 = 11 then (soA u k.2.1).2.1 5
  else if k.1 < 12 then (soA u k.2.1).2.1 (k.1 - 4) else if k.1 < 18 then (soA u k.2.1).2.2.2 k.2.2 (k.1 - 11) else (layA u k.2.1).2 (k.1 - 17)
def GX (K : KK) (nT : Nat) (scr : Nat × Nat × (Nat → Int32)) (ad : KY → Nat) : GG := (K.1, ad, K.2, nT, [], scr)
def M0 : Mem := fun f _ _ j => if f = 0 then (if j = 2 then 40 else if j = 3 then 30 else if j = 4 then 1 else 0) else 0
def rowK (o i : Nat) : List KY := [(4, o, i), (12, o, i), (13, o, i), (14, o, i), (15, o, i), (16, o, i), (17, o, i)]
def layK (q : Nat) : List KY := [(3, q, 0), (18, q, 0), (19, q, 0), (20, q, 0), (21, q, 0), (22, q, 0), (23, q, 0), (24, q, 0), (25, q, 0), (26, q, 0)]
def rowsK (o : Nat) : Nat → List KY
  | 0 => []
  | n + 1 => rowsK o n ++ rowK o n
def sheBK (o : Nat) : List KY := [(1, o, 0), (5, o, 0), (6, o, 0), (7, o, 0), (8, o, 0), (11, o, 0), (9, o, 0), (10, o, 0)]
def setK (o : Nat) : List KY := (2, o, 0) :: (layK (2 * o) ++ layK (2 * o + 1))
def TK : List KY := (0, 0, 0) :: (((((sheBK 0 ++ rowsK 0 30) ++ setK 0) ++ (sheBK 1 ++ rowsK 1 30)) ++ setK 1) ++ layK 4)
def ct2 (G : GG) (k : KY) : va_E := if k.1 = 11 then .inl (gR G, 30, .inr (.inr (.inr (.inr fun j => if j < 30 then some (gA G (4, k.2.1, j)) else none)))) else ct G M0 k
def F2 (G : GG) (k : KY) : Nat × va_E := (gA G k, ct2 G k)
set_option maxRecDepth 20000 in
theorem rows0 {K : KK} {nT h : Nat} {scr : Nat × Nat × (Nat → Int32)} {u : STa} : ∀ n, rowsW K u.1.2.2.1 u.1.2.2.2 n = (rowsK 0 n).map (F2 (GX K nT scr (adK h u)))
  | 0 => rfl
  | n + 1 => by
    show rowsW K u.1.2.2.1 u.1.2.2.2 n ++ rowW K (u.1.2.2.1 n) (u.1.2.2.2 n) = (rowsK 0 n ++ rowK 0 n).map _
    rw [rows0 n, List.map_append]
    rfl
set_option maxRecDepth 20000 in
theorem rows1 {K : KK} {nT h : Nat} {scr : Nat × Nat × (Nat → Int32)} {u : STa} : ∀ n, rowsW K u.2.2.1.2.2.1 u.2.2.1.2.2.2 n = (rowsK 1 n).map (F2 (GX K nT scr (adK h u)))
  | 0 => rfl
  | n + 1 => by
    show rowsW K u.2.2.1.2.2.1 u.2.2.1.2.2.2 n ++ rowW K (u.2.2.1.2.2.1 n) (u.2.2.1.2.2.2 n) = (rowsK 1 n ++ rowK 1 n).map _
    rw [rows1 n, List.map_append]
    rfl
set_option maxRecDepth 20000 in
set_option maxHeartbeats 2000000 in
theorem tab_eq {K : KK} {nT h : Nat} {scr : Nat × Nat × (Nat → Int32)} {u : STa} : tabW K h u = TK.map (F2 (GX K nT scr (adK h u))) := by
  unfold tabW sheW TK
  rw [rows0 (nT := nT) (h := h) (scr := scr), rows1 (nT := nT) (h := h) (scr := scr), List.map_cons, List.map_append, List.map_append, List.map_append, List.map_append, List.map_append, List.map_append]
  rfl
theorem KS0_nodup : KS0.Nodup := by decide +kernel
theorem KS0_TK : ∀ k ∈ KS0, k ∈ TK := by decide +kernel
theorem KS0_lt : ∀ k ∈ KS0, k.1 < 27 := by decide +kernel
theorem cellq_c {cA : ClassId} {f g : Nat → Option Nat} (h : ∀ j, j < 30 → f j = g j) : vp_cell cA (30, .inr (.inr (.inr (.inr f)))) = vp_cell cA (30, .inr (.inr (.inr (.inr g)))) := by
  rw [vp_cell_q, vp_cell_q]
  have e : arrV cA 30 (fun j => va_rf (f j)) = arrV cA 30 (fun j => va_rf (g j)) := by
    have e2 : (fun j : Fin 30 => va_rf (f j.val)) = fun j : Fin 30 => va_rf (g j.val) := funext fun j => by rw [h j.val j.isLt]
    unfold arrV
    rw [e2]
  exact e
theorem WL_P {D : va_G} {G : GG} {ws : va_W} {H : Heap} (hD9 : gD G = D) (hP : va_P D vwCl ws H) (he : ws = TK.map (F2 G)) (hX9 : gX G = []) : va_P (gD G) vwCl (WL G M0) H := fun q x hx => by
  subst he
  unfold WL KS at hx
  rw [hX9, List.append_nil, List.getElem?_map] at hx
  cases hk : KS0[q]? with
  | none => rw [hk] at hx; cases hx
  | some k =>
    rw [hk] at hx
    cases hx
    obtain ⟨i, hi⟩ := List.getElem?_of_mem (KS0_TK k (List.mem_of_getElem? hk))
    have hx := hP i (F2 G k) (by rw [List.getElem?_map, hi]; rfl)
    rw [hD9]
    obtain ⟨f, o, j⟩ := k
    by_cases z : f = 11
    · subst z
      have hx : H[gA G (11, o, j)]? = some (vp_cell (gR G) (30, .inr (.inr (.inr (.inr fun j => if j < 30 then some (gA G (4, o, j)) else none))))) := hx
      show H[gA G (11, o, j)]? = some (vp_cell (gR G) (30, .inr (.inr (.inr (.inr fun j => some (gA G (4, o, j)))))))
      rw [hx, cellq_c (g := fun j => some (gA G (4, o, j))) (fun j hj => by simp [hj])]
    · have e : F2 G (f, o, j) = (gA G (f, o, j), ct G M0 (f, o, j)) := by
        unfold F2 ct2
        rw [if_neg z]
      rw [e] at hx
      exact hx
theorem WL_D0 {G : GG} {A : Nat → Prop} {ws : va_W} (hD : va_D A ws) (he : ws = TK.map (F2 G)) (hX9 : gX G = []) : va_D A (WL G M0) := by
  subst he
  have key : ∀ (q : Nat) (x : Nat × va_E), (WL G M0)[q]? = some x → ∃ k i, KS0[q]? = some k ∧ TK[i]? = some k ∧ x.1 = gA G k ∧ (TK.map (F2 G))[i]? = some (F2 G k) := fun q x hx => by
    unfold WL KS at hx
    rw [hX9, List.append_nil, List.getElem?_map] at hx
    cases hk : KS0[q]? with
    | none => rw [hk] at hx; cases hx
    | some k =>
      rw [hk] at hx
      cases hx
      obtain ⟨i, hi⟩ := List.getElem?_of_mem (KS0_TK k (List.mem_of_getElem? hk))
      exact ⟨k, i, rfl, hi, rfl, by rw [List.getElem?_map, hi]; rfl⟩
  refine ⟨fun i j x y hi hj hxy => ?_, fun q x hx => ?_⟩
  · obtain ⟨k, i', a1, a2, a3, a4⟩ := key i x hi
    obtain ⟨k', j', b1, b2, b3, b4⟩ := key j y hj
    have := hD.1 i' j' _ _ a4 b4 (show gA G k = gA G k' by rw [← a3, ← b3]; exact hxy)
    subst this
    have e : k = k' := Option.some.inj (a2.symm.trans b2)
    subst e
    exact nodup_pos KS0_nodup a1 b1
  · obtain ⟨k, i', a1, a2, a3, a4⟩ := key q x hx
    rw [a3]
    exact hD.2 i' _ a4
theorem GoodG_of {G : GG} {M : Mem} {A : Nat → Prop} (hD : va_D A (WL G M)) (hn : (KS G).Nodup) (hb : ¬ A (gB G)) : GoodG G := by
  refine ⟨fun k hk k' hk' h => ?_, hn, fun k hk h => ?_⟩
  · obtain ⟨i, i1, i2⟩ := WL_at (M := M) hk
    obtain ⟨j, j1, j2⟩ := WL_at (M := M) hk'
    have := hD.1 i j _ _ i2 j2 h
    subst this
    exact Option.some.inj (i1.symm.trans j1)
  · obtain ⟨i, i1, i2⟩ := WL_at (M := M) hk
    exact hb (h ▸ hD.2 i _ i2)
theorem AG_of {G : GG} {M : Mem} {A : Nat → Prop} (hD : va_D A (WL G M)) : ∀ q, AG G q → A q := by
  rintro q ⟨k, hk, rfl⟩
  obtain ⟨i, i1, i2⟩ := WL_at (M := M) hk
  exact hD.2 i _ i2
/-- one more array -/
def GE (G : GG) (fx q : Nat) : GG := (gD G, fun k => if k.1 = fx then q else gA G k, G.2.2.1, gN G, gX G ++ [(fx, 0, 0)], G.2.2.2.2.2)
theorem ctv_GE {G : GG} {fx q f o i : Nat} {v : Nat → Int32} (hfx : fx = 27 ∨ fx = 28 ∨ fx = 29) : ctv (GE G fx q) f o i v = ctv G f o i v := by
  rcases hfx with rfl | rfl | rfl <;> rfl
theorem GE_WL {G : GG} {fx q : Nat} {M : Mem} (hfx : fx = 27 ∨ fx = 28 ∨ fx = 29) (hnew : ∀ k ∈ KS G, k.1 ≠ fx) : WL (GE G fx q) M = WL G M ++ [(q, ctv G fx 0 0 (M fx 0 0))] := by
  have e : KS (GE G fx q) = KS G ++ [(fx, 0, 0)] := (List.append_assoc _ _ _).symm
  unfold WL
  rw [e, List.map_append]
  refine congr (congrArg _ (List.map_congr_left (fun k hk => ?_))) ?_
  · have e1 : gA (GE G fx q) k = gA G k := if_neg (hnew k hk)
    have e2 : ct (GE G fx q) M k = ct G M k := ctv_GE hfx
    rw [e1, e2]
  · have e1 : gA (GE G fx q) (fx, 0, 0) = q := if_pos rfl
    have e2 : ct (GE G fx q) M (fx, 0, 0) = ctv G fx 0 0 (M fx 0 0) := ctv_GE hfx
    show [(gA (GE G fx q) (fx, 0, 0), ct (GE G fx q) M (fx, 0, 0))] = _
    rw [e1, e2]
theorem GE_nodup {G : GG} {fx q : Nat} (hn : (KS G).Nodup) (hnew : ∀ k ∈ KS G, k.1 ≠ fx) : (KS (GE G fx q)).Nodup := by
  have e : KS (GE G fx q) = KS G ++ [(fx, 0, 0)] := (List.append_assoc _ _ _).symm
  rw [e, List.nodup_append]
  refine ⟨hn, by simp, fun a ha b hb => ?_⟩
  simp at hb
  subst hb
  exact fun z => hnew a ha (by rw [z])
theorem Tab_M0 : Tab 0 0 40 30 M0 := by
  have z : ∀ f o i j, ¬ f = 0 → M0 f o i j = 0 := fun f o i j hf => if_neg hf
  refine ⟨⟨⟨rfl, by decide, rfl, by decide⟩, ⟨rfl, by decide, by decide, rfl, by decide, by decide, Or.inr rfl⟩, fun c hc => absurd hc (Nat.not_lt_zero _), fun r _ => ⟨?_, Or.inl rfl, fun c _ => ?_⟩, fun r _ c _ => ?_, fun o _ r _ c _ _ => rfl⟩, fun y => absurd y (by decide)⟩
  · rw [z 4 0 r 4 (by decide)]; decide
  · rw [z 12 0 r c (by decide)]; decide
  · rw [z 13 0 r c (by decide), z 14 0 r c (by decide), z 15 0 r c (by decide)]; exact ⟨by decide, by decide, by decide, by decide, zb_0⟩
