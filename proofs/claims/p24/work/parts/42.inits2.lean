def setW (K : KK) (h : Nat) (u : Nat × (Nat → Nat) × Nat × (Nat → Nat)) : va_W := (h, .inr (2, [.ref u.1, .ref u.2.2.1, .int 0])) :: (layW K u.1 u.2.1 ++ layW K u.2.2.1 u.2.2.2)
def sheB (K : KK) (h : Nat) (a hr : Nat → Nat) (n : Nat) : va_W := [(h, .inr (3, [.int 0, .ref (a 1), .ref (a 2), .ref (a 3), .ref (a 4), .int 0, .ref (a 5), .ref (a 6), .ref (a 7)])), (a 1, I_ K 6), (a 2, I_ K 6), (a 3, I_ K 6), (a 4, I_ K 6), (a 5, .inl (K.2.2.2, 30, .inr (.inr (.inr (.inr (fun j => if j < n then some (hr j) else none)))))), (a 6, I_ K 6), (a 7, I_ K 6)]
def rowsW (K : KK) (hr : Nat → Nat) (r : Nat → Nat → Nat) : Nat → va_W
  | 0 => []
  | n + 1 => rowsW K hr r n ++ rowW K (hr n) (r n)
def sheW (K : KK) (h : Nat) (u : (Nat → Nat) × (Nat → Nat) × (Nat → Nat → Nat)) : va_W := sheB K h u.1 u.2.1 30 ++ rowsW K u.2.1 u.2.2 30
abbrev SSh : Type := (Nat → Nat) × (Nat → Nat) × (Nat → Nat → Nat)
abbrev SSe : Type := Nat × (Nat → Nat) × Nat × (Nat → Nat)
abbrev STa : Type := (Nat × SSh) × (Nat × SSe) × (Nat × SSh) × (Nat × SSe) × (Nat × (Nat → Nat))
def tabW (K : KK) (h : Nat) (u : STa) : va_W := (h, .inr (4, [.ref u.1.1, .ref u.2.1.1, .int 40, .int 30, .int 1, .ref u.2.2.1.1, .ref u.2.2.2.1.1, .ref u.2.2.2.2.1])) :: ((((sheW K u.1.1 u.1.2 ++ setW K u.2.1.1 u.2.1.2) ++ sheW K u.2.2.1.1 u.2.2.1.2) ++ setW K u.2.2.2.1.1 u.2.2.2.1.2) ++ layW K u.2.2.2.2.1 u.2.2.2.2.2)
theorem rowsW_c {K : KK} {hr hr' : Nat → Nat} {r r' : Nat → Nat → Nat} : ∀ n, (∀ j, j < n → hr j = hr' j ∧ r j = r' j) → rowsW K hr r n = rowsW K hr' r' n
  | 0, _ => rfl
  | n + 1, h => by
    have e := h n (by omega)
    simp only [rowsW, rowsW_c n (fun j hj => h j (by omega)), e.1, e.2]
set_option maxHeartbeats 4000000 in
set_option maxRecDepth 100000 in
theorem n_X2_init (l : Launch) (K : KK) : CN l K yX2_init wsX2_init 2 32 20 820 (.inr (2, [.null, .null, .int 0])) (setW K) := by
  refine CN_mk (cc := cX2_init) (nL := 1) (by decide +kernel) rfl rfl (by decide) (fun h0 Z h hr => ?_)
  refine h.aload_n (pc := 0) dX2_init_0 rfl 0 rfl ?_
  refine h.init (by decide +kernel) (by decide +kernel) (by decide +kernel) (by decide) (by decide) dX2_init_1 ?_
  refine h.aload_n (pc := 4) dX2_init_4 rfl 0 rfl ?_
  refine h.new (pc := 5) (C := RX0) (T := TX0) (N := 14) (ci := 0) [.int 0, .int 0, .null, .null, .null, .null, .int 0, .null, .null, .null, .null, .null, .int 0, .int 0] tyX0 tyX0_ok (by decide +kernel) (by decide +kernel) (by decide +kernel) (by decide +kernel) rfl (fun j hj => by rcases (show j = 0 ∨ j = 1 ∨ j = 2 ∨ j = 3 ∨ j = 4 ∨ j = 5 ∨ j = 6 ∨ j = 7 ∨ j = 8 ∨ j = 9 ∨ j = 10 ∨ j = 11 ∨ j = 12 ∨ j = 13 by omega) with rfl | rfl | rfl | rfl | rfl | rfl | rfl | rfl | rfl | rfl | rfl | rfl | rfl | rfl <;> rfl) (by decide) (by decide) dX2_init_5 (fun q4 => ?_)
  refine h.dup (pc := 8) dX2_init_8 rfl ?_
  refine h.callN (pc := 9) (n_X0_init l K) gX2_init_X0_init_n9 rfl (by decide +kernel) (by decide +kernel) (by decide +kernel) rfl (by decide +kernel) (by decide) (by decide) (by decide) (Nat.le_of_ble_eq_true rfl) dX2_init_9 (fun u4 => ?_)
  refine h.putF (pc := 12) (C := RX2) (T := TX2) (N := 3) (ci := 2) 0 tyX2 tyX2_ok nmX2 (by decide +kernel) rfl rfl (by decide) (by decide +kernel) rfl (by decide +kernel) (by decide +kernel) rfl rfl rfl (Nat.le_of_ble_eq_true rfl) dX2_init_12 ?_
  refine h.aload_n (pc := 15) dX2_init_15 rfl 0 rfl ?_
  refine h.new (pc := 16) (C := RX0) (T := TX0) (N := 14) (ci := 0) [.int 0, .int 0, .null, .null, .null, .null, .int 0, .null, .null, .null, .null, .null, .int 0, .int 0] tyX0 tyX0_ok (by decide +kernel) (by decide +kernel) (by decide +kernel) (by decide +kernel) rfl (fun j hj => by rcases (show j = 0 ∨ j = 1 ∨ j = 2 ∨ j = 3 ∨ j = 4 ∨ j = 5 ∨ j = 6 ∨ j = 7 ∨ j = 8 ∨ j = 9 ∨ j = 10 ∨ j = 11 ∨ j = 12 ∨ j = 13 by omega) with rfl | rfl | rfl | rfl | rfl | rfl | rfl | rfl | rfl | rfl | rfl | rfl | rfl | rfl <;> rfl) (by decide) (by decide) dX2_init_16 (fun q15 => ?_)
  refine h.dup (pc := 19) dX2_init_19 rfl ?_
  refine h.callN (pc := 20) (n_X0_init l K) gX2_init_X0_init_n9 rfl (by decide +kernel) (by decide +kernel) (by decide +kernel) rfl (by decide +kernel) (by decide) (by decide) (by decide) (Nat.le_of_ble_eq_true rfl) dX2_init_20 (fun u15 => ?_)
  refine h.putF (pc := 23) (C := RX2) (T := TX2) (N := 3) (ci := 2) 1 tyX2 tyX2_ok nmX2 (by decide +kernel) rfl rfl (by decide) (by decide +kernel) rfl (by decide +kernel) (by decide +kernel) rfl rfl rfl (Nat.le_of_ble_eq_true rfl) dX2_init_23 ?_
  exact hr 26 _ (q4, u4, q15, u15) _ _ _ dX2_init_26 rfl (by decide) (by decide)
theorem upN (f : Nat → Nat) (i x : Nat) : ∃ g : Nat → Nat, g i = x ∧ ∀ j, j < i → g j = f j := ⟨fun j => if j = i then x else f j, by simp, fun j hj => by simp [show ¬ j = i by omega]⟩
theorem upF (f : Nat → Nat → Nat) (i : Nat) (x : Nat → Nat) : ∃ g : Nat → Nat → Nat, g i = x ∧ ∀ j, j < i → g j = f j := ⟨fun j => if j = i then x else f j, by simp, fun j hj => by simp [show ¬ j = i by omega]⟩
set_option maxHeartbeats 4000000 in
set_option maxRecDepth 100000 in
theorem she_loop {l : Launch} {K : KK} {Z : YT} {h0 : Nat} {a : Nat → Nat} (h : BX l K cX3_init 2 RX3 wsX3_init 2 32 217 1386 Z) (hret : ∀ (pc : Nat) (lv : List (Nat × Value)) (u : SSh) (w : va_W) (cs sl : Nat), decode cX3_init pc = .ok (.return_, 1) → w = sheW K h0 u → cs ≤ 217 → sl ≤ 1386 → Z pc lv [] w cs sl) :
    ∀ (k i : Nat) (hr : Nat → Nat) (r : Nat → Nat → Nat), i + k = 30 → Z 63 [(1, .int (nI i)), (0, .ref h0)] [] (sheB K h0 a hr i ++ rowsW K hr r i) (7 + 7 * i) (66 + 44 * i) := by
  intro k
  induction k with
  | zero =>
    intro i hr r hi
    have : i = 30 := by omega
    subst this
    refine h.iload_n (pc := 63) dX3_init_63 rfl 0 rfl ?_
    refine h.bipush (pc := 64) (v := 30) dX3_init_64 (by decide) ?_
    refine h.icmp_ge (pc := 66) 88 dX3_init_66 (by decide) (fun _ => ?_) (fun z => absurd (by decide) z)
    exact hret 88 _ (a, hr, r) _ _ _ dX3_init_88 rfl (by decide) (by decide)
  | succ k ih =>
    intro i hr r hi
    refine h.iload_n (pc := 63) dX3_init_63 rfl 0 rfl ?_
    refine h.bipush (pc := 64) (v := 30) dX3_init_64 (by decide) ?_
    refine h.icmp_ge (pc := 66) 88 dX3_init_66 (by decide) (fun z => absurd z (nI_ge (a := i) (b := 30) (by omega) (by decide))) (fun _ => ?_)
    refine h.aload_n (pc := 69) dX3_init_69 rfl 1 rfl ?_
    refine h.getf (pc := 70) (C := RX3) (T := TX3) (N := 9) (ci := 3) (a := h0) 6 (by decide +kernel) rfl rfl (by decide) (by decide +kernel) rfl dX3_init_70 ?_
    refine h.iload_n (pc := 73) dX3_init_73 rfl 0 rfl ?_
    refine h.new (pc := 74) (C := RX1) (T := TX1) (N := 8) (ci := 1) [.null, .null, .null, .null, .int 0, .int 0, .null, .null] tyX1 tyX1_ok (by decide +kernel) (by decide +kernel) (by decide +kernel) (by decide +kernel) rfl (fun j hj => by rcases (show j = 0 ∨ j = 1 ∨ j = 2 ∨ j = 3 ∨ j = 4 ∨ j = 5 ∨ j = 6 ∨ j = 7 by omega) with rfl | rfl | rfl | rfl | rfl | rfl | rfl | rfl <;> rfl) (by omega) (by omega) dX3_init_74 (fun q => ?_)
    refine h.dup (pc := 77) dX3_init_77 rfl ?_
    refine h.callN (pc := 78) (n_X1_init l K) gX3_init_X1_init_n36 rfl (by decide +kernel) (by decide +kernel) (by decide +kernel) rfl (by decide +kernel) (by decide) (by omega) (by omega) (Nat.le_of_ble_eq_true rfl) dX3_init_78 (fun u => ?_)
    refine h.aast (pc := 81) 5 (sheB K h0 a hr i ++ rowsW K hr r i).length rfl (by rw [List.getElem?_append_right (Nat.le_refl _), Nat.sub_self]; rfl) (vin (n := i) (N := 30) (by omega) (by decide)) dX3_init_81 ?_
    refine h.iinc (pc := 82) [(1, .int (nI (i + 1))), (0, .ref h0)] dX3_init_82 0 rfl (nI_1 i) (by decide) rfl ?_
    refine h.goto (pc := 85) 63 dX3_init_85 (by decide) ?_
    obtain ⟨hr', e1, e2⟩ := upN hr i q
    obtain ⟨r', e3, e4⟩ := upF r i u
    refine h.eqw (ws' := sheB K h0 a hr' (i + 1) ++ rowsW K hr' r' (i + 1)) (cs' := 7 + 7 * (i + 1)) (sl' := 66 + 44 * (i + 1)) ?_ (by omega) (by omega) (ih (i + 1) hr' r' (by omega))
    have ef : va_up (fun j => if j < i then some (hr j) else none) (nI i).toNatClampNeg (some q) = fun j => if j < i + 1 then some (hr' j) else none := by
      rw [ncl (by omega)]
      funext j
      unfold va_up
      by_cases z : j = i
      · subst z; simp [e1]
      · by_cases y : j < i
        · simp [z, y, show j < i + 1 by omega, e2 j y]
        · simp [z, y, show ¬ j < i + 1 by omega]
    have er : rowsW K hr' r' (i + 1) = rowsW K hr r i ++ rowW K q u := by
      show rowsW K hr' r' i ++ rowW K (hr' i) (r' i) = _
      rw [e1, e3, rowsW_c i (fun j hj => ⟨e2 j hj, e4 j hj⟩)]
    rw [ef, er, List.append_assoc]
    rfl
set_option maxHeartbeats 4000000 in
set_option maxRecDepth 100000 in
theorem n_X3_init (l : Launch) (K : KK) : CN l K yX3_init wsX3_init 2 32 217 1386 (.inr (3, [.int 0, .null, .null, .null, .null, .int 0, .null, .null, .null])) (sheW K) := by
  refine CN_mk (cc := cX3_init) (nL := 2) (by decide +kernel) rfl rfl (by decide) (fun h0 Z h hr => ?_)
  refine h.aload_n (pc := 0) dX3_init_0 rfl 0 rfl ?_
  refine h.init (by decide +kernel) (by decide +kernel) (by decide +kernel) (by decide) (by decide) dX3_init_1 ?_
  refine h.aload_n (pc := 4) dX3_init_4 rfl 0 rfl ?_
  refine h.bipush (pc := 5) (v := 6) dX3_init_5 (by decide) ?_
  refine h.newI (pc := 7) 6 (by decide) (by decide) (by decide) (by decide) (by decide) (by decide +kernel) dX3_init_7 (fun q4 => ?_)
  refine h.putF (pc := 9) (C := RX3) (T := TX3) (N := 9) (ci := 3) 1 tyX3 tyX3_ok nmX3 (by decide +kernel) rfl rfl (by decide) (by decide +kernel) rfl (by decide +kernel) (by decide +kernel) rfl rfl rfl (Nat.le_of_ble_eq_true rfl) dX3_init_9 ?_
  refine h.aload_n (pc := 12) dX3_init_12 rfl 0 rfl ?_
  refine h.bipush (pc := 13) (v := 6) dX3_init_13 (by decide) ?_
  refine h.newI (pc := 15) 6 (by decide) (by decide) (by decide) (by decide) (by decide) (by decide +kernel) dX3_init_15 (fun q12 => ?_)
  refine h.putF (pc := 17) (C := RX3) (T := TX3) (N := 9) (ci := 3) 2 tyX3 tyX3_ok nmX3 (by decide +kernel) rfl rfl (by decide) (by decide +kernel) rfl (by decide +kernel) (by decide +kernel) rfl rfl rfl (Nat.le_of_ble_eq_true rfl) dX3_init_17 ?_
  refine h.aload_n (pc := 20) dX3_init_20 rfl 0 rfl ?_
  refine h.bipush (pc := 21) (v := 6) dX3_init_21 (by decide) ?_
  refine h.newI (pc := 23) 6 (by decide) (by decide) (by decide) (by decide) (by decide) (by decide +kernel) dX3_init_23 (fun q20 => ?_)
  refine h.putF (pc := 25) (C := RX3) (T := TX3) (N := 9) (ci := 3) 3 tyX3 tyX3_ok nmX3 (by decide +kernel) rfl rfl (by decide) (by decide +kernel) rfl (by decide +kernel) (by decide +kernel) rfl rfl rfl (Nat.le_of_ble_eq_true rfl) dX3_init_25 ?_
  refine h.aload_n (pc := 28) dX3_init_28 rfl 0 rfl ?_
  refine h.bipush (pc := 29) (v := 6) dX3_init_29 (by decide) ?_
  refine h.newI (pc := 31) 6 (by decide) (by decide) (by decide) (by decide) (by decide) (by decide +kernel) dX3_init_31 (fun q28 => ?_)
  refine h.putF (pc := 33) (C := RX3) (T := TX3) (N := 9) (ci := 3) 4 tyX3 tyX3_ok nmX3 (by decide +kernel) rfl rfl (by decide) (by decide +kernel) rfl (by decide +kernel) (by decide +kernel) rfl rfl rfl (Nat.le_of_ble_eq_true rfl) dX3_init_33 ?_
  refine h.aload_n (pc := 36) dX3_init_36 rfl 0 rfl ?_
  refine h.bipush (pc := 37) (v := 30) dX3_init_37 (by decide) ?_
  refine h.newq (pc := 39) 30 (by decide) (by decide) (by decide) (by decide) (by decide) (by decide +kernel) dX3_init_39 (fun q36 => ?_)
  refine h.putF (pc := 42) (C := RX3) (T := TX3) (N := 9) (ci := 3) 6 tyX3 tyX3_ok nmX3 (by decide +kernel) rfl rfl (by decide) (by decide +kernel) rfl (by decide +kernel) (by decide +kernel) rfl rfl rfl (Nat.le_of_ble_eq_true rfl) dX3_init_42 ?_
  refine h.aload_n (pc := 45) dX3_init_45 rfl 0 rfl ?_
  refine h.bipush (pc := 46) (v := 6) dX3_init_46 (by decide) ?_
  refine h.newI (pc := 48) 6 (by decide) (by decide) (by decide) (by decide) (by decide) (by decide +kernel) dX3_init_48 (fun q45 => ?_)
  refine h.putF (pc := 50) (C := RX3) (T := TX3) (N := 9) (ci := 3) 7 tyX3 tyX3_ok nmX3 (by decide +kernel) rfl rfl (by decide) (by decide +kernel) rfl (by decide +kernel) (by decide +kernel) rfl rfl rfl (Nat.le_of_ble_eq_true rfl) dX3_init_50 ?_
  refine h.aload_n (pc := 53) dX3_init_53 rfl 0 rfl ?_
  refine h.bipush (pc := 54) (v := 6) dX3_init_54 (by decide) ?_
  refine h.newI (pc := 56) 6 (by decide) (by decide) (by decide) (by decide) (by decide) (by decide +kernel) dX3_init_56 (fun q53 => ?_)
  refine h.putF (pc := 58) (C := RX3) (T := TX3) (N := 9) (ci := 3) 8 tyX3 tyX3_ok nmX3 (by decide +kernel) rfl rfl (by decide) (by decide +kernel) rfl (by decide +kernel) (by decide +kernel) rfl rfl rfl (Nat.le_of_ble_eq_true rfl) dX3_init_58 ?_
  refine h.iconst (pc := 61) (v := 0) dX3_init_61 (by decide) ?_
  refine h.istore_n (pc := 62) [(1, .int 0), (0, .ref h0)] dX3_init_62 rfl (by decide) rfl ?_
  have e0 : (fun j => if j < 0 then some ((fun _ : Nat => 0) j) else none) = fun _ : Nat => (none : Option Nat) := by funext j; simp
  refine h.eqw (ws' := sheB K h0 (fun j => [0, q4, q12, q20, q28, q36, q45, q53].getD j 0) (fun _ => 0) 0 ++ rowsW K (fun _ => 0) (fun _ _ => 0) 0) (cs' := 7 + 7 * 0) (sl' := 66 + 44 * 0) (by unfold sheB; rw [e0]; rfl) rfl rfl ?_
  exact she_loop h hr 30 0 _ _ (by decide)
set_option maxHeartbeats 4000000 in
set_option maxRecDepth 100000 in
theorem n_X4_init (l : Launch) (K : KK) : CN l K yX4_init wsX4_init 3 53 488 4846 (.inr (4, [.null, .null, .int 0, .int 0, .int 0, .null, .null, .null])) (tabW K) := by
  refine CN_mk (cc := cX4_init) (nL := 1) (by decide +kernel) rfl rfl (by decide) (fun h0 Z h hr => ?_)
  refine h.aload_n (pc := 0) dX4_init_0 rfl 0 rfl ?_
  refine h.init (by decide +kernel) (by decide +kernel) (by decide +kernel) (by decide) (by decide) dX4_init_1 ?_
  refine h.aload_n (pc := 4) dX4_init_4 rfl 0 rfl ?_
  refine h.new (pc := 5) (C := RX3) (T := TX3) (N := 9) (ci := 3) [.int 0, .null, .null, .null, .null, .int 0, .null, .null, .null] tyX3 tyX3_ok (by decide +kernel) (by decide +kernel) (by decide +kernel) (by decide +kernel) rfl (fun j hj => by rcases (show j = 0 ∨ j = 1 ∨ j = 2 ∨ j = 3 ∨ j = 4 ∨ j = 5 ∨ j = 6 ∨ j = 7 ∨ j = 8 by omega) with rfl | rfl | rfl | rfl | rfl | rfl | rfl | rfl | rfl <;> rfl) (by decide) (by decide) dX4_init_5 (fun q4 => ?_)
  refine h.dup (pc := 8) dX4_init_8 rfl ?_
  refine h.callP (pc := 9) (n_X3_init l K) gX4_init_X3_init rfl (by decide +kernel) (by decide +kernel) (by decide +kernel) rfl (by decide +kernel) (by decide) (by decide) (by decide) (Nat.le_of_ble_eq_true rfl) dX4_init_9 (fun u4 => ?_)
  refine h.putF (pc := 12) (C := RX4) (T := TX4) (N := 8) (ci := 4) 0 tyX4 tyX4_ok nmX4 (by decide +kernel) rfl rfl (by decide) (by decide +kernel) rfl (by decide +kernel) (by decide +kernel) rfl rfl rfl (Nat.le_of_ble_eq_true rfl) dX4_init_12 ?_
  refine h.aload_n (pc := 15) dX4_init_15 rfl 0 rfl ?_
  refine h.new (pc := 16) (C := RX2) (T := TX2) (N := 3) (ci := 2) [.null, .null, .int 0] tyX2 tyX2_ok (by decide +kernel) (by decide +kernel) (by decide +kernel) (by decide +kernel) rfl (fun j hj => by rcases (show j = 0 ∨ j = 1 ∨ j = 2 by omega) with rfl | rfl | rfl <;> rfl) (by decide) (by decide) dX4_init_16 (fun q15 => ?_)
  refine h.dup (pc := 19) dX4_init_19 rfl ?_
  refine h.callN (pc := 20) (n_X2_init l K) gX4_init_X2_init_n18 rfl (by decide +kernel) (by decide +kernel) (by decide +kernel) rfl (by decide +kernel) (by decide) (by decide) (by decide) (Nat.le_of_ble_eq_true rfl) dX4_init_20 (fun u15 => ?_)
  refine h.putF (pc := 23) (C := RX4) (T := TX4) (N := 8) (ci := 4) 1 tyX4 tyX4_ok nmX4 (by decide +kernel) rfl rfl (by decide) (by decide +kernel) rfl (by decide +kernel) (by decide +kernel) rfl rfl rfl (Nat.le_of_ble_eq_true rfl) dX4_init_23 ?_
  refine h.aload_n (pc := 26) dX4_init_26 rfl 0 rfl ?_
  refine h.bipush (pc := 27) (v := 40) dX4_init_27 (by decide) ?_
  refine h.put (pc := 29) (C := RX4) (T := TX4) (N := 8) (ci := 4) 2 tyX4 tyX4_ok nmX4 (by decide +kernel) rfl rfl (by decide) (by decide +kernel) rfl rfl rfl rfl (Nat.le_of_ble_eq_true rfl) dX4_init_29 ?_
  refine h.aload_n (pc := 32) dX4_init_32 rfl 0 rfl ?_
  refine h.bipush (pc := 33) (v := 30) dX4_init_33 (by decide) ?_
  refine h.put (pc := 35) (C := RX4) (T := TX4) (N := 8) (ci := 4) 3 tyX4 tyX4_ok nmX4 (by decide +kernel) rfl rfl (by decide) (by decide +kernel) rfl rfl rfl rfl (Nat.le_of_ble_eq_true rfl) dX4_init_35 ?_
  refine h.aload_n (pc := 38) dX4_init_38 rfl 0 rfl ?_
  refine h.iconst (pc := 39) (v := 1) dX4_init_39 (by decide) ?_
  refine h.put (pc := 40) (C := RX4) (T := TX4) (N := 8) (ci := 4) 4 tyX4 tyX4_ok nmX4 (by decide +kernel) rfl rfl (by decide) (by decide +kernel) rfl rfl rfl rfl (Nat.le_of_ble_eq_true rfl) dX4_init_40 ?_
  refine h.aload_n (pc := 43) dX4_init_43 rfl 0 rfl ?_
  refine h.new (pc := 44) (C := RX3) (T := TX3) (N := 9) (ci := 3) [.int 0, .null, .null, .null, .null, .int 0, .null, .null, .null] tyX3 tyX3_ok (by decide +kernel) (by decide +kernel) (by decide +kernel) (by decide +kernel) rfl (fun j hj => by rcases (show j = 0 ∨ j = 1 ∨ j = 2 ∨ j = 3 ∨ j = 4 ∨ j = 5 ∨ j = 6 ∨ j = 7 ∨ j = 8 by omega) with rfl | rfl | rfl | rfl | rfl | rfl | rfl | rfl | rfl <;> rfl) (by decide) (by decide) dX4_init_44 (fun q43 => ?_)
  refine h.dup (pc := 47) dX4_init_47 rfl ?_
  refine h.callP (pc := 48) (n_X3_init l K) gX4_init_X3_init rfl (by decide +kernel) (by decide +kernel) (by decide +kernel) rfl (by decide +kernel) (by decide) (by decide) (by decide) (Nat.le_of_ble_eq_true rfl) dX4_init_48 (fun u43 => ?_)
  refine h.putF (pc := 51) (C := RX4) (T := TX4) (N := 8) (ci := 4) 5 tyX4 tyX4_ok nmX4 (by decide +kernel) rfl rfl (by decide) (by decide +kernel) rfl (by decide +kernel) (by decide +kernel) rfl rfl rfl (Nat.le_of_ble_eq_true rfl) dX4_init_51 ?_
  refine h.aload_n (pc := 54) dX4_init_54 rfl 0 rfl ?_
  refine h.new (pc := 55) (C := RX2) (T := TX2) (N := 3) (ci := 2) [.null, .null, .int 0] tyX2 tyX2_ok (by decide +kernel) (by decide +kernel) (by decide +kernel) (by decide +kernel) rfl (fun j hj => by rcases (show j = 0 ∨ j = 1 ∨ j = 2 by omega) with rfl | rfl | rfl <;> rfl) (by decide) (by decide) dX4_init_55 (fun q54 => ?_)
  refine h.dup (pc := 58) dX4_init_58 rfl ?_
  refine h.callN (pc := 59) (n_X2_init l K) gX4_init_X2_init_n18 rfl (by decide +kernel) (by decide +kernel) (by decide +kernel) rfl (by decide +kernel) (by decide) (by decide) (by decide) (Nat.le_of_ble_eq_true rfl) dX4_init_59 (fun u54 => ?_)
  refine h.putF (pc := 62) (C := RX4) (T := TX4) (N := 8) (ci := 4) 6 tyX4 tyX4_ok nmX4 (by decide +kernel) rfl rfl (by decide) (by decide +kernel) rfl (by decide +kernel) (by decide +kernel) rfl rfl rfl (Nat.le_of_ble_eq_true rfl) dX4_init_62 ?_
  refine h.aload_n (pc := 65) dX4_init_65 rfl 0 rfl ?_
  refine h.new (pc := 66) (C := RX0) (T := TX0) (N := 14) (ci := 0) [.int 0, .int 0, .null, .null, .null, .null, .int 0, .null, .null, .null, .null, .null, .int 0, .int 0] tyX0 tyX0_ok (by decide +kernel) (by decide +kernel) (by decide +kernel) (by decide +kernel) rfl (fun j hj => by rcases (show j = 0 ∨ j = 1 ∨ j = 2 ∨ j = 3 ∨ j = 4 ∨ j = 5 ∨ j = 6 ∨ j = 7 ∨ j = 8 ∨ j = 9 ∨ j = 10 ∨ j = 11 ∨ j = 12 ∨ j = 13 by omega) with rfl | rfl | rfl | rfl | rfl | rfl | rfl | rfl | rfl | rfl | rfl | rfl | rfl | rfl <;> rfl) (by decide) (by decide) dX4_init_66 (fun q65 => ?_)
  refine h.dup (pc := 69) dX4_init_69 rfl ?_
  refine h.callN (pc := 70) (n_X0_init l K) gX4_init_X0_init_n42 rfl (by decide +kernel) (by decide +kernel) (by decide +kernel) rfl (by decide +kernel) (by decide) (by decide) (by decide) (Nat.le_of_ble_eq_true rfl) dX4_init_70 (fun u65 => ?_)
  refine h.putF (pc := 73) (C := RX4) (T := TX4) (N := 8) (ci := 4) 7 tyX4 tyX4_ok nmX4 (by decide +kernel) rfl rfl (by decide) (by decide +kernel) rfl (by decide +kernel) (by decide +kernel) rfl rfl rfl (Nat.le_of_ble_eq_true rfl) dX4_init_73 ?_
  exact hr 76 _ ((q4, u4), (q15, u15), (q43, u43), (q54, u54), (q65, u65)) _ _ _ dX4_init_76 rfl (by decide) (by decide)
