/-! The five constructors. -/
def rowW (K : KK) (h : Nat) (a : Nat → Nat) : va_W := [(h, .inr (1, [.ref (a 1), .ref (a 2), .ref (a 3), .ref (a 4), .int 0, .int 0, .ref (a 5), .ref (a 6)])), (a 1, I_ K 6), (a 2, I_ K 6), (a 3, I_ K 6), (a 4, Z_ K 6), (a 5, I_ K 6), (a 6, Z_ K 6)]
def layW (K : KK) (h : Nat) (a : Nat → Nat) : va_W := [(h, .inr (0, [.int 0, .int 0, .ref (a 1), .ref (a 2), .ref (a 3), .ref (a 4), .int 0, .ref (a 5), .ref (a 6), .ref (a 7), .ref (a 8), .ref (a 9), .int 0, .int 0])), (a 1, I_ K 6), (a 2, I_ K 30), (a 3, I_ K 30), (a 4, I_ K 30), (a 5, I_ K 60), (a 6, I_ K 60), (a 7, I_ K 60), (a 8, I_ K 60), (a 9, I_ K 60)]
set_option maxHeartbeats 4000000 in
set_option maxRecDepth 100000 in
theorem n_X1_init (l : Launch) (K : KK) : CN l K yX1_init wsX1_init 1 12 6 36 (.inr (1, [.null, .null, .null, .null, .int 0, .int 0, .null, .null])) (rowW K) := by
  refine CN_mk (cc := cX1_init) (nL := 1) (by decide +kernel) rfl rfl (Nat.le_refl 1) (fun h0 Z h hr => ?_)
  refine h.aload_n (pc := 0) dX1_init_0 rfl 0 rfl ?_
  refine h.init (by decide +kernel) (by decide +kernel) (by decide +kernel) (by decide) (by decide) dX1_init_1 ?_
  refine h.aload_n (pc := 4) dX1_init_4 rfl 0 rfl ?_
  refine h.bipush (pc := 5) (v := 6) dX1_init_5 (by decide) ?_
  refine h.newI (pc := 7) 6 (by decide) (by decide) (by decide) (by decide) (by decide) (by decide +kernel) dX1_init_7 (fun q4 => ?_)
  refine h.putF (pc := 9) (C := RX1) (T := TX1) (N := 8) (ci := 1) 0 tyX1 tyX1_ok nmX1 (by decide +kernel) rfl rfl (by decide) (by decide +kernel) rfl (by decide +kernel) (by decide +kernel) rfl rfl rfl (Nat.le_of_ble_eq_true rfl) dX1_init_9 ?_
  refine h.aload_n (pc := 12) dX1_init_12 rfl 0 rfl ?_
  refine h.bipush (pc := 13) (v := 6) dX1_init_13 (by decide) ?_
  refine h.newI (pc := 15) 6 (by decide) (by decide) (by decide) (by decide) (by decide) (by decide +kernel) dX1_init_15 (fun q12 => ?_)
  refine h.putF (pc := 17) (C := RX1) (T := TX1) (N := 8) (ci := 1) 1 tyX1 tyX1_ok nmX1 (by decide +kernel) rfl rfl (by decide) (by decide +kernel) rfl (by decide +kernel) (by decide +kernel) rfl rfl rfl (Nat.le_of_ble_eq_true rfl) dX1_init_17 ?_
  refine h.aload_n (pc := 20) dX1_init_20 rfl 0 rfl ?_
  refine h.bipush (pc := 21) (v := 6) dX1_init_21 (by decide) ?_
  refine h.newI (pc := 23) 6 (by decide) (by decide) (by decide) (by decide) (by decide) (by decide +kernel) dX1_init_23 (fun q20 => ?_)
  refine h.putF (pc := 25) (C := RX1) (T := TX1) (N := 8) (ci := 1) 2 tyX1 tyX1_ok nmX1 (by decide +kernel) rfl rfl (by decide) (by decide +kernel) rfl (by decide +kernel) (by decide +kernel) rfl rfl rfl (Nat.le_of_ble_eq_true rfl) dX1_init_25 ?_
  refine h.aload_n (pc := 28) dX1_init_28 rfl 0 rfl ?_
  refine h.bipush (pc := 29) (v := 6) dX1_init_29 (by decide) ?_
  refine h.newZ (pc := 31) 6 (by decide) (by decide) (by decide) (by decide) (by decide) (by decide +kernel) dX1_init_31 (fun q28 => ?_)
  refine h.putF (pc := 33) (C := RX1) (T := TX1) (N := 8) (ci := 1) 3 tyX1 tyX1_ok nmX1 (by decide +kernel) rfl rfl (by decide) (by decide +kernel) rfl (by decide +kernel) (by decide +kernel) rfl rfl rfl (Nat.le_of_ble_eq_true rfl) dX1_init_33 ?_
  refine h.aload_n (pc := 36) dX1_init_36 rfl 0 rfl ?_
  refine h.bipush (pc := 37) (v := 6) dX1_init_37 (by decide) ?_
  refine h.newI (pc := 39) 6 (by decide) (by decide) (by decide) (by decide) (by decide) (by decide +kernel) dX1_init_39 (fun q36 => ?_)
  refine h.putF (pc := 41) (C := RX1) (T := TX1) (N := 8) (ci := 1) 6 tyX1 tyX1_ok nmX1 (by decide +kernel) rfl rfl (by decide) (by decide +kernel) rfl (by decide +kernel) (by decide +kernel) rfl rfl rfl (Nat.le_of_ble_eq_true rfl) dX1_init_41 ?_
  refine h.aload_n (pc := 44) dX1_init_44 rfl 0 rfl ?_
  refine h.bipush (pc := 45) (v := 6) dX1_init_45 (by decide) ?_
  refine h.newZ (pc := 47) 6 (by decide) (by decide) (by decide) (by decide) (by decide) (by decide +kernel) dX1_init_47 (fun q44 => ?_)
  refine h.putF (pc := 49) (C := RX1) (T := TX1) (N := 8) (ci := 1) 7 tyX1 tyX1_ok nmX1 (by decide +kernel) rfl rfl (by decide) (by decide +kernel) rfl (by decide +kernel) (by decide +kernel) rfl rfl rfl (Nat.le_of_ble_eq_true rfl) dX1_init_49 ?_
  exact hr 52 _ (fun j => [0, q4, q12, q20, q28, q36, q44].getD j 0) _ _ _ dX1_init_52 rfl (by decide) (by decide)
set_option maxHeartbeats 4000000 in
set_option maxRecDepth 100000 in
theorem n_X0_init (l : Launch) (K : KK) : CN l K yX0_init wsX0_init 1 12 9 396 (.inr (0, [.int 0, .int 0, .null, .null, .null, .null, .int 0, .null, .null, .null, .null, .null, .int 0, .int 0])) (layW K) := by
  refine CN_mk (cc := cX0_init) (nL := 1) (by decide +kernel) rfl rfl (Nat.le_refl 1) (fun h0 Z h hr => ?_)
  refine h.aload_n (pc := 0) dX0_init_0 rfl 0 rfl ?_
  refine h.init (by decide +kernel) (by decide +kernel) (by decide +kernel) (by decide) (by decide) dX0_init_1 ?_
  refine h.aload_n (pc := 4) dX0_init_4 rfl 0 rfl ?_
  refine h.bipush (pc := 5) (v := 6) dX0_init_5 (by decide) ?_
  refine h.newI (pc := 7) 6 (by decide) (by decide) (by decide) (by decide) (by decide) (by decide +kernel) dX0_init_7 (fun q4 => ?_)
  refine h.putF (pc := 9) (C := RX0) (T := TX0) (N := 14) (ci := 0) 2 tyX0 tyX0_ok nmX0 (by decide +kernel) rfl rfl (by decide) (by decide +kernel) rfl (by decide +kernel) (by decide +kernel) rfl rfl rfl (Nat.le_of_ble_eq_true rfl) dX0_init_9 ?_
  refine h.aload_n (pc := 12) dX0_init_12 rfl 0 rfl ?_
  refine h.bipush (pc := 13) (v := 30) dX0_init_13 (by decide) ?_
  refine h.newI (pc := 15) 30 (by decide) (by decide) (by decide) (by decide) (by decide) (by decide +kernel) dX0_init_15 (fun q12 => ?_)
  refine h.putF (pc := 17) (C := RX0) (T := TX0) (N := 14) (ci := 0) 3 tyX0 tyX0_ok nmX0 (by decide +kernel) rfl rfl (by decide) (by decide +kernel) rfl (by decide +kernel) (by decide +kernel) rfl rfl rfl (Nat.le_of_ble_eq_true rfl) dX0_init_17 ?_
  refine h.aload_n (pc := 20) dX0_init_20 rfl 0 rfl ?_
  refine h.bipush (pc := 21) (v := 30) dX0_init_21 (by decide) ?_
  refine h.newI (pc := 23) 30 (by decide) (by decide) (by decide) (by decide) (by decide) (by decide +kernel) dX0_init_23 (fun q20 => ?_)
  refine h.putF (pc := 25) (C := RX0) (T := TX0) (N := 14) (ci := 0) 4 tyX0 tyX0_ok nmX0 (by decide +kernel) rfl rfl (by decide) (by decide +kernel) rfl (by decide +kernel) (by decide +kernel) rfl rfl rfl (Nat.le_of_ble_eq_true rfl) dX0_init_25 ?_
  refine h.aload_n (pc := 28) dX0_init_28 rfl 0 rfl ?_
  refine h.bipush (pc := 29) (v := 30) dX0_init_29 (by decide) ?_
  refine h.newI (pc := 31) 30 (by decide) (by decide) (by decide) (by decide) (by decide) (by decide +kernel) dX0_init_31 (fun q28 => ?_)
  refine h.putF (pc := 33) (C := RX0) (T := TX0) (N := 14) (ci := 0) 5 tyX0 tyX0_ok nmX0 (by decide +kernel) rfl rfl (by decide) (by decide +kernel) rfl (by decide +kernel) (by decide +kernel) rfl rfl rfl (Nat.le_of_ble_eq_true rfl) dX0_init_33 ?_
  refine h.aload_n (pc := 36) dX0_init_36 rfl 0 rfl ?_
  refine h.bipush (pc := 37) (v := 60) dX0_init_37 (by decide) ?_
  refine h.newI (pc := 39) 60 (by decide) (by decide) (by decide) (by decide) (by decide) (by decide +kernel) dX0_init_39 (fun q36 => ?_)
  refine h.putF (pc := 41) (C := RX0) (T := TX0) (N := 14) (ci := 0) 7 tyX0 tyX0_ok nmX0 (by decide +kernel) rfl rfl (by decide) (by decide +kernel) rfl (by decide +kernel) (by decide +kernel) rfl rfl rfl (Nat.le_of_ble_eq_true rfl) dX0_init_41 ?_
  refine h.aload_n (pc := 44) dX0_init_44 rfl 0 rfl ?_
  refine h.bipush (pc := 45) (v := 60) dX0_init_45 (by decide) ?_
  refine h.newI (pc := 47) 60 (by decide) (by decide) (by decide) (by decide) (by decide) (by decide +kernel) dX0_init_47 (fun q44 => ?_)
  refine h.putF (pc := 49) (C := RX0) (T := TX0) (N := 14) (ci := 0) 8 tyX0 tyX0_ok nmX0 (by decide +kernel) rfl rfl (by decide) (by decide +kernel) rfl (by decide +kernel) (by decide +kernel) rfl rfl rfl (Nat.le_of_ble_eq_true rfl) dX0_init_49 ?_
  refine h.aload_n (pc := 52) dX0_init_52 rfl 0 rfl ?_
  refine h.bipush (pc := 53) (v := 60) dX0_init_53 (by decide) ?_
  refine h.newI (pc := 55) 60 (by decide) (by decide) (by decide) (by decide) (by decide) (by decide +kernel) dX0_init_55 (fun q52 => ?_)
  refine h.putF (pc := 57) (C := RX0) (T := TX0) (N := 14) (ci := 0) 9 tyX0 tyX0_ok nmX0 (by decide +kernel) rfl rfl (by decide) (by decide +kernel) rfl (by decide +kernel) (by decide +kernel) rfl rfl rfl (Nat.le_of_ble_eq_true rfl) dX0_init_57 ?_
  refine h.aload_n (pc := 60) dX0_init_60 rfl 0 rfl ?_
  refine h.bipush (pc := 61) (v := 60) dX0_init_61 (by decide) ?_
  refine h.newI (pc := 63) 60 (by decide) (by decide) (by decide) (by decide) (by decide) (by decide +kernel) dX0_init_63 (fun q60 => ?_)
  refine h.putF (pc := 65) (C := RX0) (T := TX0) (N := 14) (ci := 0) 10 tyX0 tyX0_ok nmX0 (by decide +kernel) rfl rfl (by decide) (by decide +kernel) rfl (by decide +kernel) (by decide +kernel) rfl rfl rfl (Nat.le_of_ble_eq_true rfl) dX0_init_65 ?_
  refine h.aload_n (pc := 68) dX0_init_68 rfl 0 rfl ?_
  refine h.bipush (pc := 69) (v := 60) dX0_init_69 (by decide) ?_
  refine h.newI (pc := 71) 60 (by decide) (by decide) (by decide) (by decide) (by decide) (by decide +kernel) dX0_init_71 (fun q68 => ?_)
  refine h.putF (pc := 73) (C := RX0) (T := TX0) (N := 14) (ci := 0) 11 tyX0 tyX0_ok nmX0 (by decide +kernel) rfl rfl (by decide) (by decide +kernel) rfl (by decide +kernel) (by decide +kernel) rfl rfl rfl (Nat.le_of_ble_eq_true rfl) dX0_init_73 ?_
  exact hr 76 _ (fun j => [0, q4, q12, q20, q28, q36, q44, q52, q60, q68].getD j 0) _ _ _ dX0_init_76 rfl (by decide) (by decide)
