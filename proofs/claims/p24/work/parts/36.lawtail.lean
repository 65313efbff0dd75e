/-! The law's end: nothing has changed. -/
theorem lg_cmp0 (d : Int64) : lg_cmp d d = 0 := by
  unfold lg_cmp
  simp
def TD (k R W H : Nat) (d : Int64) (M : Mem) : Prop := Inv k R W H M ∧ Fresh k R W H M ∧ LW k R W H M ∧ DIG k R M = d
theorem TD_ME {k R W H : Nat} {d : Int64} {M M' : Mem} (h : TD k R W H d M) (hm : MEq M M') (hI : Inv k R W H M') : TD k R W H d M' := by
  have hF := MEq_Fresh hm h.2.1
  exact ⟨hI, hF, LW_LK h.2.2.1 (MEq_LK hm) ⟨hI, fun _ => hF⟩, (DIG_ME hm).trans h.2.2.2⟩
theorem lawB_tail {nT k R W H : Nat} {sc : Int32 → Int32} {Q : Int32 → Mem → Prop} {M : Mem} (hnT : nT = k) (hW : LW k R W H M) (hQ : ∀ M, Q 1 M) : wp_L_lawB_L653 nT sc (nI k) Q M := by
  subst hnT
  unfold wp_L_lawB_L653
  refine sp_digest hW.1 (fun M1 M2 hI hF hl _ hf => ?_)
  have hC6 := hI.1.2.1
  have hR := hI.1.2.2.2
  have m2 := MEq_frL (by decide) hf
  have hI2 : Inv nT R W H M2 := MEq_Inv m2 hI (fun r hr c hc hn => by rw [hf 17 1 (by omega)]; exact hI.2.2.2.2.2 1 (by decide) r hr c hc hn)
  have t2 : TD nT R W H (DIG nT R M1) M2 := TD_ME ⟨hI, hF, LW_LK hW hl ⟨hI, fun _ => hF⟩, rfl⟩ m2 hI2
  generalize DIG nT R M1 = d at t2 ⊢
  have e1 : ∀ M', tblF nT R M' 1 = nI R := fun _ => rfl
  refine up_loop (W := fun n v M => wp_L_lawB_L662 nT sc (nI nT) d _ Q n v M) (fun _ M' => TD nT R W H d M') R M2 t2 ?_ ?_
  · intro n M' t
    unfold wp_L_lawB_L662
    refine sp_manyF t.1 t.2.1 (w := 1) (by decide) ?_
    rw [e1]
    refine ⟨fun _ => ?_, fun z => absurd (Int32.le_refl _) z⟩
    unfold wp_L_lawB_L722
    refine sp_digest t.2.2.1.1 (fun M3 M4 _ _ _ hm _ => ?_)
    rw [hm t.2.1.1, t.2.2.2, lg_cmp0]
    exact ⟨fun _ => hQ M4, fun z => absurd rfl z⟩
  · intro n r M' hr t ih
    unfold wp_L_lawB_L662
    refine sp_manyF t.1 t.2.1 (w := 1) (by decide) ?_
    rw [e1]
    refine ⟨fun z => absurd z (nI_ge (a := r) (b := R) hr (by omega)), fun _ => ?_⟩
    refine up_loop (W := fun m v M => wp_L_lawB_L675 nT sc (nI nT) d (nI r) _ Q m v M) (fun _ M' => TD nT R W H d M') nT M' t ?_ ?_
    · intro m M3 t3
      unfold wp_L_lawB_L675
      refine ⟨fun _ => ?_, fun z => absurd (Int32.le_refl _) z⟩
      unfold wp_L_lawB_L716
      rw [s_nI]
      exact ih M3 t3
    · intro m c M3 hc t3 ih3
      have hcc : (nI c).toNatClampNeg = c := ncl (by omega)
      have next : ∀ M4, TD nT R W H d M4 → wp_L_lawB_L710 nT sc (nI nT) (wp_L_lawB_L675 nT sc (nI nT) d (nI r) (fun M => wp_L_lawB_L716 nT sc (nI nT) (wp_L_lawB_L662 nT sc (nI nT) d (fun M => wp_L_lawB_L722 nT sc (nI nT) Q d M) Q n) (fun M => wp_L_lawB_L722 nT sc (nI nT) Q d M) Q d (nI r) M) Q m) (fun M => wp_L_lawB_L716 nT sc (nI nT) (wp_L_lawB_L662 nT sc (nI nT) d (fun M => wp_L_lawB_L722 nT sc (nI nT) Q d M) Q n) (fun M => wp_L_lawB_L722 nT sc (nI nT) Q d M) Q d (nI r) M) Q d (nI r) (nI c) M4 := fun M4 t4 => by
        unfold wp_L_lawB_L710
        rw [s_nI]
        exact ih3 M4 t4
      unfold wp_L_lawB_L675
      rw [hcc]
      refine ⟨fun z => absurd z (nI_ge (a := c) (b := nT) hc (by omega)), fun _ => ⟨vin hc (by omega), fun z => ?_, fun _ => next M3 t3⟩⟩
      have hk : M3 5 0 0 c = 0 := by rw [← t3.2.2.1.2.1 c hc]; exact z
      refine sp_cell t3.1 t3.2.1 hr hc (w := 0) (by decide) ?_
      have e : cellF nT M3 r c 0 = M3 12 0 r c := if_neg (by rw [hk]; decide)
      rw [e]
      exact sp_changedBy t3.1 t3.2.1 hr hc hk (fun M4 hm hI4 => ⟨fun _ => next M4 (TD_ME t3 hm hI4), fun y => absurd rfl y⟩)
/-- the law, from the arrays on -/
theorem lawB_all {nT k R W H : Nat} {sc : Int32 → Int32} {Q : Int32 → Mem → Prop} {M : Mem} (hnT : nT = k) (hk : 0 < k) (hW : LW k R W H M) (hQ : ∀ M, Q 1 M) : wp_L_lawB nT sc (nI k) M Q := by
  unfold wp_L_lawB
  exact lawB_loop hnT hk hW (fun M' R' W' H' h => lawB_tail hnT h hQ)
