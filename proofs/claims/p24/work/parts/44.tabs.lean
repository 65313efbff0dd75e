/-! What the tables say of nest mates and arrays. -/
theorem nml_in : ∀ q ∈ NML, Cond.methodLinkNest q.1 q.2.1 q.2.2.1 q.2.2.2 ∈ lw_tbl := by decide +kernel
theorem ao_in : Cond.arrayOver (.object RX1) ∈ lw_tbl := by decide +kernel
theorem nwf_in : ∀ q ∈ NWF, nwc q ∈ lw_tbl := by decide +kernel
theorem li0 : Cond.instantiable RX0 14 ∈ wsL_law := by decide +kernel
theorem li1 : Cond.instantiable RX1 8 ∈ wsL_law := by decide +kernel
theorem li2 : Cond.instantiable RX2 3 ∈ wsL_law := by decide +kernel
theorem li3 : Cond.instantiable RX3 9 ∈ wsL_law := by decide +kernel
theorem li4 : Cond.instantiable RX4 8 ∈ wsL_law := by decide +kernel
theorem laI : Cond.arrayClass .int ∈ wsL_law := by decide +kernel
theorem laZ : Cond.arrayClass .boolean ∈ wsL_law := by decide +kernel
abbrev AA (s : State) : Nat → Prop := fun q => s.heap.size ≤ q
abbrev G0f (K : KK) (j0 b L : Nat) (xs : Nat → Int32) (q : Nat) (u : STa) : GG := GX K (2 + j0) (b, L, xs) (adK q u)
theorem ne_a {G : GG} {fx : Nat} (hfx : 27 ≤ fx) (hX : ∀ k ∈ gX G, k.1 ≠ fx) : ∀ k ∈ KS G, k.1 ≠ fx := fun k hk => by
  rcases List.mem_append.mp hk with h | h
  · have := KS0_lt k h; omega
  · exact hX k h
