/-! what is known at the law's entry: the classes' numbers, the static arrays, the texts -/
section LKN
variable {s : State} {args : Array Value}
theorem xArr_of {n : String} {f : Nat → Int32} (hl : (Cond.laysStatic "StandIns" n "[I").before args s = true) (hini : (Cond.initialized "StandIns").before args s = true) (harr : (Cond.arrayOf (.static "StandIns" n "[I") .int).before args s = true) (hlen : (Cond.eq (.length (.static "StandIns" n "[I")) (.int 5)).before args s = true) (hel : ∀ j : Nat, j < 5 → (Cond.eq (.elem (.static "StandIns" n "[I") (.int (Int32.ofNat j))) (.int (f j))).before args s = true) : xArr n f (fun q => s.heap.size ≤ q) s s.heap := by
  obtain ⟨t, h1, h2⟩ := va_Tof (N := 5) (f := fun j => .int (f j)) (A := fun q => s.heap.size ≤ q) (by decide) harr (va_eqt hlen) (fun j hj => va_eqt (hel j hj)) (fun a ha => Nat.not_le.mpr ha)
  exact ⟨t, va_Zref hl hini h1 (fun a ha => Nat.not_le.mpr ha), h2⟩
theorem vkR_of {k : Nat} {tx : String} (h1 : (Cond.stringRef "StandIns" k tx).before args s = true) (h2 : (Cond.exactly (.string "StandIns" k) "java/lang/String").before args s = true) : ∃ a : Nat, vk_R "StandIns" k tx a s := by
  obtain ⟨a, -, -, -, q1, -⟩ := Cond.exactly_spec h2
  exact ⟨a, vk_R.of h1 q1⟩
theorem law_st (hts : ∀ w ∈ lw_tbl, w.before args s = true) (hgv : (Jvm.Cond.and given_1 narrow_1).before args s = true) : xSt (fun q => s.heap.size ≤ q) s s.heap := by
  have hs := flat_of_before _ hgv
  have hini : (Cond.initialized "StandIns").before args s = true := hts _ (by decide +kernel)
  refine ⟨xArr_of (hts _ (by decide +kernel)) hini (hs _ (by decide +kernel)) (hs _ (by decide +kernel)) (fun j hj => ?_), xArr_of (hts _ (by decide +kernel)) hini (hs _ (by decide +kernel)) (hs _ (by decide +kernel)) (fun j hj => ?_), xArr_of (hts _ (by decide +kernel)) hini (hs _ (by decide +kernel)) (hs _ (by decide +kernel)) (fun j hj => ?_), vx_Zqof (hts _ (by decide +kernel)) (hts _ (by decide +kernel)) (hs _ (by decide +kernel)) (fun a ha => Nat.not_le.mpr ha), vx_Zqof (hts _ (by decide +kernel)) (hts _ (by decide +kernel)) (hs _ (by decide +kernel)) (fun a ha => Nat.not_le.mpr ha), ?_⟩
  · rcases (show j = 0 ∨ j = 1 ∨ j = 2 ∨ j = 3 ∨ j = 4 by omega) with rfl | rfl | rfl | rfl | rfl <;> exact hs _ (by decide +kernel)
  · rcases (show j = 0 ∨ j = 1 ∨ j = 2 ∨ j = 3 ∨ j = 4 by omega) with rfl | rfl | rfl | rfl | rfl <;> exact hs _ (by decide +kernel)
  · rcases (show j = 0 ∨ j = 1 ∨ j = 2 ∨ j = 3 ∨ j = 4 by omega) with rfl | rfl | rfl | rfl | rfl <;> exact hs _ (by decide +kernel)
  refine ⟨fun q hq => ?_, fun X hX => ?_, fun q hq => ?_, fun q hq => ?_, va_Nw.of (by decide) (hts _ (by decide +kernel)), va_Nw.of (by decide) (hts _ (by decide +kernel)), va_Nw.of (by decide) (hts _ (by decide +kernel)), va_AO.of (hts _ (by decide +kernel))⟩
  · simp only [strL, List.mem_cons, List.not_mem_nil, or_false] at hq
    rcases hq with rfl | rfl | rfl | rfl | rfl | rfl | rfl | rfl | rfl | rfl | rfl | rfl | rfl | rfl <;> exact vkR_of (hts _ (by decide +kernel)) (hs _ (by decide +kernel))
  · simp only [List.mem_cons, List.not_mem_nil, or_false] at hX
    rcases hX with rfl | rfl | rfl
    · refine ⟨va_Nw.of (by decide) (hts _ (by decide +kernel)), fun C hC => ?_⟩
      simp only [exSup, List.mem_cons, List.not_mem_nil, or_false] at hC
      rcases hC with rfl | rfl | rfl <;> exact va_Nw.of (by decide) (hts _ (by decide +kernel))
    · refine ⟨va_Nw.of (by decide) (hts _ (by decide +kernel)), fun C hC => ?_⟩
      simp only [exSup, List.mem_cons, List.not_mem_nil, or_false] at hC
      rcases hC with rfl | rfl | rfl <;> exact va_Nw.of (by decide) (hts _ (by decide +kernel))
    · refine ⟨va_Nw.of (by decide) (hts _ (by decide +kernel)), fun C hC => ?_⟩
      simp only [exSup, List.mem_cons, List.not_mem_nil, or_false] at hC
      rcases hC with rfl | rfl | rfl <;> exact va_Nw.of (by decide) (hts _ (by decide +kernel))
  · simp only [List.mem_cons, List.not_mem_nil, or_false] at hq
    rcases hq with rfl | rfl <;> exact va_Nc.of (hs _ (by decide +kernel))
  · simp only [nestL, List.mem_cons, List.not_mem_nil, or_false] at hq
    rcases hq with rfl | rfl | rfl <;> exact va_Nw.of (by decide) (hts _ (by decide +kernel))
theorem law_K (hts : ∀ w ∈ wsL_law, w.before args s = true) (hsA : (Cond.arrayOver (.object "StandIns$House")).before args s = true) : ∃ K : KX, va_K K.1 vwCl (kt K) s := by
  have i0 : ∀ w ∈ u_ws RX0 TX0 6, w ∈ wsL_law := by decide +kernel
  have i1 : ∀ w ∈ u_ws RX1 TX1 3, w ∈ wsL_law := by decide +kernel
  have i2 : ∀ w ∈ u_ws RX2 TX2 17, w ∈ wsL_law := by decide +kernel
  have i3 : ∀ w ∈ u_ws RX3 TX3 2, w ∈ wsL_law := by decide +kernel
  have i4 : ∀ w ∈ u_ws RX4 TX4 1, w ∈ wsL_law := by decide +kernel
  have i5 : ∀ w ∈ u_ws RX5 TX5 7, w ∈ wsL_law := by decide +kernel
  obtain ⟨c0, d0, k0⟩ := u_known (C := RX0) (T := TX0) (N := 6) (n := 6) hts i0 (hts (.instantiable RX0 6) (by decide +kernel))
  obtain ⟨c1, d1, k1⟩ := u_known (C := RX1) (T := TX1) (N := 3) (n := 3) hts i1 (hts (.instantiable RX1 3) (by decide +kernel))
  obtain ⟨c2, d2, k2⟩ := u_known (C := RX2) (T := TX2) (N := 17) (n := 17) hts i2 (hts (.instantiable RX2 17) (by decide +kernel))
  obtain ⟨c3, d3, k3⟩ := u_known (C := RX3) (T := TX3) (N := 2) (n := 2) hts i3 (hts (.instantiable RX3 2) (by decide +kernel))
  obtain ⟨c4, d4, k4⟩ := u_known (C := RX4) (T := TX4) (N := 1) (n := 1) hts i4 (hts (.instantiable RX4 1) (by decide +kernel))
  obtain ⟨c5, d5, k5⟩ := u_known (C := RX5) (T := TX5) (N := 7) (n := 7) hts i5 (hts (.instantiable RX5 7) (by decide +kernel))
  obtain ⟨a0, b0, p0, e0, f0, g0⟩ := Cond.arrayClass_spec (hts (.arrayClass .int) (by decide +kernel))
  obtain ⟨a1, b1, p1, e1, f1, g1⟩ := Cond.arrayClass_spec (hts (.arrayClass .boolean) (by decide +kernel))
  obtain ⟨a2, b2, p2, e2, f2, g2⟩ := Cond.arrayClass_spec (hts (.arrayClass .char) (by decide +kernel))
  obtain ⟨p3, a3, b3, e3, -, f3, g3, j3⟩ := Cond.arrayOver_spec hsA
  obtain ⟨a4, b4, p4, e4, f4, g4⟩ := Cond.arrayClass_spec (hts (.arrayClass .int) (by decide +kernel))
  refine ⟨((fun k => if k = 0 then c0 else if k = 1 then c1 else if k = 2 then c2 else if k = 3 then c3 else if k = 4 then c4 else c5, fun k => if k = 0 then d0 else if k = 1 then d1 else if k = 2 then d2 else if k = 3 then d3 else if k = 4 then d4 else d5), fun k => if k = 0 then a0 else if k = 1 then a1 else if k = 2 then a2 else if k = 3 then a3 else a4), fun k q hq => ?_, fun k q hq => ?_⟩
  · match k, hq with
    | 0, hq => cases hq; exact k0
    | 1, hq => cases hq; exact k1
    | 2, hq => cases hq; exact k2
    | 3, hq => cases hq; exact k3
    | 4, hq => cases hq; exact k4
    | 5, hq => cases hq; exact k5
    | k + 6, hq => simp [vwCl] at hq
  · match k, hq with
    | 0, hq => cases hq; exact ⟨fun n z => ⟨fun k h => (by cases h), b0, f0, p0, g0⟩, e0⟩
    | 1, hq => cases hq; exact ⟨fun n z => ⟨fun k h => (by cases h), b1, f1, p1, g1⟩, e1⟩
    | 2, hq => cases hq; exact ⟨fun n z => ⟨fun k h => (by cases h), b2, f2, p2, g2⟩, e2⟩
    | 3, hq => cases hq; exact ⟨fun n z => ⟨fun k h => (by cases h), b3, f3, p3, g3⟩, b3, p3, f3, g3, e3, j3⟩
    | 4, hq => cases hq; exact ⟨fun n z => ⟨fun k h => (by cases h), b4, f4, p4, g4⟩, e4⟩
    | k + 5, hq => simp [kt] at hq
end LKN
