
theorem e195 (d : Nat) (v a b : Int) (θ : zS) (μ : zM) (Q : Option zV → zS → zM → Prop) : Ex d 195 0 [vi v, vi a, vi b] [] θ μ Q = Q (some (vi (if a ≤ v ∧ v ≤ b then 1 else 0))) θ μ := by
  simp only [x195_0, x195_1, x195_2, x195_5, x195_6, x195_7, x195_10, x195_11, x195_14, x195_15, zg, zI, zJ, zR, zst, zkl, zn, zcat, zok, List.length_cons, List.length_nil, Option.toList, List.nil_append, List.cons_append, true_and, and_true, if_true, if_false]
  by_cases h1 : v < a
  · simp [h1, Int.not_le.mpr h1]
  · by_cases h2 : b < v
    · simp [h1, h2, Int.not_le.mpr h2]
    · simp [h1, h2, Int.not_lt.mp h1, Int.not_lt.mp h2]
theorem e206 (d : Nat) (hd : 0 < d) (g w : Int) (θ : zS) (μ : zM) (Q : Option zV → zS → zM → Prop) : Ex d 206 0 [vi g, vi w] [] θ μ Q = Q (some (vi (if (0 ≤ g ∧ g ≤ 99) ∧ (0 ≤ w ∧ w ≤ 3) then 1 else 0))) θ μ := by
  simp only [x206_0, x206_1, x206_2, x206_4, x206_7, x206_10, x206_11, x206_12, x206_13, x206_16, x206_19, x206_20, x206_23, x206_24, zg, zI, zJ, zR, zst, zkl, zn, zcat, zok, List.length_cons, List.length_nil, Option.toList, List.nil_append, List.cons_append, true_and, and_true, if_true, if_false, e195, hd]
  by_cases h1 : 0 ≤ g ∧ g ≤ 99
  · by_cases h2 : 0 ≤ w ∧ w ≤ 3
    · simp [h1, h2]
    · simp [h1, h2]
  · simp [h1]
