/-! THE LAW: its loop -/
section LL
variable {L d : Nat} {xs : Nat → Int} {Q : Option zV → zS → zM → Prop}
theorem law_18 {t : Nat} {θ : zS} {μ : zM} (hd : 40 ≤ d) (h : IV L xs t θ μ) (hL : L ≤ 3077) (hend : Q (some (vi 1)) θ μ) (K : ∀ θ' μ', 6 * t + 6 ≤ L → IV L xs (t + 1) θ' μ' → Ex d 296 1971 [vr 1, vr 2, vr 138, vi ((6 * t : Nat) : Int)] [] θ' μ' Q) : t ≤ 600 → Ex d 296 18 [vr 1, vr 2, vr 138, vi ((6 * t : Nat) : Int)] [] θ μ Q := by
  intro ht6
  have h0 := h
  obtain ⟨T, U, σ, s, hC, hM, hB, hm, h1, hx⟩ := h
  have g1 := IV_1 h1
  have a20 : ∀ M S, Ex d 296 20 M (vr 1 :: S) θ μ Q = Ex d 296 21 M (vi (L : Nat) :: S) θ μ Q := fun M S => x296_20 d M S θ μ Q 1 L g1
  have b1 : -2147483648 ≤ (L : Int) - 6 := by omega
  have b2 : (L : Int) - 6 ≤ 2147483647 := by omega
  rw [x296_18]
  by_cases p : 6 * t + 6 ≤ L
  · have p' : ¬ (L : Int) - 6 < ((6 * t : Nat) : Int) := by omega
    have X0 : (zix θ .int 1 ((6 * t : Nat) : Int) = true) = True := zix_T g1 (by omega) (by omega)
    have K' := fun θ' μ' hI => K θ' μ' p hI
    simp only [x296_19, a20, x296_21, x296_23, x296_24, x296_27, x296_28, x296_29, x296_30, x296_32, ↓reduceIte, Bool.false_eq_true, Nat.reduceAdd, Nat.reduceLT, Nat.reduceLeDiff, Nat.reduceSub, Nat.reduceEqDiff, Int.reduceToNat, Int.reduceEq, Int.reduceLT, Int.reduceLE, Int.reduceAdd, Int.reduceSub, zg, zI, zJ, zR, zst, zkl, zn, zcat, zok, zraw, List.length_cons, List.length_nil, Option.toList, List.nil_append, List.cons_append, true_and, and_true, if_true, if_false, ne_eq, not_true, not_false_eq_true, and_self, true_or, or_true, false_or, or_false, false_and, and_false, w32_i b1 b2, p', X0, Int.toNat_natCast, hx]
    generalize zand (xs (6 * t)) 63 = x
    rw [x296_33]
    by_cases e0 : x = 0
    · rw [if_pos e0]; exact c_feed hd h0 p hL K'
    rw [if_neg e0]
    by_cases e1 : x = 1
    · rw [if_pos e1]; exact c_back hd h0 p hL K'
    rw [if_neg e1]
    by_cases e2 : x = 2
    · rw [if_pos e2]; exact c_read hd h0 p hL K'
    rw [if_neg e2]
    by_cases e3 : x = 3
    · rw [if_pos e3]; exact c_place hd h0 p hL K'
    rw [if_neg e3]
    by_cases e4 : x = 4
    · rw [if_pos e4]; exact c_tile hd h0 p hL K'
    rw [if_neg e4]
    by_cases e5 : x = 5
    · rw [if_pos e5]; exact c_set hd h0 p hL K'
    rw [if_neg e5]
    by_cases e6 : x = 6
    · rw [if_pos e6]; exact c_there hd h0 p hL K'
    rw [if_neg e6]
    by_cases e7 : x = 7
    · rw [if_pos e7]; exact c_open hd h0 p hL K'
    rw [if_neg e7]
    by_cases e8 : x = 8
    · rw [if_pos e8]; exact c_felt hd h0 p hL K'
    rw [if_neg e8]
    by_cases e9 : x = 9
    · rw [if_pos e9]; exact c_door hd h0 p hL K'
    rw [if_neg e9]
    by_cases e10 : x = 10
    · rw [if_pos e10]; exact c_inlet hd h0 p hL K'
    rw [if_neg e10]
    by_cases e11 : x = 11
    · rw [if_pos e11]; exact c_lift hd h0 p hL K'
    rw [if_neg e11]
    by_cases e12 : x = 12
    · rw [if_pos e12]; exact c_goes hd h0 p hL K'
    rw [if_neg e12]
    by_cases e13 : x = 13
    · rw [if_pos e13]; exact c_first hd h0 p hL K'
    rw [if_neg e13]
    by_cases e14 : x = 14
    · rw [if_pos e14]; exact c_fall hd h0 p hL K'
    rw [if_neg e14]
    by_cases e15 : x = 15
    · rw [if_pos e15]; exact c_fallen hd h0 p hL K'
    rw [if_neg e15]
    by_cases e16 : x = 16
    · rw [if_pos e16]; exact c_round hd h0 p hL K'
    rw [if_neg e16]
    by_cases e17 : x = 17
    · rw [if_pos e17]; exact c_lands hd h0 p hL K'
    rw [if_neg e17]
    by_cases e18 : x = 18
    · rw [if_pos e18]; exact c_blow hd h0 p hL K'
    rw [if_neg e18]
    by_cases e19 : x = 19
    · rw [if_pos e19]; exact c_yard hd h0 p hL K'
    rw [if_neg e19]
    by_cases e20 : x = 20
    · rw [if_pos e20]; exact c_sweep hd h0 p hL K'
    rw [if_neg e20]
    by_cases e21 : x = 21
    · rw [if_pos e21]; exact c_car hd h0 p hL K'
    rw [if_neg e21]
    by_cases e22 : x = 22
    · rw [if_pos e22]; exact c_hits hd h0 p hL K'
    rw [if_neg e22]
    by_cases e23 : x = 23
    · rw [if_pos e23]; exact c_worst hd h0 p hL K'
    rw [if_neg e23]
    by_cases e24 : x = 24
    · rw [if_pos e24]; exact c_gust hd h0 p hL K'
    rw [if_neg e24]
    by_cases e25 : x = 25
    · rw [if_pos e25]; exact c_calm hd h0 p hL K'
    rw [if_neg e25]
    by_cases e26 : x = 26
    · rw [if_pos e26]; exact c_harm hd h0 p hL K'
    rw [if_neg e26]
    by_cases e27 : x = 27
    · rw [if_pos e27]; exact c_doors hd h0 p hL K'
    rw [if_neg e27]
    by_cases e28 : x = 28
    · rw [if_pos e28]; exact c_helps hd h0 p hL K'
    rw [if_neg e28]
    by_cases e29 : x = 29
    · rw [if_pos e29]; exact c_ever hd h0 p hL K'
    rw [if_neg e29]
    by_cases e30 : x = 30
    · rw [if_pos e30]; exact c_nailing hd h0 p hL K'
    rw [if_neg e30]
    by_cases e31 : x = 31
    · rw [if_pos e31]; exact c_nailingAt hd h0 p hL K'
    rw [if_neg e31]
    by_cases e32 : x = 32
    · rw [if_pos e32]; exact c_onebyone hd h0 p hL K'
    rw [if_neg e32]
    by_cases e33 : x = 33
    · rw [if_pos e33]; exact c_onebyoneAt hd h0 p hL K'
    rw [if_neg e33]
    by_cases e34 : x = 34
    · rw [if_pos e34]; exact c_without hd h0 p hL K'
    rw [if_neg e34]
    by_cases e35 : x = 35
    · rw [if_pos e35]; exact c_neglect hd h0 p hL K'
    rw [if_neg e35]
    by_cases e36 : x = 36
    · rw [if_pos e36]; exact c_night hd h0 p hL K'
    rw [if_neg e36]
    by_cases e37 : x = 37
    · rw [if_pos e37]; exact c_years hd h0 p hL K'
    rw [if_neg e37]
    by_cases e38 : x = 38
    · rw [if_pos e38]; exact c_lasts hd h0 p hL K'
    rw [if_neg e38]
    by_cases e39 : x = 39
    · rw [if_pos e39]; exact c_odds hd h0 p hL K'
    rw [if_neg e39]
    by_cases e40 : x = 40
    · rw [if_pos e40]; exact c_yardTells hd h0 p hL K'
    rw [if_neg e40]
    by_cases e41 : x = 41
    · rw [if_pos e41]; exact c_house hd h0 p hL K'
    rw [if_neg e41]
    by_cases e42 : x = 42
    · rw [if_pos e42]; exact c_annul hd h0 p hL K'
    rw [if_neg e42]
    by_cases e43 : x = 43
    · rw [if_pos e43]; exact c_warned hd h0 p hL K'
    rw [if_neg e43]
    by_cases e44 : x = 44
    · rw [if_pos e44]; exact c_village hd h0 p hL K'
    rw [if_neg e44]
    by_cases e45 : x = 45
    · rw [if_pos e45]; exact c_villageWays hd h0 p hL K'
    rw [if_neg e45]
    by_cases e46 : x = 46
    · rw [if_pos e46]; exact c_line hd h0 p hL K'
    rw [if_neg e46]
    by_cases e47 : x = 47
    · rw [if_pos e47]; exact c_hold hd h0 p hL K'
    rw [if_neg e47]
    by_cases e48 : x = 48
    · rw [if_pos e48]; exact c_restore hd h0 p hL K'
    rw [if_neg e48]
    by_cases e49 : x = 49
    · rw [if_pos e49]; exact c_count hd h0 p hL K'
    rw [if_neg e49]
    refine K' θ μ ⟨T, U, σ, s, hC, hM, hB, by omega, h1, hx⟩
  · have p' : (L : Int) - 6 < ((6 * t : Nat) : Int) := by omega
    simp only [x296_19, a20, x296_21, x296_23, x296_24, x296_1977, x296_1978, ↓reduceIte, Bool.false_eq_true, Nat.reduceAdd, Nat.reduceLT, Nat.reduceLeDiff, Nat.reduceSub, Nat.reduceEqDiff, Int.reduceToNat, Int.reduceEq, Int.reduceLT, Int.reduceLE, Int.reduceAdd, Int.reduceSub, zg, zI, zJ, zR, zst, zkl, zn, zcat, zok, zraw, List.length_cons, List.length_nil, Option.toList, List.nil_append, List.cons_append, true_and, and_true, if_true, if_false, ne_eq, not_true, not_false_eq_true, and_self, true_or, or_true, false_or, or_false, false_and, and_false, w32_i b1 b2, p']
    exact hend
theorem law_loop (hd : 40 ≤ d) (hL : L ≤ 3077) (hend : ∀ θ μ, θ.1 = (SHL L).take 214 → Q (some (vi 1)) θ μ) : ∀ (n t : Nat) (θ : zS) (μ : zM), t + n = 520 → IV L xs t θ μ → Ex d 296 18 [vr 1, vr 2, vr 138, vi ((6 * t : Nat) : Int)] [] θ μ Q := by
  intro n
  induction n with
  | zero =>
    intro t θ μ ht h
    refine law_18 hd h hL (hend θ μ (by obtain ⟨_, _, _, _, _, _, _, _, h1, _⟩ := h; exact h1)) (fun θ' μ' p _ => absurd p (by omega)) (by omega)
  | succ n ih =>
    intro t θ μ ht h
    refine law_18 hd h hL (hend θ μ (by obtain ⟨_, _, _, _, _, _, _, _, h1, _⟩ := h; exact h1)) (fun θ' μ' p hI => ?_) (by omega)
    have wb : 6 * t < 2147483000 := by omega
    have := ih (t + 1) θ' μ' (by omega) hI
    rw [show 6 * (t + 1) = 6 * t + 6 by omega] at this
    simp only [x296_1971, x296_1974, ↓reduceIte, Bool.false_eq_true, Nat.reduceAdd, Nat.reduceLT, Nat.reduceLeDiff, Nat.reduceSub, Nat.reduceEqDiff, Int.reduceToNat, Int.reduceEq, Int.reduceLT, Int.reduceLE, Int.reduceAdd, Int.reduceSub, zg, zI, zJ, zR, zst, zkl, zn, zcat, zok, zraw, List.length_cons, List.length_nil, Option.toList, List.nil_append, List.cons_append, true_and, and_true, if_true, if_false, ne_eq, not_true, not_false_eq_true, and_self, true_or, or_true, false_or, or_false, false_and, and_false, wi6 wb]
    exact this
theorem BI_2 {μ : zM} : BI (TZ L 2 0) μ := by
  intro a n j ha hj
  have e : (TZ L 2 0).1 = [.inl 99, .inr (.int, L)] := rfl
  rw [e] at ha
  match a, ha with
  | 0, ha => cases ha
  | 1, ha => cases ha
  | k + 2, ha => cases ha
theorem law_start {μ : zM} (hd : 41 ≤ d) (hL : L ≤ 3077) (hμ : Zm 2 μ) (hx : ∀ j, μ 1 j = xs j) (hend : ∀ θ μ, θ.1 = (SHL L).take 214 → Q (some (vi 1)) θ μ) : Ex d 296 0 [vr 1, vU, vU, vU] [] (TZ L 2 0) μ Q := by
  have hd0 : 0 < d := by omega
  have B3 : BI (TZ L 3 0) μ := by
    have := BI_nw (l := [.inl 11]) (r := zr0 (TZ L 2 0).2 2) (BI_2 (L := L) (μ := μ))
    rw [nw_2, TZ_len L 0 (by decide), Zm_z hμ (by decide)] at this
    exact this
  simp only [x296_0, x296_3, x296_4, ↓reduceIte, Bool.false_eq_true, Nat.reduceAdd, Nat.reduceLT, Nat.reduceLeDiff, Nat.reduceSub, Nat.reduceEqDiff, Int.reduceToNat, Int.reduceEq, Int.reduceLT, Int.reduceLE, Int.reduceAdd, Int.reduceSub, zg, zI, zJ, zR, zst, zkl, zn, zcat, zok, zraw, List.length_cons, List.length_nil, Option.toList, List.nil_append, List.cons_append, true_and, and_true, if_true, if_false, ne_eq, not_true, not_false_eq_true, and_self, true_or, or_true, false_or, or_false, false_and, and_false, TZ_len, Zm_z hμ, nw_2, ob_2, hd0]
  refine Ex_keep B3 ?_
  refine kNew (L := L) (d := d - 1) (by omega) hμ (fun μ1 f1 C1 z1 B1 => ?_)
  have B2 : BI (TZ L 139 146) μ1 := by
    have := BI_nw (l := [.inl 12]) (r := zr0 (TZ L 138 146).2 138) B1
    rw [nw_138, TZ_len L 146 (by decide), Zm_z z1 (by decide)] at this
    exact this
  simp only [x296_7, x296_8, x296_11, x296_12, ↓reduceIte, Bool.false_eq_true, Nat.reduceAdd, Nat.reduceLT, Nat.reduceLeDiff, Nat.reduceSub, Nat.reduceEqDiff, Int.reduceToNat, Int.reduceEq, Int.reduceLT, Int.reduceLE, Int.reduceAdd, Int.reduceSub, zg, zI, zJ, zR, zst, zkl, zn, zcat, zok, zraw, List.length_cons, List.length_nil, Option.toList, List.nil_append, List.cons_append, true_and, and_true, if_true, if_false, ne_eq, not_true, not_false_eq_true, and_self, true_or, or_true, false_or, or_false, false_and, and_false, TZ_len, Zm_z z1, nw_138, ob_138, hd0]
  refine Ex_keep B2 ?_
  refine rNew (L := L) (d := d - 1) (by omega) z1 (fun μ2 l2 M2 B2' => ?_)
  simp only [x296_15, x296_16, x296_17, ↓reduceIte, Bool.false_eq_true, Nat.reduceAdd, Nat.reduceLT, Nat.reduceLeDiff, Nat.reduceSub, Nat.reduceEqDiff, Int.reduceToNat, Int.reduceEq, Int.reduceLT, Int.reduceLE, Int.reduceAdd, Int.reduceSub, zg, zI, zJ, zR, zst, zkl, zn, zcat, zok, zraw, List.length_cons, List.length_nil, Option.toList, List.nil_append, List.cons_append, true_and, and_true, if_true, if_false, ne_eq, not_true, not_false_eq_true, and_self, true_or, or_true, false_or, or_false, false_and, and_false]
  have hx2 : ∀ j, μ2 1 j = xs j := fun j => by rw [l2 1 (by decide), f1 1 (by decide)]; exact hx j
  have hth : Th (TZ L 214 221) 12 26 := ⟨Tc_145 L 214 (by decide) (by decide +kernel), Tq_TZ (by decide) (by decide) rfl (by decide +kernel) (by decide +kernel), Tq_TZ (by decide) (by decide) rfl (by decide +kernel) (by decide +kernel), Or.inl ⟨rfl, rfl⟩, TZ_r L 214 (by decide +kernel), TZ_r L 214 (by decide +kernel), TZ_r L 214 (by decide +kernel)⟩
  exact law_loop (by omega) hL hend 520 0 _ _ rfl ⟨12, 26, σ0, 0, CS_th (CS_ML C1 l2) hth, M2, B2', Nat.zero_le _, rfl, hx2⟩
end LL
