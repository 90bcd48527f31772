/-! THE CLASS cuts a tape into TOKENS: INTS, SIGNS, all -/
section SD
variable {θ : zS} {Q : Option zV → zS → zM → Prop} {μ : zM} {b : Nat → Int} {n : Nat}
theorem cDigits {d s : Nat} {x1 : zV} (hc : Tc θ) (hd : 1 ≤ d) (hB : TB b n μ) (hs : s < n) (h6 : μ 3 6 = (s : Nat)) (h7 : μ 3 7 = 0)
    (hQ : ∀ μ', Fr [3] μ μ' → (∀ j, j ≠ 6 → j ≠ 7 → μ' 3 j = μ 3 j) → μ' 3 6 = (enE isDd b n s : Nat) → (enE isDd b n s - s ≤ 4 → μ' 3 7 = nmI 10 (dfO b s) (enE isDd b n s - s)) → Q (some (vi ((if 4 < enE isDd b n s - s then 1 else 2 : Nat) : Int))) θ μ') : Ex d 78 0 [vr 3, x1] [] θ μ Q := by
  have hd0 : 0 < d := by omega
  have hb := en_b (p := isDd) (b := b) (n := n) (n - s) s rfl (by omega)
  have hn := hB.2.2.1
  have hL : ∀ i, s + i < enE isDd b n s → 48 ≤ b (s + i) ∧ b (s + i) ≤ 57 := fun i hi => of_decide_eq_true (hb.2.2.1 (s + i) (by omega) hi)
  have key : ∀ m L μ1, m ≤ enE isDd b n s - s → (L = [vr 3, vi (m : Nat)] ∧ Fr [3] μ μ1 ∧ (∀ j, j ≠ 6 → j ≠ 7 → μ1 3 j = μ 3 j) ∧ μ1 3 6 = ((s + m : Nat) : Int) ∧ (m ≤ 4 → μ1 3 7 = nmI 10 (dfO b s) m)) → Ex d 78 2 L [] θ μ1 Q := by
    refine Ex_loop (I := fun m L μ1 => L = [vr 3, vi (m : Nat)] ∧ Fr [3] μ μ1 ∧ (∀ j, j ≠ 6 → j ≠ 7 → μ1 3 j = μ 3 j) ∧ μ1 3 6 = ((s + m : Nat) : Int) ∧ (m ≤ 4 → μ1 3 7 = nmI 10 (dfO b s) m)) (enE isDd b n s - s) ?_ ?_
    · rintro m L μ1 hm ⟨rfl, hf, hj, g6, g7⟩ hk
      have c1 : ¬ (n : Int) ≤ ((s + m : Nat) : Int) := by omega
      have i1 : (0 : Int) ≤ ((s + m : Nat) : Int) := by omega
      have i2 : ((s + m : Nat) : Int) < 2000 := by omega
      have w1 : m < 2147483647 := by omega
      have w2 : s + m < 2147483647 := by omega
      have e7 : μ1 7 (s + m) = b (s + m) := by rw [hf 7 (by decide)]; exact hB.2.1 (s + m) (by omega)
      have e33 : μ1 3 3 = (n : Int) := by rw [hj 3 (by decide) (by decide)]; exact hB.1
      have hp : isDd (b (s + m)) = true := hb.2.2.1 (s + m) (by omega) (by omega)
      have hcl := hL m (by omega)
      rw [x78_2]
      simp only [x78_0, x78_1, x78_3, x78_6, x78_7, x78_10, x78_13, x78_14, x78_17, x78_18, x78_21, x78_22, x78_25, x78_28, x78_29, x78_30, x78_33, x78_36, x78_37, x78_38, x78_41, x78_42, x78_45, x78_46, x78_47, x78_48, x78_51, x78_52, x78_55, x78_58, x78_59, x78_60, x78_63, x78_64, x78_65, x78_68, x78_71, x78_72, x78_73, x78_76, x78_77, x78_80, x78_81, ↓reduceIte, Bool.false_eq_true, Nat.reduceAdd, Nat.reduceLT, Nat.reduceLeDiff, Nat.reduceSub, Nat.reduceEqDiff, Int.reduceToNat, Int.reduceEq, Int.reduceLT, Int.reduceLE, Int.reduceAdd, Int.reduceSub, zg, zI, zJ, zR, zst, zkl, zn, zcat, zok, zraw, List.length_cons, List.length_nil, Option.toList, List.nil_append, List.cons_append, true_and, and_true, if_true, if_false, ne_eq, not_true, not_false_eq_true, and_self, true_or, or_true, false_or, or_false, false_and, and_false, b_2 hc, b_3 hc, b_9 hc, b_12 hc, b_26 hc, b_40 hc, b_46 hc, b_47 hc, b_60 hc, b_62 hc, b_63 hc, b_76 hc, b_77 hc, b_90 hc, b_91 hc, b_104 hc, b_107 hc, b_114 hc, b_115 hc, b_122 hc, b_123 hc, b_131 hc, b_3 hc, r_3_0 hc, x_4 hc, r_3_1 hc, x_5 hc, r_3_2 hc, x_6 hc, r_3_4 hc, x_7 hc, n_7 hc, r_3_5 hc, x_8 hc, x_7 hc i1 i2, g6, e33, c1, e7, Int.toNat_natCast, eDigit, hp, b2, hd0, w32_s w1, w32_s w2, ua_eq, us_same, us_us, zup_ne (show (6 : Nat) ≠ 7 by decide)]
      refine hk _ _ ⟨rfl, Fr.us (by simp) hf, fun j j6 j7 => by rw [us_same, zup_ne j6, zup_ne j7]; exact hj j j6 j7, by rw [us_same, zup_same rfl]; rfl, fun h8 => ?_⟩
      rw [us_same, zup_ne (by decide), zup_same rfl, g7 (by omega)]
      have hv := nd_4 (f := dfO b s) (m := m) (by omega) (fun i hi => by have := hL i (by omega); unfold dfO; omega)
      rw [wdig hv.1 (by omega) hcl.1 hcl.2]
      rfl
    · rintro L μ1 ⟨rfl, hf, hj, g6, g7⟩
      have ee : s + (enE isDd b n s - s) = enE isDd b n s := by omega
      rw [ee] at g6
      have e33 : μ1 3 3 = (n : Int) := by rw [hj 3 (by decide) (by decide)]; exact hB.1
      have fin : Ex d 78 71 [vr 3, vi ((enE isDd b n s - s : Nat) : Int)] [] θ μ1 Q := by
        have hq := hQ μ1 hf hj g6 g7
        by_cases h8 : enE isDd b n s - s ≤ 4
        · have h8' : ((enE isDd b n s - s : Nat) : Int) ≤ 4 := by omega
          rw [if_neg (by omega)] at hq
          simp only [x78_0, x78_1, x78_3, x78_6, x78_7, x78_10, x78_13, x78_14, x78_17, x78_18, x78_21, x78_22, x78_25, x78_28, x78_29, x78_30, x78_33, x78_36, x78_37, x78_38, x78_41, x78_42, x78_45, x78_46, x78_47, x78_48, x78_51, x78_52, x78_55, x78_58, x78_59, x78_60, x78_63, x78_64, x78_65, x78_68, x78_71, x78_72, x78_73, x78_76, x78_77, x78_80, x78_81, ↓reduceIte, Bool.false_eq_true, Nat.reduceAdd, Nat.reduceLT, Nat.reduceLeDiff, Nat.reduceSub, Nat.reduceEqDiff, Int.reduceToNat, Int.reduceEq, Int.reduceLT, Int.reduceLE, Int.reduceAdd, Int.reduceSub, zg, zI, zJ, zR, zst, zkl, zn, zcat, zok, zraw, List.length_cons, List.length_nil, Option.toList, List.nil_append, List.cons_append, true_and, and_true, if_true, if_false, ne_eq, not_true, not_false_eq_true, and_self, true_or, or_true, false_or, or_false, false_and, and_false, h8']
          exact hq
        · have h8' : ¬ ((enE isDd b n s - s : Nat) : Int) ≤ 4 := by omega
          rw [if_pos (by omega)] at hq
          simp only [x78_0, x78_1, x78_3, x78_6, x78_7, x78_10, x78_13, x78_14, x78_17, x78_18, x78_21, x78_22, x78_25, x78_28, x78_29, x78_30, x78_33, x78_36, x78_37, x78_38, x78_41, x78_42, x78_45, x78_46, x78_47, x78_48, x78_51, x78_52, x78_55, x78_58, x78_59, x78_60, x78_63, x78_64, x78_65, x78_68, x78_71, x78_72, x78_73, x78_76, x78_77, x78_80, x78_81, ↓reduceIte, Bool.false_eq_true, Nat.reduceAdd, Nat.reduceLT, Nat.reduceLeDiff, Nat.reduceSub, Nat.reduceEqDiff, Int.reduceToNat, Int.reduceEq, Int.reduceLT, Int.reduceLE, Int.reduceAdd, Int.reduceSub, zg, zI, zJ, zR, zst, zkl, zn, zcat, zok, zraw, List.length_cons, List.length_nil, Option.toList, List.nil_append, List.cons_append, true_and, and_true, if_true, if_false, ne_eq, not_true, not_false_eq_true, and_self, true_or, or_true, false_or, or_false, false_and, and_false, h8']
          exact hq
      rw [x78_2]
      by_cases hlt : enE isDd b n s < n
      · have c1 : ¬ (n : Int) ≤ ((enE isDd b n s : Nat) : Int) := by omega
        have i1 : (0 : Int) ≤ ((enE isDd b n s : Nat) : Int) := by omega
        have i2 : ((enE isDd b n s : Nat) : Int) < 2000 := by omega
        have e7 : μ1 7 (enE isDd b n s) = b (enE isDd b n s) := by rw [hf 7 (by decide)]; exact hB.2.1 _ hlt
        have hp : isDd (b (enE isDd b n s)) = false := hb.2.2.2 hlt
        simp only [x78_0, x78_1, x78_3, x78_6, x78_7, x78_10, x78_13, x78_14, x78_17, x78_18, x78_21, x78_22, x78_25, x78_28, x78_29, x78_30, x78_33, x78_36, x78_37, x78_38, x78_41, x78_42, x78_45, x78_46, x78_47, x78_48, x78_51, x78_52, x78_55, x78_58, x78_59, x78_60, x78_63, x78_64, x78_65, x78_68, x78_72, x78_73, x78_76, x78_77, x78_80, x78_81, ↓reduceIte, Bool.false_eq_true, Nat.reduceAdd, Nat.reduceLT, Nat.reduceLeDiff, Nat.reduceSub, Nat.reduceEqDiff, Int.reduceToNat, Int.reduceEq, Int.reduceLT, Int.reduceLE, Int.reduceAdd, Int.reduceSub, zg, zI, zJ, zR, zst, zkl, zn, zcat, zok, zraw, List.length_cons, List.length_nil, Option.toList, List.nil_append, List.cons_append, true_and, and_true, if_true, if_false, ne_eq, not_true, not_false_eq_true, and_self, true_or, or_true, false_or, or_false, false_and, and_false, b_2 hc, b_3 hc, b_9 hc, b_12 hc, b_26 hc, b_40 hc, b_46 hc, b_47 hc, b_60 hc, b_62 hc, b_63 hc, b_76 hc, b_77 hc, b_90 hc, b_91 hc, b_104 hc, b_107 hc, b_114 hc, b_115 hc, b_122 hc, b_123 hc, b_131 hc, b_3 hc, r_3_0 hc, x_4 hc, r_3_1 hc, x_5 hc, r_3_2 hc, x_6 hc, r_3_4 hc, x_7 hc, n_7 hc, r_3_5 hc, x_8 hc, x_7 hc i1 i2, g6, e33, c1, e7, Int.toNat_natCast, eDigit, hp, b2, hd0]
        exact fin
      · have c1 : (n : Int) ≤ ((enE isDd b n s : Nat) : Int) := by omega
        simp only [x78_0, x78_1, x78_3, x78_6, x78_7, x78_10, x78_13, x78_14, x78_17, x78_18, x78_21, x78_22, x78_25, x78_28, x78_29, x78_30, x78_33, x78_36, x78_37, x78_38, x78_41, x78_42, x78_45, x78_46, x78_47, x78_48, x78_51, x78_52, x78_55, x78_58, x78_59, x78_60, x78_63, x78_64, x78_65, x78_68, x78_72, x78_73, x78_76, x78_77, x78_80, x78_81, ↓reduceIte, Bool.false_eq_true, Nat.reduceAdd, Nat.reduceLT, Nat.reduceLeDiff, Nat.reduceSub, Nat.reduceEqDiff, Int.reduceToNat, Int.reduceEq, Int.reduceLT, Int.reduceLE, Int.reduceAdd, Int.reduceSub, zg, zI, zJ, zR, zst, zkl, zn, zcat, zok, zraw, List.length_cons, List.length_nil, Option.toList, List.nil_append, List.cons_append, true_and, and_true, if_true, if_false, ne_eq, not_true, not_false_eq_true, and_self, true_or, or_true, false_or, or_false, false_and, and_false, b_2 hc, b_3 hc, b_9 hc, b_12 hc, b_26 hc, b_40 hc, b_46 hc, b_47 hc, b_60 hc, b_62 hc, b_63 hc, b_76 hc, b_77 hc, b_90 hc, b_91 hc, b_104 hc, b_107 hc, b_114 hc, b_115 hc, b_122 hc, b_123 hc, b_131 hc, b_3 hc, r_3_0 hc, x_4 hc, r_3_1 hc, x_5 hc, r_3_2 hc, x_6 hc, r_3_4 hc, x_7 hc, n_7 hc, r_3_5 hc, x_8 hc, g6, e33, c1]
        exact fin
  simp only [x78_0, x78_1, x78_3, x78_6, x78_7, x78_10, x78_13, x78_14, x78_17, x78_18, x78_21, x78_22, x78_25, x78_28, x78_29, x78_30, x78_33, x78_36, x78_37, x78_38, x78_41, x78_42, x78_45, x78_46, x78_47, x78_48, x78_51, x78_52, x78_55, x78_58, x78_59, x78_60, x78_63, x78_64, x78_65, x78_68, x78_71, x78_72, x78_73, x78_76, x78_77, x78_80, x78_81, ↓reduceIte, Bool.false_eq_true, Nat.reduceAdd, Nat.reduceLT, Nat.reduceLeDiff, Nat.reduceSub, Nat.reduceEqDiff, Int.reduceToNat, Int.reduceEq, Int.reduceLT, Int.reduceLE, Int.reduceAdd, Int.reduceSub, zg, zI, zJ, zR, zst, zkl, zn, zcat, zok, zraw, List.length_cons, List.length_nil, Option.toList, List.nil_append, List.cons_append, true_and, and_true, if_true, if_false, ne_eq, not_true, not_false_eq_true, and_self, true_or, or_true, false_or, or_false, false_and, and_false]
  exact key 0 _ _ (by omega) ⟨rfl, Fr.refl, fun _ _ _ => rfl, by rw [Nat.add_zero]; exact h6, fun _ => by rw [h7]; rfl⟩
theorem cWithEq {d q : Nat} {x y : Int} {two : Bool} (hc : Tc θ) (h6 : μ 3 6 = (q : Nat)) (hq : q < 2147483647)
    (hQ : ∀ μ', Fr [3] μ μ' → (∀ j, j ≠ 6 → μ' 3 j = μ 3 j) → μ' 3 6 = ((q + (if two = true then 1 else 0) : Nat) : Int) → Q (some (vi (if two = true then x else y))) θ μ') : Ex d 80 0 [vr 3, vi (b2 two), vi x, vi y] [] θ μ Q := by
  cases two with
  | false =>
    simp only [x80_0, x80_1, x80_4, x80_5, x80_6, x80_9, x80_10, x80_11, x80_14, x80_15, x80_18, x80_19, x80_22, x80_23, ↓reduceIte, Bool.false_eq_true, Nat.reduceAdd, Nat.reduceLT, Nat.reduceLeDiff, Nat.reduceSub, Nat.reduceEqDiff, Int.reduceToNat, Int.reduceEq, Int.reduceLT, Int.reduceLE, Int.reduceAdd, Int.reduceSub, zg, zI, zJ, zR, zst, zkl, zn, zcat, zok, zraw, List.length_cons, List.length_nil, Option.toList, List.nil_append, List.cons_append, true_and, and_true, if_true, if_false, ne_eq, not_true, not_false_eq_true, and_self, true_or, or_true, false_or, or_false, false_and, and_false, b2]
    exact hQ μ Fr.refl (fun _ _ => rfl) h6
  | true =>
    simp only [x80_0, x80_1, x80_4, x80_5, x80_6, x80_9, x80_10, x80_11, x80_14, x80_15, x80_18, x80_19, x80_22, x80_23, ↓reduceIte, Bool.false_eq_true, Nat.reduceAdd, Nat.reduceLT, Nat.reduceLeDiff, Nat.reduceSub, Nat.reduceEqDiff, Int.reduceToNat, Int.reduceEq, Int.reduceLT, Int.reduceLE, Int.reduceAdd, Int.reduceSub, zg, zI, zJ, zR, zst, zkl, zn, zcat, zok, zraw, List.length_cons, List.length_nil, Option.toList, List.nil_append, List.cons_append, true_and, and_true, if_true, if_false, ne_eq, not_true, not_false_eq_true, and_self, true_or, or_true, false_or, or_false, false_and, and_false, b_2 hc, b_3 hc, b_9 hc, b_12 hc, b_26 hc, b_40 hc, b_46 hc, b_47 hc, b_60 hc, b_62 hc, b_63 hc, b_76 hc, b_77 hc, b_90 hc, b_91 hc, b_104 hc, b_107 hc, b_114 hc, b_115 hc, b_122 hc, b_123 hc, b_131 hc, b2, h6, w32_s hq, ua_eq]
    exact hQ _ (Fr.us (by simp) Fr.refl) (fun j hj => by rw [us_same, zup_ne hj]) (by rw [us_same, zup_same rfl]; rfl)
theorem cSign {d s : Nat} {x2 : zV} (hc : Tc θ) (hd : 1 ≤ d) (hB : TB b n μ) (hs : s < n) (h6 : μ 3 6 = (s : Nat))
    (hQ : ∀ μ', Fr [3] μ μ' → (∀ j, j ≠ 6 → μ' 3 j = μ 3 j) → μ' 3 6 = ((s + (sgO (b s) (decide (s + 1 < n ∧ b (s + 1) = 61))).2 : Nat) : Int) → Q (some (vi ((sgO (b s) (decide (s + 1 < n ∧ b (s + 1) = 61))).1 : Nat))) θ μ') : Ex d 79 0 [vr 3, vi (b s), x2] [] θ μ Q := by
  have hd0 : 0 < d := by omega
  have hn := hB.2.2.1
  have w1 : s < 2147483647 := by omega
  have w2 : s + 1 < 2147483647 := by omega
  obtain ⟨two, htwo⟩ : ∃ two, two = decide (s + 1 < n ∧ b (s + 1) = 61) := ⟨_, rfl⟩
  rw [← htwo] at hQ
  obtain ⟨μ1, hμ1⟩ : ∃ μ1, μ1 = us μ 3 (zup (μ 3) 6 ((s + 1 : Nat) : Int)) := ⟨_, rfl⟩
  have g6 : μ1 3 6 = ((s + 1 : Nat) : Int) := by rw [hμ1, us_same, zup_same rfl]
  have gj : ∀ j, j ≠ 6 → μ1 3 j = μ 3 j := fun j hj => by rw [hμ1, us_same, zup_ne hj]
  have gf : Fr [3] μ μ1 := by rw [hμ1]; exact Fr.us (by simp) Fr.refl
  have one : ∀ k : Nat, sgO (b s) two = (k, 1) → Q (some (vi (k : Nat))) θ μ1 := fun k hk => by
    have := hQ μ1 gf gj (by rw [hk]; exact g6)
    rw [hk] at this; exact this
  have eqs : ∀ (x y : Nat) (x' y' : Int) (R : Option zV → zS → zM → Prop), x' = (x : Int) → y' = (y : Int) → (∀ v μ2, Q (some (vi v)) θ μ2 → R (some (vi v)) θ μ2) → sgO (b s) two = (if two = true then (x, 2) else (y, 1)) → Ex (d - 1) 80 0 [vr 3, vi (b2 two), vi x', vi y'] [] θ μ1 R := fun x y x' y' R hx hy hR hk => by
    refine cWithEq hc g6 w2 (fun μ2 f2 j2 g2 => ?_)
    have := hQ μ2 (gf.trans f2) (fun j hj => by rw [j2 j hj, gj j hj])
    rw [hk] at this
    rw [hx, hy]
    cases two with
    | true => exact hR _ _ (this (by rw [g2]; rfl))
    | false => exact hR _ _ (this (by rw [g2]; rfl))
  have sw : Ex d 79 41 [vr 3, vi (b s), vi (b2 two)] [] θ μ1 Q := by
    have h220 : sgO (b s) two = (1, 1) → Ex d 79 220 [vr 3, vi (b s), vi (b2 two)] [] θ μ1 Q := fun hk => by
      simp only [x79_0, x79_1, x79_2, x79_5, x79_6, x79_7, x79_10, x79_11, x79_14, x79_15, x79_18, x79_21, x79_22, x79_25, x79_26, x79_29, x79_30, x79_32, x79_35, x79_36, x79_39, x79_40, x79_41, x79_42, x79_172, x79_173, x79_174, x79_176, x79_177, x79_179, x79_180, x79_182, x79_183, x79_185, x79_186, x79_188, x79_189, x79_191, x79_192, x79_193, x79_194, x79_196, x79_197, x79_200, x79_201, x79_202, x79_203, x79_205, x79_207, x79_210, x79_211, x79_212, x79_213, x79_215, x79_216, x79_219, x79_220, x79_221, ↓reduceIte, Bool.false_eq_true, Nat.reduceAdd, Nat.reduceLT, Nat.reduceLeDiff, Nat.reduceSub, Nat.reduceEqDiff, Int.reduceToNat, Int.reduceEq, Int.reduceLT, Int.reduceLE, Int.reduceAdd, Int.reduceSub, zg, zI, zJ, zR, zst, zkl, zn, zcat, zok, zraw, List.length_cons, List.length_nil, Option.toList, List.nil_append, List.cons_append, true_and, and_true, if_true, if_false, ne_eq, not_true, not_false_eq_true, and_self, true_or, or_true, false_or, or_false, false_and, and_false]; exact one 1 hk
    rw [x79_41]
    simp only [zg]
    rw [x79_42]
    have ret : ∀ (μ2 : zM) (v : Int), Q (some (vi v)) θ μ2 → Q (some (vi v)) θ μ2 := fun _ _ h => h
    by_cases c33 : b s = 33
    · rw [if_pos c33]
      simp only [x79_0, x79_1, x79_2, x79_5, x79_6, x79_7, x79_10, x79_11, x79_14, x79_15, x79_18, x79_21, x79_22, x79_25, x79_26, x79_29, x79_30, x79_32, x79_35, x79_36, x79_39, x79_40, x79_41, x79_172, x79_173, x79_174, x79_176, x79_177, x79_179, x79_180, x79_182, x79_183, x79_185, x79_186, x79_188, x79_189, x79_191, x79_192, x79_193, x79_194, x79_196, x79_197, x79_200, x79_201, x79_202, x79_203, x79_205, x79_207, x79_210, x79_211, x79_212, x79_213, x79_215, x79_216, x79_219, x79_220, x79_221, ↓reduceIte, Bool.false_eq_true, Nat.reduceAdd, Nat.reduceLT, Nat.reduceLeDiff, Nat.reduceSub, Nat.reduceEqDiff, Int.reduceToNat, Int.reduceEq, Int.reduceLT, Int.reduceLE, Int.reduceAdd, Int.reduceSub, zg, zI, zJ, zR, zst, zkl, zn, zcat, zok, zraw, List.length_cons, List.length_nil, Option.toList, List.nil_append, List.cons_append, true_and, and_true, if_true, if_false, ne_eq, not_true, not_false_eq_true, and_self, true_or, or_true, false_or, or_false, false_and, and_false, b_2 hc, b_3 hc, b_9 hc, b_12 hc, b_26 hc, b_40 hc, b_46 hc, b_47 hc, b_60 hc, b_62 hc, b_63 hc, b_76 hc, b_77 hc, b_90 hc, b_91 hc, b_104 hc, b_107 hc, b_114 hc, b_115 hc, b_122 hc, b_123 hc, b_131 hc, hd0]
      exact eqs 11 1 _ _ _ rfl rfl (fun v μ2 h => by simp only [x79_0, x79_1, x79_2, x79_5, x79_6, x79_7, x79_10, x79_11, x79_14, x79_15, x79_18, x79_21, x79_22, x79_25, x79_26, x79_29, x79_30, x79_32, x79_35, x79_36, x79_39, x79_40, x79_41, x79_172, x79_173, x79_174, x79_176, x79_177, x79_179, x79_180, x79_182, x79_183, x79_185, x79_186, x79_188, x79_189, x79_191, x79_192, x79_193, x79_194, x79_196, x79_197, x79_200, x79_201, x79_202, x79_203, x79_205, x79_207, x79_210, x79_211, x79_212, x79_213, x79_215, x79_216, x79_219, x79_220, x79_221, ↓reduceIte, Bool.false_eq_true, Nat.reduceAdd, Nat.reduceLT, Nat.reduceLeDiff, Nat.reduceSub, Nat.reduceEqDiff, Int.reduceToNat, Int.reduceEq, Int.reduceLT, Int.reduceLE, Int.reduceAdd, Int.reduceSub, zg, zI, zJ, zR, zst, zkl, zn, zcat, zok, zraw, List.length_cons, List.length_nil, Option.toList, List.nil_append, List.cons_append, true_and, and_true, if_true, if_false, ne_eq, not_true, not_false_eq_true, and_self, true_or, or_true, false_or, or_false, false_and, and_false]; exact h) (by rw [c33]; cases two <;> rfl)
    · rw [if_neg c33]
      by_cases c40 : b s = 40
      · simp only [c40, ↓reduceIte, Bool.false_eq_true, Nat.reduceAdd, Nat.reduceLT, Nat.reduceLeDiff, Nat.reduceSub, Nat.reduceEqDiff, Int.reduceToNat, Int.reduceEq, Int.reduceLT, Int.reduceLE, Int.reduceAdd, Int.reduceSub, zg, zI, zJ, zR, zst, zkl, zn, zcat, zok, zraw, List.length_cons, List.length_nil, Option.toList, List.nil_append, List.cons_append, true_and, and_true, if_true, if_false, ne_eq, not_true, not_false_eq_true, and_self, true_or, or_true, false_or, or_false, false_and, and_false]
        simp only [x79_0, x79_1, x79_2, x79_5, x79_6, x79_7, x79_10, x79_11, x79_14, x79_15, x79_18, x79_21, x79_22, x79_25, x79_26, x79_29, x79_30, x79_32, x79_35, x79_36, x79_39, x79_40, x79_41, x79_172, x79_173, x79_174, x79_176, x79_177, x79_179, x79_180, x79_182, x79_183, x79_185, x79_186, x79_188, x79_189, x79_191, x79_192, x79_193, x79_194, x79_196, x79_197, x79_200, x79_201, x79_202, x79_203, x79_205, x79_207, x79_210, x79_211, x79_212, x79_213, x79_215, x79_216, x79_219, x79_220, x79_221, ↓reduceIte, Bool.false_eq_true, Nat.reduceAdd, Nat.reduceLT, Nat.reduceLeDiff, Nat.reduceSub, Nat.reduceEqDiff, Int.reduceToNat, Int.reduceEq, Int.reduceLT, Int.reduceLE, Int.reduceAdd, Int.reduceSub, zg, zI, zJ, zR, zst, zkl, zn, zcat, zok, zraw, List.length_cons, List.length_nil, Option.toList, List.nil_append, List.cons_append, true_and, and_true, if_true, if_false, ne_eq, not_true, not_false_eq_true, and_self, true_or, or_true, false_or, or_false, false_and, and_false]
        exact one 14 (by rw [c40]; rfl)
      · by_cases c41 : b s = 41
        · simp only [c41, ↓reduceIte, Bool.false_eq_true, Nat.reduceAdd, Nat.reduceLT, Nat.reduceLeDiff, Nat.reduceSub, Nat.reduceEqDiff, Int.reduceToNat, Int.reduceEq, Int.reduceLT, Int.reduceLE, Int.reduceAdd, Int.reduceSub, zg, zI, zJ, zR, zst, zkl, zn, zcat, zok, zraw, List.length_cons, List.length_nil, Option.toList, List.nil_append, List.cons_append, true_and, and_true, if_true, if_false, ne_eq, not_true, not_false_eq_true, and_self, true_or, or_true, false_or, or_false, false_and, and_false]
          simp only [x79_0, x79_1, x79_2, x79_5, x79_6, x79_7, x79_10, x79_11, x79_14, x79_15, x79_18, x79_21, x79_22, x79_25, x79_26, x79_29, x79_30, x79_32, x79_35, x79_36, x79_39, x79_40, x79_41, x79_172, x79_173, x79_174, x79_176, x79_177, x79_179, x79_180, x79_182, x79_183, x79_185, x79_186, x79_188, x79_189, x79_191, x79_192, x79_193, x79_194, x79_196, x79_197, x79_200, x79_201, x79_202, x79_203, x79_205, x79_207, x79_210, x79_211, x79_212, x79_213, x79_215, x79_216, x79_219, x79_220, x79_221, ↓reduceIte, Bool.false_eq_true, Nat.reduceAdd, Nat.reduceLT, Nat.reduceLeDiff, Nat.reduceSub, Nat.reduceEqDiff, Int.reduceToNat, Int.reduceEq, Int.reduceLT, Int.reduceLE, Int.reduceAdd, Int.reduceSub, zg, zI, zJ, zR, zst, zkl, zn, zcat, zok, zraw, List.length_cons, List.length_nil, Option.toList, List.nil_append, List.cons_append, true_and, and_true, if_true, if_false, ne_eq, not_true, not_false_eq_true, and_self, true_or, or_true, false_or, or_false, false_and, and_false]
          exact one 15 (by rw [c41]; rfl)
        · by_cases c42 : b s = 42
          · simp only [c42, ↓reduceIte, Bool.false_eq_true, Nat.reduceAdd, Nat.reduceLT, Nat.reduceLeDiff, Nat.reduceSub, Nat.reduceEqDiff, Int.reduceToNat, Int.reduceEq, Int.reduceLT, Int.reduceLE, Int.reduceAdd, Int.reduceSub, zg, zI, zJ, zR, zst, zkl, zn, zcat, zok, zraw, List.length_cons, List.length_nil, Option.toList, List.nil_append, List.cons_append, true_and, and_true, if_true, if_false, ne_eq, not_true, not_false_eq_true, and_self, true_or, or_true, false_or, or_false, false_and, and_false]
            simp only [x79_0, x79_1, x79_2, x79_5, x79_6, x79_7, x79_10, x79_11, x79_14, x79_15, x79_18, x79_21, x79_22, x79_25, x79_26, x79_29, x79_30, x79_32, x79_35, x79_36, x79_39, x79_40, x79_41, x79_172, x79_173, x79_174, x79_176, x79_177, x79_179, x79_180, x79_182, x79_183, x79_185, x79_186, x79_188, x79_189, x79_191, x79_192, x79_193, x79_194, x79_196, x79_197, x79_200, x79_201, x79_202, x79_203, x79_205, x79_207, x79_210, x79_211, x79_212, x79_213, x79_215, x79_216, x79_219, x79_220, x79_221, ↓reduceIte, Bool.false_eq_true, Nat.reduceAdd, Nat.reduceLT, Nat.reduceLeDiff, Nat.reduceSub, Nat.reduceEqDiff, Int.reduceToNat, Int.reduceEq, Int.reduceLT, Int.reduceLE, Int.reduceAdd, Int.reduceSub, zg, zI, zJ, zR, zst, zkl, zn, zcat, zok, zraw, List.length_cons, List.length_nil, Option.toList, List.nil_append, List.cons_append, true_and, and_true, if_true, if_false, ne_eq, not_true, not_false_eq_true, and_self, true_or, or_true, false_or, or_false, false_and, and_false]
            exact one 8 (by rw [c42]; rfl)
          · by_cases c43 : b s = 43
            · simp only [c43, ↓reduceIte, Bool.false_eq_true, Nat.reduceAdd, Nat.reduceLT, Nat.reduceLeDiff, Nat.reduceSub, Nat.reduceEqDiff, Int.reduceToNat, Int.reduceEq, Int.reduceLT, Int.reduceLE, Int.reduceAdd, Int.reduceSub, zg, zI, zJ, zR, zst, zkl, zn, zcat, zok, zraw, List.length_cons, List.length_nil, Option.toList, List.nil_append, List.cons_append, true_and, and_true, if_true, if_false, ne_eq, not_true, not_false_eq_true, and_self, true_or, or_true, false_or, or_false, false_and, and_false]
              simp only [x79_0, x79_1, x79_2, x79_5, x79_6, x79_7, x79_10, x79_11, x79_14, x79_15, x79_18, x79_21, x79_22, x79_25, x79_26, x79_29, x79_30, x79_32, x79_35, x79_36, x79_39, x79_40, x79_41, x79_172, x79_173, x79_174, x79_176, x79_177, x79_179, x79_180, x79_182, x79_183, x79_185, x79_186, x79_188, x79_189, x79_191, x79_192, x79_193, x79_194, x79_196, x79_197, x79_200, x79_201, x79_202, x79_203, x79_205, x79_207, x79_210, x79_211, x79_212, x79_213, x79_215, x79_216, x79_219, x79_220, x79_221, ↓reduceIte, Bool.false_eq_true, Nat.reduceAdd, Nat.reduceLT, Nat.reduceLeDiff, Nat.reduceSub, Nat.reduceEqDiff, Int.reduceToNat, Int.reduceEq, Int.reduceLT, Int.reduceLE, Int.reduceAdd, Int.reduceSub, zg, zI, zJ, zR, zst, zkl, zn, zcat, zok, zraw, List.length_cons, List.length_nil, Option.toList, List.nil_append, List.cons_append, true_and, and_true, if_true, if_false, ne_eq, not_true, not_false_eq_true, and_self, true_or, or_true, false_or, or_false, false_and, and_false]
              exact one 6 (by rw [c43]; rfl)
            · by_cases c45 : b s = 45
              · simp only [c45, ↓reduceIte, Bool.false_eq_true, Nat.reduceAdd, Nat.reduceLT, Nat.reduceLeDiff, Nat.reduceSub, Nat.reduceEqDiff, Int.reduceToNat, Int.reduceEq, Int.reduceLT, Int.reduceLE, Int.reduceAdd, Int.reduceSub, zg, zI, zJ, zR, zst, zkl, zn, zcat, zok, zraw, List.length_cons, List.length_nil, Option.toList, List.nil_append, List.cons_append, true_and, and_true, if_true, if_false, ne_eq, not_true, not_false_eq_true, and_self, true_or, or_true, false_or, or_false, false_and, and_false]
                simp only [x79_0, x79_1, x79_2, x79_5, x79_6, x79_7, x79_10, x79_11, x79_14, x79_15, x79_18, x79_21, x79_22, x79_25, x79_26, x79_29, x79_30, x79_32, x79_35, x79_36, x79_39, x79_40, x79_41, x79_172, x79_173, x79_174, x79_176, x79_177, x79_179, x79_180, x79_182, x79_183, x79_185, x79_186, x79_188, x79_189, x79_191, x79_192, x79_193, x79_194, x79_196, x79_197, x79_200, x79_201, x79_202, x79_203, x79_205, x79_207, x79_210, x79_211, x79_212, x79_213, x79_215, x79_216, x79_219, x79_220, x79_221, ↓reduceIte, Bool.false_eq_true, Nat.reduceAdd, Nat.reduceLT, Nat.reduceLeDiff, Nat.reduceSub, Nat.reduceEqDiff, Int.reduceToNat, Int.reduceEq, Int.reduceLT, Int.reduceLE, Int.reduceAdd, Int.reduceSub, zg, zI, zJ, zR, zst, zkl, zn, zcat, zok, zraw, List.length_cons, List.length_nil, Option.toList, List.nil_append, List.cons_append, true_and, and_true, if_true, if_false, ne_eq, not_true, not_false_eq_true, and_self, true_or, or_true, false_or, or_false, false_and, and_false]
                exact one 7 (by rw [c45]; rfl)
              · by_cases c47 : b s = 47
                · simp only [c47, ↓reduceIte, Bool.false_eq_true, Nat.reduceAdd, Nat.reduceLT, Nat.reduceLeDiff, Nat.reduceSub, Nat.reduceEqDiff, Int.reduceToNat, Int.reduceEq, Int.reduceLT, Int.reduceLE, Int.reduceAdd, Int.reduceSub, zg, zI, zJ, zR, zst, zkl, zn, zcat, zok, zraw, List.length_cons, List.length_nil, Option.toList, List.nil_append, List.cons_append, true_and, and_true, if_true, if_false, ne_eq, not_true, not_false_eq_true, and_self, true_or, or_true, false_or, or_false, false_and, and_false]
                  simp only [x79_0, x79_1, x79_2, x79_5, x79_6, x79_7, x79_10, x79_11, x79_14, x79_15, x79_18, x79_21, x79_22, x79_25, x79_26, x79_29, x79_30, x79_32, x79_35, x79_36, x79_39, x79_40, x79_41, x79_172, x79_173, x79_174, x79_176, x79_177, x79_179, x79_180, x79_182, x79_183, x79_185, x79_186, x79_188, x79_189, x79_191, x79_192, x79_193, x79_194, x79_196, x79_197, x79_200, x79_201, x79_202, x79_203, x79_205, x79_207, x79_210, x79_211, x79_212, x79_213, x79_215, x79_216, x79_219, x79_220, x79_221, ↓reduceIte, Bool.false_eq_true, Nat.reduceAdd, Nat.reduceLT, Nat.reduceLeDiff, Nat.reduceSub, Nat.reduceEqDiff, Int.reduceToNat, Int.reduceEq, Int.reduceLT, Int.reduceLE, Int.reduceAdd, Int.reduceSub, zg, zI, zJ, zR, zst, zkl, zn, zcat, zok, zraw, List.length_cons, List.length_nil, Option.toList, List.nil_append, List.cons_append, true_and, and_true, if_true, if_false, ne_eq, not_true, not_false_eq_true, and_self, true_or, or_true, false_or, or_false, false_and, and_false]
                  exact one 9 (by rw [c47]; rfl)
                · by_cases c59 : b s = 59
                  · simp only [c59, ↓reduceIte, Bool.false_eq_true, Nat.reduceAdd, Nat.reduceLT, Nat.reduceLeDiff, Nat.reduceSub, Nat.reduceEqDiff, Int.reduceToNat, Int.reduceEq, Int.reduceLT, Int.reduceLE, Int.reduceAdd, Int.reduceSub, zg, zI, zJ, zR, zst, zkl, zn, zcat, zok, zraw, List.length_cons, List.length_nil, Option.toList, List.nil_append, List.cons_append, true_and, and_true, if_true, if_false, ne_eq, not_true, not_false_eq_true, and_self, true_or, or_true, false_or, or_false, false_and, and_false]
                    simp only [x79_0, x79_1, x79_2, x79_5, x79_6, x79_7, x79_10, x79_11, x79_14, x79_15, x79_18, x79_21, x79_22, x79_25, x79_26, x79_29, x79_30, x79_32, x79_35, x79_36, x79_39, x79_40, x79_41, x79_172, x79_173, x79_174, x79_176, x79_177, x79_179, x79_180, x79_182, x79_183, x79_185, x79_186, x79_188, x79_189, x79_191, x79_192, x79_193, x79_194, x79_196, x79_197, x79_200, x79_201, x79_202, x79_203, x79_205, x79_207, x79_210, x79_211, x79_212, x79_213, x79_215, x79_216, x79_219, x79_220, x79_221, ↓reduceIte, Bool.false_eq_true, Nat.reduceAdd, Nat.reduceLT, Nat.reduceLeDiff, Nat.reduceSub, Nat.reduceEqDiff, Int.reduceToNat, Int.reduceEq, Int.reduceLT, Int.reduceLE, Int.reduceAdd, Int.reduceSub, zg, zI, zJ, zR, zst, zkl, zn, zcat, zok, zraw, List.length_cons, List.length_nil, Option.toList, List.nil_append, List.cons_append, true_and, and_true, if_true, if_false, ne_eq, not_true, not_false_eq_true, and_self, true_or, or_true, false_or, or_false, false_and, and_false]
                    exact one 4 (by rw [c59]; rfl)
                  · by_cases c60 : b s = 60
                    · simp only [c60, ↓reduceIte, Bool.false_eq_true, Nat.reduceAdd, Nat.reduceLT, Nat.reduceLeDiff, Nat.reduceSub, Nat.reduceEqDiff, Int.reduceToNat, Int.reduceEq, Int.reduceLT, Int.reduceLE, Int.reduceAdd, Int.reduceSub, zg, zI, zJ, zR, zst, zkl, zn, zcat, zok, zraw, List.length_cons, List.length_nil, Option.toList, List.nil_append, List.cons_append, true_and, and_true, if_true, if_false, ne_eq, not_true, not_false_eq_true, and_self, true_or, or_true, false_or, or_false, false_and, and_false]
                      simp only [x79_0, x79_1, x79_2, x79_5, x79_6, x79_7, x79_10, x79_11, x79_14, x79_15, x79_18, x79_21, x79_22, x79_25, x79_26, x79_29, x79_30, x79_32, x79_35, x79_36, x79_39, x79_40, x79_41, x79_172, x79_173, x79_174, x79_176, x79_177, x79_179, x79_180, x79_182, x79_183, x79_185, x79_186, x79_188, x79_189, x79_191, x79_192, x79_193, x79_194, x79_196, x79_197, x79_200, x79_201, x79_202, x79_203, x79_205, x79_207, x79_210, x79_211, x79_212, x79_213, x79_215, x79_216, x79_219, x79_220, x79_221, ↓reduceIte, Bool.false_eq_true, Nat.reduceAdd, Nat.reduceLT, Nat.reduceLeDiff, Nat.reduceSub, Nat.reduceEqDiff, Int.reduceToNat, Int.reduceEq, Int.reduceLT, Int.reduceLE, Int.reduceAdd, Int.reduceSub, zg, zI, zJ, zR, zst, zkl, zn, zcat, zok, zraw, List.length_cons, List.length_nil, Option.toList, List.nil_append, List.cons_append, true_and, and_true, if_true, if_false, ne_eq, not_true, not_false_eq_true, and_self, true_or, or_true, false_or, or_false, false_and, and_false, b_2 hc, b_3 hc, b_9 hc, b_12 hc, b_26 hc, b_40 hc, b_46 hc, b_47 hc, b_60 hc, b_62 hc, b_63 hc, b_76 hc, b_77 hc, b_90 hc, b_91 hc, b_104 hc, b_107 hc, b_114 hc, b_115 hc, b_122 hc, b_123 hc, b_131 hc, hd0]
                      exact eqs 13 12 _ _ _ rfl rfl (fun v μ2 h => by simp only [x79_0, x79_1, x79_2, x79_5, x79_6, x79_7, x79_10, x79_11, x79_14, x79_15, x79_18, x79_21, x79_22, x79_25, x79_26, x79_29, x79_30, x79_32, x79_35, x79_36, x79_39, x79_40, x79_41, x79_172, x79_173, x79_174, x79_176, x79_177, x79_179, x79_180, x79_182, x79_183, x79_185, x79_186, x79_188, x79_189, x79_191, x79_192, x79_193, x79_194, x79_196, x79_197, x79_200, x79_201, x79_202, x79_203, x79_205, x79_207, x79_210, x79_211, x79_212, x79_213, x79_215, x79_216, x79_219, x79_220, x79_221, ↓reduceIte, Bool.false_eq_true, Nat.reduceAdd, Nat.reduceLT, Nat.reduceLeDiff, Nat.reduceSub, Nat.reduceEqDiff, Int.reduceToNat, Int.reduceEq, Int.reduceLT, Int.reduceLE, Int.reduceAdd, Int.reduceSub, zg, zI, zJ, zR, zst, zkl, zn, zcat, zok, zraw, List.length_cons, List.length_nil, Option.toList, List.nil_append, List.cons_append, true_and, and_true, if_true, if_false, ne_eq, not_true, not_false_eq_true, and_self, true_or, or_true, false_or, or_false, false_and, and_false]; exact h) (by rw [c60]; cases two <;> rfl)
                    · by_cases c61 : b s = 61
                      · simp only [c61, ↓reduceIte, Bool.false_eq_true, Nat.reduceAdd, Nat.reduceLT, Nat.reduceLeDiff, Nat.reduceSub, Nat.reduceEqDiff, Int.reduceToNat, Int.reduceEq, Int.reduceLT, Int.reduceLE, Int.reduceAdd, Int.reduceSub, zg, zI, zJ, zR, zst, zkl, zn, zcat, zok, zraw, List.length_cons, List.length_nil, Option.toList, List.nil_append, List.cons_append, true_and, and_true, if_true, if_false, ne_eq, not_true, not_false_eq_true, and_self, true_or, or_true, false_or, or_false, false_and, and_false]
                        simp only [x79_0, x79_1, x79_2, x79_5, x79_6, x79_7, x79_10, x79_11, x79_14, x79_15, x79_18, x79_21, x79_22, x79_25, x79_26, x79_29, x79_30, x79_32, x79_35, x79_36, x79_39, x79_40, x79_41, x79_172, x79_173, x79_174, x79_176, x79_177, x79_179, x79_180, x79_182, x79_183, x79_185, x79_186, x79_188, x79_189, x79_191, x79_192, x79_193, x79_194, x79_196, x79_197, x79_200, x79_201, x79_202, x79_203, x79_205, x79_207, x79_210, x79_211, x79_212, x79_213, x79_215, x79_216, x79_219, x79_220, x79_221, ↓reduceIte, Bool.false_eq_true, Nat.reduceAdd, Nat.reduceLT, Nat.reduceLeDiff, Nat.reduceSub, Nat.reduceEqDiff, Int.reduceToNat, Int.reduceEq, Int.reduceLT, Int.reduceLE, Int.reduceAdd, Int.reduceSub, zg, zI, zJ, zR, zst, zkl, zn, zcat, zok, zraw, List.length_cons, List.length_nil, Option.toList, List.nil_append, List.cons_append, true_and, and_true, if_true, if_false, ne_eq, not_true, not_false_eq_true, and_self, true_or, or_true, false_or, or_false, false_and, and_false, b_2 hc, b_3 hc, b_9 hc, b_12 hc, b_26 hc, b_40 hc, b_46 hc, b_47 hc, b_60 hc, b_62 hc, b_63 hc, b_76 hc, b_77 hc, b_90 hc, b_91 hc, b_104 hc, b_107 hc, b_114 hc, b_115 hc, b_122 hc, b_123 hc, b_131 hc, hd0]
                        exact eqs 10 5 _ _ _ rfl rfl (fun v μ2 h => by simp only [x79_0, x79_1, x79_2, x79_5, x79_6, x79_7, x79_10, x79_11, x79_14, x79_15, x79_18, x79_21, x79_22, x79_25, x79_26, x79_29, x79_30, x79_32, x79_35, x79_36, x79_39, x79_40, x79_41, x79_172, x79_173, x79_174, x79_176, x79_177, x79_179, x79_180, x79_182, x79_183, x79_185, x79_186, x79_188, x79_189, x79_191, x79_192, x79_193, x79_194, x79_196, x79_197, x79_200, x79_201, x79_202, x79_203, x79_205, x79_207, x79_210, x79_211, x79_212, x79_213, x79_215, x79_216, x79_219, x79_220, x79_221, ↓reduceIte, Bool.false_eq_true, Nat.reduceAdd, Nat.reduceLT, Nat.reduceLeDiff, Nat.reduceSub, Nat.reduceEqDiff, Int.reduceToNat, Int.reduceEq, Int.reduceLT, Int.reduceLE, Int.reduceAdd, Int.reduceSub, zg, zI, zJ, zR, zst, zkl, zn, zcat, zok, zraw, List.length_cons, List.length_nil, Option.toList, List.nil_append, List.cons_append, true_and, and_true, if_true, if_false, ne_eq, not_true, not_false_eq_true, and_self, true_or, or_true, false_or, or_false, false_and, and_false]; exact h) (by rw [c61]; cases two <;> rfl)
                      · have e : sgO (b s) two = (1, 1) := by
                          unfold sgO
                          simp only [c33, c40, c41, c42, c43, c45, c47, c59, c60, c61, if_false]
                        have h := h220 e
                        simp only [zI, true_and, c40, c41, c42, c43, c45, c47, c59, c60, c61, if_false, ite_self]
                        exact h
  by_cases hl : s + 1 < n
  · have c1 : ¬ (n : Int) ≤ ((s + 1 : Nat) : Int) := by omega
    have i1 : (0 : Int) ≤ ((s + 1 : Nat) : Int) := by omega
    have i2 : ((s + 1 : Nat) : Int) < 2000 := by omega
    have e7 : μ1 7 (s + 1) = b (s + 1) := by rw [gf 7 (by decide)]; exact hB.2.1 (s + 1) hl
    have e33 : μ1 3 3 = (n : Int) := by rw [gj 3 (by decide)]; exact hB.1
    by_cases h61 : b (s + 1) = 61
    · have ht : two = true := by rw [htwo]; exact decide_eq_true ⟨hl, h61⟩
      rw [ht] at sw
      simp only [x79_0, x79_1, x79_2, x79_5, x79_6, x79_7, x79_10, x79_11, x79_14, x79_15, x79_18, x79_21, x79_22, x79_25, x79_26, x79_29, x79_30, x79_32, x79_35, x79_36, x79_39, x79_40, x79_42, x79_172, x79_173, x79_174, x79_176, x79_177, x79_179, x79_180, x79_182, x79_183, x79_185, x79_186, x79_188, x79_189, x79_191, x79_192, x79_193, x79_194, x79_196, x79_197, x79_200, x79_201, x79_202, x79_203, x79_205, x79_207, x79_210, x79_211, x79_212, x79_213, x79_215, x79_216, x79_219, x79_220, x79_221, ↓reduceIte, Bool.false_eq_true, Nat.reduceAdd, Nat.reduceLT, Nat.reduceLeDiff, Nat.reduceSub, Nat.reduceEqDiff, Int.reduceToNat, Int.reduceEq, Int.reduceLT, Int.reduceLE, Int.reduceAdd, Int.reduceSub, zg, zI, zJ, zR, zst, zkl, zn, zcat, zok, zraw, List.length_cons, List.length_nil, Option.toList, List.nil_append, List.cons_append, true_and, and_true, if_true, if_false, ne_eq, not_true, not_false_eq_true, and_self, true_or, or_true, false_or, or_false, false_and, and_false, b_2 hc, b_3 hc, b_9 hc, b_12 hc, b_26 hc, b_40 hc, b_46 hc, b_47 hc, b_60 hc, b_62 hc, b_63 hc, b_76 hc, b_77 hc, b_90 hc, b_91 hc, b_104 hc, b_107 hc, b_114 hc, b_115 hc, b_122 hc, b_123 hc, b_131 hc, b_3 hc, r_3_0 hc, x_4 hc, r_3_1 hc, x_5 hc, r_3_2 hc, x_6 hc, r_3_4 hc, x_7 hc, n_7 hc, r_3_5 hc, x_8 hc, h6, w32_s w1, ua_eq, ← hμ1, g6, e33, c1, x_7 hc i1 i2, Int.toNat_natCast, e7, h61]
      exact sw
    · have ht : two = false := by rw [htwo]; exact decide_eq_false (fun hh => h61 hh.2)
      rw [ht] at sw
      simp only [x79_0, x79_1, x79_2, x79_5, x79_6, x79_7, x79_10, x79_11, x79_14, x79_15, x79_18, x79_21, x79_22, x79_25, x79_26, x79_29, x79_30, x79_32, x79_35, x79_36, x79_39, x79_40, x79_42, x79_172, x79_173, x79_174, x79_176, x79_177, x79_179, x79_180, x79_182, x79_183, x79_185, x79_186, x79_188, x79_189, x79_191, x79_192, x79_193, x79_194, x79_196, x79_197, x79_200, x79_201, x79_202, x79_203, x79_205, x79_207, x79_210, x79_211, x79_212, x79_213, x79_215, x79_216, x79_219, x79_220, x79_221, ↓reduceIte, Bool.false_eq_true, Nat.reduceAdd, Nat.reduceLT, Nat.reduceLeDiff, Nat.reduceSub, Nat.reduceEqDiff, Int.reduceToNat, Int.reduceEq, Int.reduceLT, Int.reduceLE, Int.reduceAdd, Int.reduceSub, zg, zI, zJ, zR, zst, zkl, zn, zcat, zok, zraw, List.length_cons, List.length_nil, Option.toList, List.nil_append, List.cons_append, true_and, and_true, if_true, if_false, ne_eq, not_true, not_false_eq_true, and_self, true_or, or_true, false_or, or_false, false_and, and_false, b_2 hc, b_3 hc, b_9 hc, b_12 hc, b_26 hc, b_40 hc, b_46 hc, b_47 hc, b_60 hc, b_62 hc, b_63 hc, b_76 hc, b_77 hc, b_90 hc, b_91 hc, b_104 hc, b_107 hc, b_114 hc, b_115 hc, b_122 hc, b_123 hc, b_131 hc, b_3 hc, r_3_0 hc, x_4 hc, r_3_1 hc, x_5 hc, r_3_2 hc, x_6 hc, r_3_4 hc, x_7 hc, n_7 hc, r_3_5 hc, x_8 hc, h6, w32_s w1, ua_eq, ← hμ1, g6, e33, c1, x_7 hc i1 i2, Int.toNat_natCast, e7, h61]
      exact sw
  · have c1 : (n : Int) ≤ ((s + 1 : Nat) : Int) := by omega
    have e33 : μ1 3 3 = (n : Int) := by rw [gj 3 (by decide)]; exact hB.1
    have ht : two = false := by rw [htwo]; exact decide_eq_false (fun hh => hl hh.1)
    rw [ht] at sw
    simp only [x79_0, x79_1, x79_2, x79_5, x79_6, x79_7, x79_10, x79_11, x79_14, x79_15, x79_18, x79_21, x79_22, x79_25, x79_26, x79_29, x79_30, x79_32, x79_35, x79_36, x79_39, x79_40, x79_42, x79_172, x79_173, x79_174, x79_176, x79_177, x79_179, x79_180, x79_182, x79_183, x79_185, x79_186, x79_188, x79_189, x79_191, x79_192, x79_193, x79_194, x79_196, x79_197, x79_200, x79_201, x79_202, x79_203, x79_205, x79_207, x79_210, x79_211, x79_212, x79_213, x79_215, x79_216, x79_219, x79_220, x79_221, ↓reduceIte, Bool.false_eq_true, Nat.reduceAdd, Nat.reduceLT, Nat.reduceLeDiff, Nat.reduceSub, Nat.reduceEqDiff, Int.reduceToNat, Int.reduceEq, Int.reduceLT, Int.reduceLE, Int.reduceAdd, Int.reduceSub, zg, zI, zJ, zR, zst, zkl, zn, zcat, zok, zraw, List.length_cons, List.length_nil, Option.toList, List.nil_append, List.cons_append, true_and, and_true, if_true, if_false, ne_eq, not_true, not_false_eq_true, and_self, true_or, or_true, false_or, or_false, false_and, and_false, b_2 hc, b_3 hc, b_9 hc, b_12 hc, b_26 hc, b_40 hc, b_46 hc, b_47 hc, b_60 hc, b_62 hc, b_63 hc, b_76 hc, b_77 hc, b_90 hc, b_91 hc, b_104 hc, b_107 hc, b_114 hc, b_115 hc, b_122 hc, b_123 hc, b_131 hc, b_3 hc, r_3_0 hc, x_4 hc, r_3_1 hc, x_5 hc, r_3_2 hc, x_6 hc, r_3_4 hc, x_7 hc, n_7 hc, r_3_5 hc, x_8 hc, h6, w32_s w1, ua_eq, ← hμ1, g6, e33, c1]
    exact sw
/-- one TOKEN -/
theorem cNextTok {d s : Nat} {x1 : zV} (hc : Tc θ) (hd : 2 ≤ d) (hW : CWd μ) (hB : TB b n μ) (hs : s ≤ n) (h6 : μ 3 6 = (s : Nat)) (h7 : μ 3 7 = 0)
    (hQ : ∀ μ', Fr [3] μ μ' → (∀ j, j ≠ 6 → j ≠ 7 → μ' 3 j = μ 3 j) → μ' 3 6 = ((tkO b n s).2 : Nat) → ((tkO b n s).1 = 2 → μ' 3 7 = nmI 10 (dfO b s) (enE isDd b n s - s)) → ((tkO b n s).1 = 3 → μ' 3 7 = nmI 32 (lfO b s) (enE isLl b n s - s)) → Q (some (vi ((tkO b n s).1 : Nat))) θ μ') : Ex d 76 0 [vr 3, x1] [] θ μ Q := by
  have hd0 : 0 < d := by omega
  have hn := hB.2.2.1
  unfold tkO at hQ
  by_cases h0 : n ≤ s
  · simp only [if_pos h0] at hQ
    have c1 : ¬ (s : Int) < (n : Int) := by omega
    simp only [x76_0, x76_1, x76_4, x76_5, x76_8, x76_11, x76_12, x76_13, x76_14, x76_17, x76_18, x76_21, x76_22, x76_23, x76_24, x76_27, x76_30, x76_31, x76_34, x76_35, x76_36, x76_39, x76_42, x76_43, x76_46, x76_49, x76_50, x76_51, x76_54, ↓reduceIte, Bool.false_eq_true, Nat.reduceAdd, Nat.reduceLT, Nat.reduceLeDiff, Nat.reduceSub, Nat.reduceEqDiff, Int.reduceToNat, Int.reduceEq, Int.reduceLT, Int.reduceLE, Int.reduceAdd, Int.reduceSub, zg, zI, zJ, zR, zst, zkl, zn, zcat, zok, zraw, List.length_cons, List.length_nil, Option.toList, List.nil_append, List.cons_append, true_and, and_true, if_true, if_false, ne_eq, not_true, not_false_eq_true, and_self, true_or, or_true, false_or, or_false, false_and, and_false, b_2 hc, b_3 hc, b_9 hc, b_12 hc, b_26 hc, b_40 hc, b_46 hc, b_47 hc, b_60 hc, b_62 hc, b_63 hc, b_76 hc, b_77 hc, b_90 hc, b_91 hc, b_104 hc, b_107 hc, b_114 hc, b_115 hc, b_122 hc, b_123 hc, b_131 hc, b_3 hc, r_3_0 hc, x_4 hc, r_3_1 hc, x_5 hc, r_3_2 hc, x_6 hc, r_3_4 hc, x_7 hc, n_7 hc, r_3_5 hc, x_8 hc, h6, hB.1, c1]
    exact hQ μ Fr.refl (fun _ _ _ => rfl) h6 (fun hh => by cases hh) (fun hh => by cases hh)
  · simp only [if_neg h0] at hQ
    have c1 : (s : Int) < (n : Int) := by omega
    have i1 : (0 : Int) ≤ (s : Int) := by omega
    have i2 : (s : Int) < 2000 := by omega
    have e7 := hB.2.1 s (by omega)
    cases hl : isLl (b s) with
    | true =>
      simp only [hl, if_true] at hQ
      simp only [x76_0, x76_1, x76_4, x76_5, x76_8, x76_11, x76_12, x76_13, x76_14, x76_17, x76_18, x76_21, x76_22, x76_23, x76_24, x76_27, x76_30, x76_31, x76_34, x76_35, x76_36, x76_39, x76_42, x76_43, x76_46, x76_49, x76_50, x76_51, x76_54, ↓reduceIte, Bool.false_eq_true, Nat.reduceAdd, Nat.reduceLT, Nat.reduceLeDiff, Nat.reduceSub, Nat.reduceEqDiff, Int.reduceToNat, Int.reduceEq, Int.reduceLT, Int.reduceLE, Int.reduceAdd, Int.reduceSub, zg, zI, zJ, zR, zst, zkl, zn, zcat, zok, zraw, List.length_cons, List.length_nil, Option.toList, List.nil_append, List.cons_append, true_and, and_true, if_true, if_false, ne_eq, not_true, not_false_eq_true, and_self, true_or, or_true, false_or, or_false, false_and, and_false, b_2 hc, b_3 hc, b_9 hc, b_12 hc, b_26 hc, b_40 hc, b_46 hc, b_47 hc, b_60 hc, b_62 hc, b_63 hc, b_76 hc, b_77 hc, b_90 hc, b_91 hc, b_104 hc, b_107 hc, b_114 hc, b_115 hc, b_122 hc, b_123 hc, b_131 hc, b_3 hc, r_3_0 hc, x_4 hc, r_3_1 hc, x_5 hc, r_3_2 hc, x_6 hc, r_3_4 hc, x_7 hc, n_7 hc, r_3_5 hc, x_8 hc, x_7 hc i1 i2, h6, hB.1, c1, e7, Int.toNat_natCast, eLetter, hl, b2, hd0]
      refine cWord (d := d - 1) hc (by omega) hW hB (by omega) h6 h7 (fun μ1 f1 j1 g6 g7 => ?_)
      simp only [x76_0, x76_1, x76_4, x76_5, x76_8, x76_11, x76_12, x76_13, x76_14, x76_17, x76_18, x76_21, x76_22, x76_23, x76_24, x76_27, x76_30, x76_31, x76_34, x76_35, x76_36, x76_39, x76_42, x76_43, x76_46, x76_49, x76_50, x76_51, x76_54, ↓reduceIte, Bool.false_eq_true, Nat.reduceAdd, Nat.reduceLT, Nat.reduceLeDiff, Nat.reduceSub, Nat.reduceEqDiff, Int.reduceToNat, Int.reduceEq, Int.reduceLT, Int.reduceLE, Int.reduceAdd, Int.reduceSub, zg, zI, zJ, zR, zst, zkl, zn, zcat, zok, zraw, List.length_cons, List.length_nil, Option.toList, List.nil_append, List.cons_append, true_and, and_true, if_true, if_false, ne_eq, not_true, not_false_eq_true, and_self, true_or, or_true, false_or, or_false, false_and, and_false]
      refine hQ μ1 f1 j1 g6 (fun hh => ?_) (fun hh => ?_)
      · have := kw_b (nmI 32 (lfO b s) (enE isLl b n s - s))
        by_cases c : 8 < enE isLl b n s - s
        · rw [if_pos c] at hh; omega
        · rw [if_neg c] at hh; omega
      · by_cases c : 8 < enE isLl b n s - s
        · rw [if_pos c] at hh; omega
        · exact g7 (by omega)
    | false =>
      simp only [hl, if_false, Bool.false_eq_true] at hQ
      cases hdg : isDd (b s) with
      | true =>
        simp only [hdg, if_true] at hQ
        simp only [x76_0, x76_1, x76_4, x76_5, x76_8, x76_11, x76_12, x76_13, x76_14, x76_17, x76_18, x76_21, x76_22, x76_23, x76_24, x76_27, x76_30, x76_31, x76_34, x76_35, x76_36, x76_39, x76_42, x76_43, x76_46, x76_49, x76_50, x76_51, x76_54, ↓reduceIte, Bool.false_eq_true, Nat.reduceAdd, Nat.reduceLT, Nat.reduceLeDiff, Nat.reduceSub, Nat.reduceEqDiff, Int.reduceToNat, Int.reduceEq, Int.reduceLT, Int.reduceLE, Int.reduceAdd, Int.reduceSub, zg, zI, zJ, zR, zst, zkl, zn, zcat, zok, zraw, List.length_cons, List.length_nil, Option.toList, List.nil_append, List.cons_append, true_and, and_true, if_true, if_false, ne_eq, not_true, not_false_eq_true, and_self, true_or, or_true, false_or, or_false, false_and, and_false, b_2 hc, b_3 hc, b_9 hc, b_12 hc, b_26 hc, b_40 hc, b_46 hc, b_47 hc, b_60 hc, b_62 hc, b_63 hc, b_76 hc, b_77 hc, b_90 hc, b_91 hc, b_104 hc, b_107 hc, b_114 hc, b_115 hc, b_122 hc, b_123 hc, b_131 hc, b_3 hc, r_3_0 hc, x_4 hc, r_3_1 hc, x_5 hc, r_3_2 hc, x_6 hc, r_3_4 hc, x_7 hc, n_7 hc, r_3_5 hc, x_8 hc, x_7 hc i1 i2, h6, hB.1, c1, e7, Int.toNat_natCast, eLetter, hl, eDigit, hdg, b2, hd0]
        refine cDigits (d := d - 1) hc (by omega) hB (by omega) h6 h7 (fun μ1 f1 j1 g6 g7 => ?_)
        simp only [x76_0, x76_1, x76_4, x76_5, x76_8, x76_11, x76_12, x76_13, x76_14, x76_17, x76_18, x76_21, x76_22, x76_23, x76_24, x76_27, x76_30, x76_31, x76_34, x76_35, x76_36, x76_39, x76_42, x76_43, x76_46, x76_49, x76_50, x76_51, x76_54, ↓reduceIte, Bool.false_eq_true, Nat.reduceAdd, Nat.reduceLT, Nat.reduceLeDiff, Nat.reduceSub, Nat.reduceEqDiff, Int.reduceToNat, Int.reduceEq, Int.reduceLT, Int.reduceLE, Int.reduceAdd, Int.reduceSub, zg, zI, zJ, zR, zst, zkl, zn, zcat, zok, zraw, List.length_cons, List.length_nil, Option.toList, List.nil_append, List.cons_append, true_and, and_true, if_true, if_false, ne_eq, not_true, not_false_eq_true, and_self, true_or, or_true, false_or, or_false, false_and, and_false]
        refine hQ μ1 f1 j1 g6 (fun hh => ?_) (fun hh => ?_)
        · by_cases c : 4 < enE isDd b n s - s
          · rw [if_pos c] at hh; omega
          · exact g7 (by omega)
        · by_cases c : 4 < enE isDd b n s - s
          · rw [if_pos c] at hh; omega
          · rw [if_neg c] at hh; omega
      | false =>
        simp only [hdg, if_false, Bool.false_eq_true] at hQ
        simp only [x76_0, x76_1, x76_4, x76_5, x76_8, x76_11, x76_12, x76_13, x76_14, x76_17, x76_18, x76_21, x76_22, x76_23, x76_24, x76_27, x76_30, x76_31, x76_34, x76_35, x76_36, x76_39, x76_42, x76_43, x76_46, x76_49, x76_50, x76_51, x76_54, ↓reduceIte, Bool.false_eq_true, Nat.reduceAdd, Nat.reduceLT, Nat.reduceLeDiff, Nat.reduceSub, Nat.reduceEqDiff, Int.reduceToNat, Int.reduceEq, Int.reduceLT, Int.reduceLE, Int.reduceAdd, Int.reduceSub, zg, zI, zJ, zR, zst, zkl, zn, zcat, zok, zraw, List.length_cons, List.length_nil, Option.toList, List.nil_append, List.cons_append, true_and, and_true, if_true, if_false, ne_eq, not_true, not_false_eq_true, and_self, true_or, or_true, false_or, or_false, false_and, and_false, b_2 hc, b_3 hc, b_9 hc, b_12 hc, b_26 hc, b_40 hc, b_46 hc, b_47 hc, b_60 hc, b_62 hc, b_63 hc, b_76 hc, b_77 hc, b_90 hc, b_91 hc, b_104 hc, b_107 hc, b_114 hc, b_115 hc, b_122 hc, b_123 hc, b_131 hc, b_3 hc, r_3_0 hc, x_4 hc, r_3_1 hc, x_5 hc, r_3_2 hc, x_6 hc, r_3_4 hc, x_7 hc, n_7 hc, r_3_5 hc, x_8 hc, x_7 hc i1 i2, h6, hB.1, c1, e7, Int.toNat_natCast, eLetter, hl, eDigit, hdg, b2, hd0]
        have hg := sg_k (b s) (decide (s + 1 < n ∧ b (s + 1) = 61))
        refine cSign (d := d - 1) hc (by omega) hB (by omega) h6 (fun μ1 f1 j1 g6 => ?_)
        simp only [x76_0, x76_1, x76_4, x76_5, x76_8, x76_11, x76_12, x76_13, x76_14, x76_17, x76_18, x76_21, x76_22, x76_23, x76_24, x76_27, x76_30, x76_31, x76_34, x76_35, x76_36, x76_39, x76_42, x76_43, x76_46, x76_49, x76_50, x76_51, x76_54, ↓reduceIte, Bool.false_eq_true, Nat.reduceAdd, Nat.reduceLT, Nat.reduceLeDiff, Nat.reduceSub, Nat.reduceEqDiff, Int.reduceToNat, Int.reduceEq, Int.reduceLT, Int.reduceLE, Int.reduceAdd, Int.reduceSub, zg, zI, zJ, zR, zst, zkl, zn, zcat, zok, zraw, List.length_cons, List.length_nil, Option.toList, List.nil_append, List.cons_append, true_and, and_true, if_true, if_false, ne_eq, not_true, not_false_eq_true, and_self, true_or, or_true, false_or, or_false, false_and, and_false]
        exact hQ μ1 f1 (fun j a _ => j1 j a) g6 (fun hh => absurd hh hg.2.2.1) (fun hh => absurd hh hg.2.2.2.1)
/-- all TOKENS, to the end, to what is none, to one more than there may be -/
theorem cScan {d : Nat} {x1 : zV} (hc : Tc θ) (hd : 3 ≤ d) (hW : CWd μ) (hB : TB b n μ)
    (hQ : ∀ μ', Fr [3, 4, 5, 6] μ μ' → (∀ j, j ≠ 6 → j ≠ 7 → μ' 3 j = μ 3 j) → TK (knO2 b n) (viO b n) (vwO 32 b n) (fun j => (stN b n j : Nat)) (zzO b n) μ' → Q none θ μ') : Ex d 74 0 [vr 3, x1] [] θ μ Q := by
  have hd0 : 0 < d := by omega
  have hn := hB.2.2.1
  obtain ⟨hz, hzl, hze⟩ := zz_ok (b := b) (n := n)
  have hV : ∀ j, knO2 b n j = 2 → 0 ≤ viO b n j ∧ viO b n j ≤ 9999 := fun j hj => by
    unfold knO2 tkO at hj
    by_cases h0 : n ≤ stN b n j
    · rw [if_pos h0] at hj; cases hj
    · rw [if_neg h0] at hj
      by_cases h1 : isLl (b (stN b n j)) = true
      · rw [if_pos h1] at hj
        have := kw_b (nmI 32 (lfO b (stN b n j)) (enE isLl b n (stN b n j) - stN b n j))
        simp only at hj
        by_cases c : 8 < enE isLl b n (stN b n j) - stN b n j
        · rw [if_pos c] at hj; omega
        · rw [if_neg c] at hj; omega
      · rw [if_neg h1] at hj
        by_cases h2 : isDd (b (stN b n j)) = true
        · rw [if_pos h2] at hj
          simp only at hj
          by_cases c : 4 < enE isDd b n (stN b n j) - stN b n j
          · rw [if_pos c] at hj; omega
          · have hb := en_b (p := isDd) (b := b) (n := n) (n - stN b n j) (stN b n j) rfl (by omega)
            exact nd_4 (by omega) (fun i hi => by
              have : 48 ≤ b (stN b n j + i) ∧ b (stN b n j + i) ≤ 57 := of_decide_eq_true (hb.2.2.1 (stN b n j + i) (by omega) (by omega))
              unfold dfO; omega)
        · rw [if_neg h2] at hj
          have hg := sg_k (b (stN b n j)) (decide (stN b n j + 1 < n ∧ b (stN b n j + 1) = 61))
          exact absurd hj hg.2.2.1
  have done : ∀ m μ1, Fr [3, 4, 5, 6] μ μ1 → (∀ j, j ≠ 6 → j ≠ 7 → μ1 3 j = μ 3 j) → zzO b n < m → (∀ j, j < m → μ1 4 j = (knO2 b n j : Nat) ∧ μ1 5 j = (stN b n j : Nat) ∧ (knO2 b n j = 2 → μ1 6 j = viO b n j) ∧ (knO2 b n j = 3 → μ1 6 j = vwO 32 b n j)) → Q none θ μ1 := fun m μ1 hf hj hm ht =>
    hQ μ1 hf hj ⟨hz, hV, fun j hj => (tk_b (st_b j).2).2.2.1, fun j hj => ht j (by omega)⟩
  have key : ∀ m L μ1, m ≤ 401 → (L = [vr 3, vi (m : Nat)] ∧ m ≤ zzO b n + 1 ∧ (m = zzO b n + 1 → zzO b n = 400) ∧ Fr [3, 4, 5, 6] μ μ1 ∧ (∀ j, j ≠ 6 → j ≠ 7 → μ1 3 j = μ 3 j) ∧ μ1 3 6 = (poO b n m : Nat) ∧ ∀ j, j < m → μ1 4 j = (knO2 b n j : Nat) ∧ μ1 5 j = (stN b n j : Nat) ∧ (knO2 b n j = 2 → μ1 6 j = viO b n j) ∧ (knO2 b n j = 3 → μ1 6 j = vwO 32 b n j)) → Ex d 74 7 L [] θ μ1 Q := by
    refine Ex_loop (I := fun m L μ1 => L = [vr 3, vi (m : Nat)] ∧ m ≤ zzO b n + 1 ∧ (m = zzO b n + 1 → zzO b n = 400) ∧ Fr [3, 4, 5, 6] μ μ1 ∧ (∀ j, j ≠ 6 → j ≠ 7 → μ1 3 j = μ 3 j) ∧ μ1 3 6 = (poO b n m : Nat) ∧ ∀ j, j < m → μ1 4 j = (knO2 b n j : Nat) ∧ μ1 5 j = (stN b n j : Nat) ∧ (knO2 b n j = 2 → μ1 6 j = viO b n j) ∧ (knO2 b n j = 3 → μ1 6 j = vwO 32 b n j)) 401 ?_ ?_
    · rintro m L μ1 hm ⟨rfl, hmz, hmz2, hf, hj, g6, ht⟩ hk
      have hmz' : m ≤ zzO b n := by
        by_cases q : m = zzO b n + 1
        · have := hmz2 q; omega
        · omega
      have c1 : ¬ (400 : Int) < (m : Int) := by omega
      have i1 : (0 : Int) ≤ (m : Int) := by omega
      have i2 : (m : Int) < 401 := by omega
      have w1 : m < 2147483647 := by omega
      have B1 : TB b n μ1 := ⟨by rw [hj 3 (by decide) (by decide)]; exact hB.1, by rw [hf 7 (by decide)]; exact hB.2.1, hB.2.2⟩
      rw [x74_7]
      simp only [x74_0, x74_1, x74_2, x74_5, x74_6, x74_8, x74_11, x74_14, x74_15, x74_18, x74_19, x74_22, x74_23, x74_24, x74_27, x74_28, x74_29, x74_30, x74_33, x74_34, x74_37, x74_38, x74_39, x74_42, x74_43, x74_44, x74_47, x74_48, x74_49, x74_52, x74_53, x74_54, x74_57, x74_58, x74_59, x74_62, x74_63, x74_66, x74_67, x74_68, x74_69, x74_72, x74_73, x74_76, x74_79, ↓reduceIte, Bool.false_eq_true, Nat.reduceAdd, Nat.reduceLT, Nat.reduceLeDiff, Nat.reduceSub, Nat.reduceEqDiff, Int.reduceToNat, Int.reduceEq, Int.reduceLT, Int.reduceLE, Int.reduceAdd, Int.reduceSub, zg, zI, zJ, zR, zst, zkl, zn, zcat, zok, zraw, List.length_cons, List.length_nil, Option.toList, List.nil_append, List.cons_append, true_and, and_true, if_true, if_false, ne_eq, not_true, not_false_eq_true, and_self, true_or, or_true, false_or, or_false, false_and, and_false, b_3 hc, c1, hd0]
      refine cSkip (d := d - 1) hc (by omega) (n - poO b n m) (poO b n m) μ1 rfl (po_b m) B1 g6 (fun μ2 f2 j2 h26 => ?_)
      have e26 : μ2 3 6 = (stN b n m : Nat) := h26
      simp only [x74_0, x74_1, x74_2, x74_5, x74_6, x74_8, x74_11, x74_14, x74_15, x74_18, x74_19, x74_22, x74_23, x74_24, x74_27, x74_28, x74_29, x74_30, x74_33, x74_34, x74_37, x74_38, x74_39, x74_42, x74_43, x74_44, x74_47, x74_48, x74_49, x74_52, x74_53, x74_54, x74_57, x74_58, x74_59, x74_62, x74_63, x74_66, x74_67, x74_68, x74_69, x74_72, x74_73, x74_76, x74_79, ↓reduceIte, Bool.false_eq_true, Nat.reduceAdd, Nat.reduceLT, Nat.reduceLeDiff, Nat.reduceSub, Nat.reduceEqDiff, Int.reduceToNat, Int.reduceEq, Int.reduceLT, Int.reduceLE, Int.reduceAdd, Int.reduceSub, zg, zI, zJ, zR, zst, zkl, zn, zcat, zok, zraw, List.length_cons, List.length_nil, Option.toList, List.nil_append, List.cons_append, true_and, and_true, if_true, if_false, ne_eq, not_true, not_false_eq_true, and_self, true_or, or_true, false_or, or_false, false_and, and_false, b_2 hc, b_3 hc, b_9 hc, b_12 hc, b_26 hc, b_40 hc, b_46 hc, b_47 hc, b_60 hc, b_62 hc, b_63 hc, b_76 hc, b_77 hc, b_90 hc, b_91 hc, b_104 hc, b_107 hc, b_114 hc, b_115 hc, b_122 hc, b_123 hc, b_131 hc, b_3 hc, r_3_0 hc, x_4 hc, r_3_1 hc, x_5 hc, r_3_2 hc, x_6 hc, r_3_4 hc, x_7 hc, n_7 hc, r_3_5 hc, x_8 hc, x_5 hc i1 i2, e26, ua_eq, Int.toNat_natCast, hd0, us_ne (show (3 : Nat) ≠ 5 by decide)]
      obtain ⟨μ3, hμ3⟩ : ∃ μ3, μ3 = us (us μ2 5 (zup (μ2 5) m (stN b n m : Nat))) 3 (zup (μ2 3) 7 0) := ⟨_, rfl⟩
      rw [← hμ3]
      have f13 : ∀ a, a ≠ 3 → a ≠ 5 → μ3 a = μ1 a := fun a h3 h5 => by rw [hμ3, us_ne h3, us_ne h5, f2 a (by simp; exact h3)]
      have j13 : ∀ j, j ≠ 6 → j ≠ 7 → μ3 3 j = μ1 3 j := fun j j6 j7 => by rw [hμ3, us_same, zup_ne j7, j2 j j6]
      have g36 : μ3 3 6 = (stN b n m : Nat) := by rw [hμ3, us_same, zup_ne (by decide)]; exact e26
      have g37 : μ3 3 7 = 0 := by rw [hμ3, us_same, zup_same rfl]
      have g35 : μ3 5 = zup (μ1 5) m (stN b n m : Nat) := by rw [hμ3, us_ne (by decide), us_same, f2 5 (by decide)]
      clear hμ3
      have B3 : TB b n μ3 := ⟨by rw [j13 3 (by decide) (by decide)]; exact B1.1, by rw [f13 7 (by decide) (by decide)]; exact B1.2.1, hB.2.2⟩
      have W3 : CWd μ3 := fun k hk => by rw [f13 8 (by decide) (by decide), hf 8 (by decide)]; exact hW k hk
      refine cNextTok (d := d - 1) hc (by omega) W3 B3 (st_b m).2 g36 g37 (fun μ4 f4 j4 g46 gV gN => ?_)
      have e44 : μ4 4 = μ1 4 := by rw [f4 4 (by decide), f13 4 (by decide) (by decide)]
      have ek : ((tkO b n (stN b n m)).1 : Nat) = knO2 b n m := rfl
      obtain ⟨v7, hv7⟩ : ∃ v7, v7 = μ4 3 7 := ⟨_, rfl⟩
      obtain ⟨μ5, hμ5⟩ : ∃ μ5, μ5 = us (us μ4 4 (zup (μ4 4) m (knO2 b n m : Nat))) 6 (zup (μ4 6) m v7) := ⟨_, rfl⟩
      have f5 : Fr [3, 4, 5, 6] μ μ5 := by
        rw [hμ5]
        refine Fr.us (by simp) (Fr.us (by simp) (fun a ha => ?_))
        simp at ha
        rw [f4 a (by simp; omega), f13 a (by omega) (by omega)]
        exact hf a (by simp; omega)
      have j5 : ∀ j, j ≠ 6 → j ≠ 7 → μ5 3 j = μ 3 j := fun j j6 j7 => by rw [hμ5, us_ne (by decide), us_ne (by decide), j4 j j6 j7, j13 j j6 j7]; exact hj j j6 j7
      have g56 : μ5 3 6 = (poO b n (m + 1) : Nat) := by rw [hμ5, us_ne (by decide), us_ne (by decide)]; exact g46
      have t5 : ∀ j, j < m + 1 → μ5 4 j = (knO2 b n j : Nat) ∧ μ5 5 j = (stN b n j : Nat) ∧ (knO2 b n j = 2 → μ5 6 j = viO b n j) ∧ (knO2 b n j = 3 → μ5 6 j = vwO 32 b n j) := fun j hjm => by
        have e54 : μ5 4 j = zup (μ1 4) m (knO2 b n m : Nat) j := by rw [hμ5, us_ne (by decide), us_same, e44]
        have e55 : μ5 5 j = zup (μ1 5) m (stN b n m : Nat) j := by rw [hμ5, us_ne (by decide), us_ne (by decide), f4 5 (by decide), g35]
        have e56 : μ5 6 j = zup (μ1 6) m v7 j := by rw [hμ5, us_same, f4 6 (by decide), f13 6 (by decide) (by decide)]
        rw [e54, e55, e56]
        by_cases q : j = m
        · subst q
          rw [zup_same rfl, zup_same rfl, zup_same rfl]
          exact ⟨rfl, rfl, fun hh => by rw [hv7]; exact gV hh, fun hh => by rw [hv7]; exact gN hh⟩
        · rw [zup_ne q, zup_ne q, zup_ne q]; exact ht j (by omega)
      have e54m : μ5 4 m = (knO2 b n m : Nat) := (t5 m (by omega)).1
      by_cases k1 : knO2 b n m ≤ 1
      · have hzm : zzO b n ≤ m := by
          by_cases q : m < zzO b n
          · have := hzl m q; omega
          · omega
        have hfin := done (m + 1) μ5 f5 j5 (by omega) t5
        by_cases k0 : knO2 b n m = 0
        · have k0' : ((knO2 b n m : Nat) : Int) = 0 := by omega
          simp only [x74_0, x74_1, x74_2, x74_5, x74_6, x74_8, x74_11, x74_14, x74_15, x74_18, x74_19, x74_22, x74_23, x74_24, x74_27, x74_28, x74_29, x74_30, x74_33, x74_34, x74_37, x74_38, x74_39, x74_42, x74_43, x74_44, x74_47, x74_48, x74_49, x74_52, x74_53, x74_54, x74_57, x74_58, x74_59, x74_62, x74_63, x74_66, x74_67, x74_68, x74_69, x74_72, x74_73, x74_76, x74_79, ↓reduceIte, Bool.false_eq_true, Nat.reduceAdd, Nat.reduceLT, Nat.reduceLeDiff, Nat.reduceSub, Nat.reduceEqDiff, Int.reduceToNat, Int.reduceEq, Int.reduceLT, Int.reduceLE, Int.reduceAdd, Int.reduceSub, zg, zI, zJ, zR, zst, zkl, zn, zcat, zok, zraw, List.length_cons, List.length_nil, Option.toList, List.nil_append, List.cons_append, true_and, and_true, if_true, if_false, ne_eq, not_true, not_false_eq_true, and_self, true_or, or_true, false_or, or_false, false_and, and_false, b_2 hc, b_3 hc, b_9 hc, b_12 hc, b_26 hc, b_40 hc, b_46 hc, b_47 hc, b_60 hc, b_62 hc, b_63 hc, b_76 hc, b_77 hc, b_90 hc, b_91 hc, b_104 hc, b_107 hc, b_114 hc, b_115 hc, b_122 hc, b_123 hc, b_131 hc, b_3 hc, r_3_0 hc, x_4 hc, r_3_1 hc, x_5 hc, r_3_2 hc, x_6 hc, r_3_4 hc, x_7 hc, n_7 hc, r_3_5 hc, x_8 hc, x_4 hc i1 i2, x_6 hc i1 i2, ek, ua_eq, Int.toNat_natCast, us_ne (show (3 : Nat) ≠ 4 by decide), us_ne (show (6 : Nat) ≠ 4 by decide), ← hv7, ← hμ5, e54m]
          rw [if_pos k0']
          exact hfin
        · have k0' : ¬ ((knO2 b n m : Nat) : Int) = 0 := by omega
          have k1' : ((knO2 b n m : Nat) : Int) = 1 := by omega
          simp only [x74_0, x74_1, x74_2, x74_5, x74_6, x74_8, x74_11, x74_14, x74_15, x74_18, x74_19, x74_22, x74_23, x74_24, x74_27, x74_28, x74_29, x74_30, x74_33, x74_34, x74_37, x74_38, x74_39, x74_42, x74_43, x74_44, x74_47, x74_48, x74_49, x74_52, x74_53, x74_54, x74_57, x74_58, x74_59, x74_62, x74_63, x74_66, x74_67, x74_68, x74_69, x74_72, x74_73, x74_76, x74_79, ↓reduceIte, Bool.false_eq_true, Nat.reduceAdd, Nat.reduceLT, Nat.reduceLeDiff, Nat.reduceSub, Nat.reduceEqDiff, Int.reduceToNat, Int.reduceEq, Int.reduceLT, Int.reduceLE, Int.reduceAdd, Int.reduceSub, zg, zI, zJ, zR, zst, zkl, zn, zcat, zok, zraw, List.length_cons, List.length_nil, Option.toList, List.nil_append, List.cons_append, true_and, and_true, if_true, if_false, ne_eq, not_true, not_false_eq_true, and_self, true_or, or_true, false_or, or_false, false_and, and_false, b_2 hc, b_3 hc, b_9 hc, b_12 hc, b_26 hc, b_40 hc, b_46 hc, b_47 hc, b_60 hc, b_62 hc, b_63 hc, b_76 hc, b_77 hc, b_90 hc, b_91 hc, b_104 hc, b_107 hc, b_114 hc, b_115 hc, b_122 hc, b_123 hc, b_131 hc, b_3 hc, r_3_0 hc, x_4 hc, r_3_1 hc, x_5 hc, r_3_2 hc, x_6 hc, r_3_4 hc, x_7 hc, n_7 hc, r_3_5 hc, x_8 hc, x_4 hc i1 i2, x_6 hc i1 i2, ek, ua_eq, Int.toNat_natCast, us_ne (show (3 : Nat) ≠ 4 by decide), us_ne (show (6 : Nat) ≠ 4 by decide), ← hv7, ← hμ5, e54m]
          rw [if_neg k0', if_neg (fun hh => hh k1')]
          exact hfin
      · have k0' : ¬ ((knO2 b n m : Nat) : Int) = 0 := by omega
        have k1' : ¬ ((knO2 b n m : Nat) : Int) = 1 := by omega
        have hz4 := hz.1
        have hlt : m = zzO b n → zzO b n = 400 := fun q => by
          by_cases q4 : zzO b n < 400
          · have := hze q4; rw [← q] at this; omega
          · omega
        simp only [x74_0, x74_1, x74_2, x74_5, x74_6, x74_8, x74_11, x74_14, x74_15, x74_18, x74_19, x74_22, x74_23, x74_24, x74_27, x74_28, x74_29, x74_30, x74_33, x74_34, x74_37, x74_38, x74_39, x74_42, x74_43, x74_44, x74_47, x74_48, x74_49, x74_52, x74_53, x74_54, x74_57, x74_58, x74_59, x74_62, x74_63, x74_66, x74_67, x74_68, x74_69, x74_72, x74_73, x74_76, x74_79, ↓reduceIte, Bool.false_eq_true, Nat.reduceAdd, Nat.reduceLT, Nat.reduceLeDiff, Nat.reduceSub, Nat.reduceEqDiff, Int.reduceToNat, Int.reduceEq, Int.reduceLT, Int.reduceLE, Int.reduceAdd, Int.reduceSub, zg, zI, zJ, zR, zst, zkl, zn, zcat, zok, zraw, List.length_cons, List.length_nil, Option.toList, List.nil_append, List.cons_append, true_and, and_true, if_true, if_false, ne_eq, not_true, not_false_eq_true, and_self, true_or, or_true, false_or, or_false, false_and, and_false, b_2 hc, b_3 hc, b_9 hc, b_12 hc, b_26 hc, b_40 hc, b_46 hc, b_47 hc, b_60 hc, b_62 hc, b_63 hc, b_76 hc, b_77 hc, b_90 hc, b_91 hc, b_104 hc, b_107 hc, b_114 hc, b_115 hc, b_122 hc, b_123 hc, b_131 hc, b_3 hc, r_3_0 hc, x_4 hc, r_3_1 hc, x_5 hc, r_3_2 hc, x_6 hc, r_3_4 hc, x_7 hc, n_7 hc, r_3_5 hc, x_8 hc, x_4 hc i1 i2, x_6 hc i1 i2, ek, ua_eq, Int.toNat_natCast, us_ne (show (3 : Nat) ≠ 4 by decide), us_ne (show (6 : Nat) ≠ 4 by decide), ← hv7, ← hμ5, e54m, k0', k1', w32_s w1]
        exact hk _ _ ⟨rfl, by omega, fun q => hlt (by omega), f5, j5, g56, t5⟩
    · rintro L μ1 ⟨rfl, hmz, hmz2, hf, hj, g6, ht⟩
      have hz4 := hz.1
      have c1 : (400 : Int) < 401 := by decide
      rw [x74_7]
      simp only [x74_0, x74_1, x74_2, x74_5, x74_6, x74_8, x74_11, x74_14, x74_15, x74_18, x74_19, x74_22, x74_23, x74_24, x74_27, x74_28, x74_29, x74_30, x74_33, x74_34, x74_37, x74_38, x74_39, x74_42, x74_43, x74_44, x74_47, x74_48, x74_49, x74_52, x74_53, x74_54, x74_57, x74_58, x74_59, x74_62, x74_63, x74_66, x74_67, x74_68, x74_69, x74_72, x74_73, x74_76, x74_79, ↓reduceIte, Bool.false_eq_true, Nat.reduceAdd, Nat.reduceLT, Nat.reduceLeDiff, Nat.reduceSub, Nat.reduceEqDiff, Int.reduceToNat, Int.reduceEq, Int.reduceLT, Int.reduceLE, Int.reduceAdd, Int.reduceSub, zg, zI, zJ, zR, zst, zkl, zn, zcat, zok, zraw, List.length_cons, List.length_nil, Option.toList, List.nil_append, List.cons_append, true_and, and_true, if_true, if_false, ne_eq, not_true, not_false_eq_true, and_self, true_or, or_true, false_or, or_false, false_and, and_false, b_2 hc, b_3 hc, b_9 hc, b_12 hc, b_26 hc, b_40 hc, b_46 hc, b_47 hc, b_60 hc, b_62 hc, b_63 hc, b_76 hc, b_77 hc, b_90 hc, b_91 hc, b_104 hc, b_107 hc, b_114 hc, b_115 hc, b_122 hc, b_123 hc, b_131 hc, show ((401 : Nat) : Int) = 401 from rfl, c1]
      exact done 401 μ1 hf hj (by omega) ht
  simp only [x74_0, x74_1, x74_2, x74_5, x74_6, x74_8, x74_11, x74_14, x74_15, x74_18, x74_19, x74_22, x74_23, x74_24, x74_27, x74_28, x74_29, x74_30, x74_33, x74_34, x74_37, x74_38, x74_39, x74_42, x74_43, x74_44, x74_47, x74_48, x74_49, x74_52, x74_53, x74_54, x74_57, x74_58, x74_59, x74_62, x74_63, x74_66, x74_67, x74_68, x74_69, x74_72, x74_73, x74_76, x74_79, ↓reduceIte, Bool.false_eq_true, Nat.reduceAdd, Nat.reduceLT, Nat.reduceLeDiff, Nat.reduceSub, Nat.reduceEqDiff, Int.reduceToNat, Int.reduceEq, Int.reduceLT, Int.reduceLE, Int.reduceAdd, Int.reduceSub, zg, zI, zJ, zR, zst, zkl, zn, zcat, zok, zraw, List.length_cons, List.length_nil, Option.toList, List.nil_append, List.cons_append, true_and, and_true, if_true, if_false, ne_eq, not_true, not_false_eq_true, and_self, true_or, or_true, false_or, or_false, false_and, and_false, b_2 hc, b_3 hc, b_9 hc, b_12 hc, b_26 hc, b_40 hc, b_46 hc, b_47 hc, b_60 hc, b_62 hc, b_63 hc, b_76 hc, b_77 hc, b_90 hc, b_91 hc, b_104 hc, b_107 hc, b_114 hc, b_115 hc, b_122 hc, b_123 hc, b_131 hc, ua_eq]
  exact key 0 _ _ (by omega) ⟨rfl, by omega, fun hh => by omega, Fr.us (by simp) Fr.refl, fun j j6 j7 => by rw [us_same, zup_ne j6], by rw [us_same, zup_same rfl]; rfl, fun j hj => by omega⟩
end SD
