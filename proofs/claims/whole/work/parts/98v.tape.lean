/-! CALLS: feed, back, place -/
section TP
variable {θ : zS} {T U : Nat} {σ : zSt} {Q : Option zV → zS → zM → Prop} {μ : zM} {s : Nat}
theorem w8_b (x : Int) : -128 ≤ w8 x ∧ w8 x ≤ 127 := by unfold w8; omega
theorem w8_w8 (x : Int) : w8 (w8 x) = w8 x := w8_i (w8_b x).1 (w8_b x).2
def pbO (f : Nat → Int) (n : Nat) (w : Int) : Nat → Int := zup (zup (zup (zup f n (w8 (zshr w 24))) (n + 1) (w8 (zshr w 16))) (n + 2) (w8 (zshr w 8))) (n + 3) (w8 (zshr w 0))
theorem pb_cg {f g : Nat → Int} {n : Nat} {w : Int} (h : ∀ k, k < n → f k = g k) : ∀ k, k < n + 4 → pbO f n w k = pbO g n w k := by
  intro k hk
  unfold pbO
  by_cases e3 : k = n + 3
  · rw [zup_same e3, zup_same e3]
  · rw [zup_ne e3, zup_ne e3]
    by_cases e2 : k = n + 2
    · rw [zup_same e2, zup_same e2]
    · rw [zup_ne e2, zup_ne e2]
      by_cases e1 : k = n + 1
      · rw [zup_same e1, zup_same e1]
      · rw [zup_ne e1, zup_ne e1]
        by_cases e0 : k = n
        · rw [zup_same e0, zup_same e0]
        · rw [zup_ne e0, zup_ne e0]; exact h k (by omega)
theorem pb_b {f : Nat → Int} {n : Nat} {w : Int} (h : ∀ k, k < n → -128 ≤ f k ∧ f k ≤ 127) : ∀ k, k < n + 4 → -128 ≤ pbO f n w k ∧ pbO f n w k ≤ 127 := by
  intro k hk
  unfold pbO
  by_cases e3 : k = n + 3
  · rw [zup_same e3]; exact w8_b _
  · rw [zup_ne e3]
    by_cases e2 : k = n + 2
    · rw [zup_same e2]; exact w8_b _
    · rw [zup_ne e2]
      by_cases e1 : k = n + 1
      · rw [zup_same e1]; exact w8_b _
      · rw [zup_ne e1]
        by_cases e0 : k = n
        · rw [zup_same e0]; exact w8_b _
        · rw [zup_ne e0]; exact h k (by omega)
theorem cPut {d n : Nat} {w : Int} {x2 : zV} (hc : Tc θ) (hn : n + 4 ≤ 2000) (h3 : μ 3 3 = (n : Nat)) (hQ : ∀ μ', Fr [3, 7] μ μ' → (∀ j, j ≠ 3 → μ' 3 j = μ 3 j) → μ' 3 3 = ((n + 4 : Nat) : Int) → μ' 7 = pbO (μ 7) n w → Q none θ μ') : Ex d 73 0 [vr 3, vi w, x2] [] θ μ Q := by
  have step : ∀ (h h' : Int) (t : Nat) (μ1 : zM), 0 ≤ h → w32 (h + -8) = h' → t < 2000 → μ1 3 3 = (t : Nat) → Ex d 73 3 [vr 3, vi w, vi h'] [] θ (us (us μ1 7 (zup (μ1 7) t (w8 (zshr w h)))) 3 (zup (μ1 3) 3 ((t + 1 : Nat) : Int))) Q → Ex d 73 3 [vr 3, vi w, vi h] [] θ μ1 Q := by
    intro h h' t μ1 h0 hw ht e3 hq
    have c1 : ¬ h < 0 := by omega
    have c2 : ¬ (2000 : Int) ≤ (t : Int) := by omega
    have i1 : (0 : Int) ≤ (t : Int) := by omega
    have i2 : (t : Int) < 2000 := by omega
    have w1 : t < 2147483647 := by omega
    rw [x73_3]
    clear h0
    simp only [x73_0, x73_2, x73_4, x73_7, x73_8, x73_11, x73_14, x73_17, x73_18, x73_21, x73_22, x73_25, x73_26, x73_27, x73_28, x73_29, x73_30, x73_31, x73_32, x73_35, x73_36, x73_37, x73_40, x73_43, x73_46, ↓reduceIte, Bool.false_eq_true, Nat.reduceAdd, Nat.reduceLT, Nat.reduceLeDiff, Nat.reduceSub, Nat.reduceEqDiff, Int.reduceToNat, Int.reduceEq, Int.reduceLT, Int.reduceLE, Int.reduceAdd, Int.reduceSub, zg, zI, zJ, zR, zst, zkl, zn, zcat, zok, zraw, List.length_cons, List.length_nil, Option.toList, List.nil_append, List.cons_append, true_and, and_true, if_true, if_false, ne_eq, not_true, not_false_eq_true, and_self, true_or, or_true, false_or, or_false, false_and, and_false, b_3 hc, r_3_4 hc, c1, c2, e3, x_7 hc i1 i2, n_7 hc, w8_w8, ua_eq, Int.toNat_natCast, us_ne (show (3 : Nat) ≠ 7 by decide), w32_s w1, hw]
    exact hq
  have fin : ∀ μ1, Fr [3, 7] μ μ1 → (∀ j, j ≠ 3 → μ1 3 j = μ 3 j) → μ1 3 3 = ((n + 4 : Nat) : Int) → μ1 7 = pbO (μ 7) n w → Ex d 73 3 [vr 3, vi w, vi (-8)] [] θ μ1 Q := by
    intro μ1 f j e3 e7
    rw [x73_3]
    simp only [x73_0, x73_2, x73_4, x73_7, x73_8, x73_11, x73_14, x73_17, x73_18, x73_21, x73_22, x73_25, x73_26, x73_27, x73_28, x73_29, x73_30, x73_31, x73_32, x73_35, x73_36, x73_37, x73_40, x73_43, x73_46, ↓reduceIte, Bool.false_eq_true, Nat.reduceAdd, Nat.reduceLT, Nat.reduceLeDiff, Nat.reduceSub, Nat.reduceEqDiff, Int.reduceToNat, Int.reduceEq, Int.reduceLT, Int.reduceLE, Int.reduceAdd, Int.reduceSub, zg, zI, zJ, zR, zst, zkl, zn, zcat, zok, zraw, List.length_cons, List.length_nil, Option.toList, List.nil_append, List.cons_append, true_and, and_true, if_true, if_false, ne_eq, not_true, not_false_eq_true, and_self, true_or, or_true, false_or, or_false, false_and, and_false, show (-8 : Int) < 0 by decide]
    exact hQ μ1 f j e3 e7
  simp only [x73_0, x73_2, x73_4, x73_7, x73_8, x73_11, x73_14, x73_17, x73_18, x73_21, x73_22, x73_25, x73_26, x73_27, x73_28, x73_29, x73_30, x73_31, x73_32, x73_35, x73_36, x73_37, x73_40, x73_43, x73_46, ↓reduceIte, Bool.false_eq_true, Nat.reduceAdd, Nat.reduceLT, Nat.reduceLeDiff, Nat.reduceSub, Nat.reduceEqDiff, Int.reduceToNat, Int.reduceEq, Int.reduceLT, Int.reduceLE, Int.reduceAdd, Int.reduceSub, zg, zI, zJ, zR, zst, zkl, zn, zcat, zok, zraw, List.length_cons, List.length_nil, Option.toList, List.nil_append, List.cons_append, true_and, and_true, if_true, if_false, ne_eq, not_true, not_false_eq_true, and_self, true_or, or_true, false_or, or_false, false_and, and_false]
  refine step 24 16 n μ (by decide) (by decide) (by omega) h3 ?_
  refine step 16 8 (n + 1) _ (by decide) (by decide) (by omega) (by rw [us_same, zup_same rfl]) ?_
  refine step 8 0 (n + 2) _ (by decide) (by decide) (by omega) (by rw [us_same, zup_same rfl]) ?_
  refine step 0 (-8) (n + 3) _ (by decide) (by decide) (by omega) (by rw [us_same, zup_same rfl]) ?_
  refine fin _ ?_ (fun j hj => ?_) ?_ ?_
  · exact Fr.us (by simp) (Fr.us (by simp) (Fr.us (by simp) (Fr.us (by simp) (Fr.us (by simp) (Fr.us (by simp) (Fr.us (by simp) (Fr.us (by simp) Fr.refl)))))))
  · rw [us_same, zup_ne hj, us_same, zup_ne hj, us_same, zup_ne hj, us_same, zup_ne hj]
  · rw [us_same, zup_same rfl]
  · rw [us_ne (by decide), us_same, us_ne (by decide), us_same, us_ne (by decide), us_same, us_ne (by decide), us_same]; rfl
theorem mPut {d n : Nat} {w : Int} {x2 : zV} (hm : Tm θ) (hn : n + 4 ≤ 2000) (h2 : μ 138 2 = (n : Nat)) (hQ : ∀ μ', Fr [138, 139] μ μ' → (∀ j, j ≠ 2 → μ' 138 j = μ 138 j) → μ' 138 2 = ((n + 4 : Nat) : Int) → μ' 139 = pbO (μ 139) n w → Q none θ μ') : Ex d 165 0 [vr 138, vi w, x2] [] θ μ Q := by
  have step : ∀ (h h' : Int) (t : Nat) (μ1 : zM), 0 ≤ h → w32 (h + -8) = h' → t < 2000 → μ1 138 2 = (t : Nat) → Ex d 165 3 [vr 138, vi w, vi h'] [] θ (us (us μ1 139 (zup (μ1 139) t (w8 (zshr w h)))) 138 (zup (μ1 138) 2 ((t + 1 : Nat) : Int))) Q → Ex d 165 3 [vr 138, vi w, vi h] [] θ μ1 Q := by
    intro h h' t μ1 h0 hw ht e3 hq
    have c1 : ¬ h < 0 := by omega
    have i1 : (0 : Int) ≤ (t : Int) := by omega
    have i2 : (t : Int) < 2000 := by omega
    have w1 : t < 2147483647 := by omega
    rw [x165_3]
    clear h0
    simp only [x165_0, x165_2, x165_4, x165_7, x165_8, x165_11, x165_12, x165_15, x165_16, x165_17, x165_18, x165_19, x165_20, x165_21, x165_22, x165_25, x165_26, x165_27, x165_30, x165_33, x165_36, ↓reduceIte, Bool.false_eq_true, Nat.reduceAdd, Nat.reduceLT, Nat.reduceLeDiff, Nat.reduceSub, Nat.reduceEqDiff, Int.reduceToNat, Int.reduceEq, Int.reduceLT, Int.reduceLE, Int.reduceAdd, Int.reduceSub, zg, zI, zJ, zR, zst, zkl, zn, zcat, zok, zraw, List.length_cons, List.length_nil, Option.toList, List.nil_append, List.cons_append, true_and, and_true, if_true, if_false, ne_eq, not_true, not_false_eq_true, and_self, true_or, or_true, false_or, or_false, false_and, and_false, b_138 hm, r_138_1 hm, c1, e3, x_139 hm i1 i2, n_139 hm, w8_w8, ua_eq, Int.toNat_natCast, us_ne (show (138 : Nat) ≠ 139 by decide), w32_s w1, hw]
    exact hq
  have fin : ∀ μ1, Fr [138, 139] μ μ1 → (∀ j, j ≠ 2 → μ1 138 j = μ 138 j) → μ1 138 2 = ((n + 4 : Nat) : Int) → μ1 139 = pbO (μ 139) n w → Ex d 165 3 [vr 138, vi w, vi (-8)] [] θ μ1 Q := by
    intro μ1 f j e3 e7
    rw [x165_3]
    simp only [x165_0, x165_2, x165_4, x165_7, x165_8, x165_11, x165_12, x165_15, x165_16, x165_17, x165_18, x165_19, x165_20, x165_21, x165_22, x165_25, x165_26, x165_27, x165_30, x165_33, x165_36, ↓reduceIte, Bool.false_eq_true, Nat.reduceAdd, Nat.reduceLT, Nat.reduceLeDiff, Nat.reduceSub, Nat.reduceEqDiff, Int.reduceToNat, Int.reduceEq, Int.reduceLT, Int.reduceLE, Int.reduceAdd, Int.reduceSub, zg, zI, zJ, zR, zst, zkl, zn, zcat, zok, zraw, List.length_cons, List.length_nil, Option.toList, List.nil_append, List.cons_append, true_and, and_true, if_true, if_false, ne_eq, not_true, not_false_eq_true, and_self, true_or, or_true, false_or, or_false, false_and, and_false, show (-8 : Int) < 0 by decide]
    exact hQ μ1 f j e3 e7
  simp only [x165_0, x165_2, x165_4, x165_7, x165_8, x165_11, x165_12, x165_15, x165_16, x165_17, x165_18, x165_19, x165_20, x165_21, x165_22, x165_25, x165_26, x165_27, x165_30, x165_33, x165_36, ↓reduceIte, Bool.false_eq_true, Nat.reduceAdd, Nat.reduceLT, Nat.reduceLeDiff, Nat.reduceSub, Nat.reduceEqDiff, Int.reduceToNat, Int.reduceEq, Int.reduceLT, Int.reduceLE, Int.reduceAdd, Int.reduceSub, zg, zI, zJ, zR, zst, zkl, zn, zcat, zok, zraw, List.length_cons, List.length_nil, Option.toList, List.nil_append, List.cons_append, true_and, and_true, if_true, if_false, ne_eq, not_true, not_false_eq_true, and_self, true_or, or_true, false_or, or_false, false_and, and_false]
  refine step 24 16 n μ (by decide) (by decide) (by omega) h2 ?_
  refine step 16 8 (n + 1) _ (by decide) (by decide) (by omega) (by rw [us_same, zup_same rfl]) ?_
  refine step 8 0 (n + 2) _ (by decide) (by decide) (by omega) (by rw [us_same, zup_same rfl]) ?_
  refine step 0 (-8) (n + 3) _ (by decide) (by decide) (by omega) (by rw [us_same, zup_same rfl]) ?_
  refine fin _ ?_ (fun j hj => ?_) ?_ ?_
  · exact Fr.us (by simp) (Fr.us (by simp) (Fr.us (by simp) (Fr.us (by simp) (Fr.us (by simp) (Fr.us (by simp) (Fr.us (by simp) (Fr.us (by simp) Fr.refl)))))))
  · rw [us_same, zup_ne hj, us_same, zup_ne hj, us_same, zup_ne hj, us_same, zup_ne hj]
  · rw [us_same, zup_same rfl]
  · rw [us_ne (by decide), us_same, us_ne (by decide), us_same, us_ne (by decide), us_same, us_ne (by decide), us_same]; rfl
/-- feed -/
def fdO (f : Nat → Int) (n : Nat) (a b c d e : Int) : Nat → Int := pbO (pbO (pbO (pbO (pbO f n a) (n + 4) b) (n + 8) c) (n + 12) d) (n + 16) e
theorem fd_cg {f g : Nat → Int} {n : Nat} {a b c d e : Int} (h : ∀ k, k < n → f k = g k) : ∀ k, k < n + 20 → fdO f n a b c d e k = fdO g n a b c d e k :=
  pb_cg (pb_cg (pb_cg (pb_cg (pb_cg h))))
theorem fd_b {f : Nat → Int} {n : Nat} {a b c d e : Int} (h : ∀ k, k < n → -128 ≤ f k ∧ f k ≤ 127) : ∀ k, k < n + 20 → -128 ≤ fdO f n a b c d e k ∧ fdO f n a b c d e k ≤ 127 :=
  pb_b (pb_b (pb_b (pb_b (pb_b h))))
def sFeed (σ : zSt) (a b c d e : Int) : zSt := if sN σ + 20 ≤ 2000 then tpS σ (sN σ + 20) (fdO (sB σ) (sN σ) a b c d e) else σ
def vFeed (σ : zSt) : Int := if sN σ + 20 ≤ 2000 then ((sN σ + 20 : Nat) : Int) else -1
theorem kFeed {D : Nat} {a b c d e : Int} (h : CS θ T U σ μ) (hd : 7 ≤ D) (hQ : ∀ μ', CL μ μ' → CS θ T U (sFeed σ a b c d e) μ' → Q (some (vi (vFeed σ))) θ μ') : Ex D 102 0 [vr 2, vi a, vi b, vi c, vi d, vi e] [] θ μ Q := by
  have hc := h.1.1.1
  have hd0 : 0 < D := by omega
  obtain ⟨hn20, hbb⟩ := h.2.1.2.2.2.2.1
  obtain ⟨h3, h7⟩ := h.2.2.2.2.2.2.2.1
  unfold sFeed vFeed at hQ
  generalize hn : sN σ = n at *
  have w1 : n + 20 < 2147483648 := by omega
  have ew : w32 ((n : Int) + 20) = ((n + 20 : Nat) : Int) := by rw [w32_i (by omega) (by omega)]; omega
  by_cases hc20 : n + 20 ≤ 2000
  · rw [if_pos hc20, if_pos hc20] at hQ
    have c1 : ((n + 20 : Nat) : Int) ≤ 2000 := by omega
    simp only [x102_0, x102_1, x102_4, x102_7, x102_9, x102_10, x102_13, x102_16, x102_17, x102_18, x102_19, x102_22, x102_23, x102_26, x102_27, x102_30, x102_31, x102_34, x102_35, x102_38, x102_39, x102_42, x102_43, x102_46, x102_48, x102_51, x102_52, x102_55, x102_57, x102_60, x102_61, x102_64, x102_67, ↓reduceIte, Bool.false_eq_true, Nat.reduceAdd, Nat.reduceLT, Nat.reduceLeDiff, Nat.reduceSub, Nat.reduceEqDiff, Int.reduceToNat, Int.reduceEq, Int.reduceLT, Int.reduceLE, Int.reduceAdd, Int.reduceSub, zg, zI, zJ, zR, zst, zkl, zn, zcat, zok, zraw, List.length_cons, List.length_nil, Option.toList, List.nil_append, List.cons_append, true_and, and_true, if_true, if_false, ne_eq, not_true, not_false_eq_true, and_self, true_or, or_true, false_or, or_false, false_and, and_false, b_2 hc, b_3 hc, r_2_0 hc, h3, ew, c1, hd0]
    clear ew
    refine cPut (n := n) (d := D - 1) hc (by omega) h3 (fun μ1 f1 j1 e1 p1 => ?_)
    simp only [x102_0, x102_1, x102_4, x102_7, x102_9, x102_10, x102_13, x102_16, x102_17, x102_18, x102_19, x102_22, x102_23, x102_26, x102_27, x102_30, x102_31, x102_34, x102_35, x102_38, x102_39, x102_42, x102_43, x102_46, x102_48, x102_51, x102_52, x102_55, x102_57, x102_60, x102_61, x102_64, x102_67, ↓reduceIte, Bool.false_eq_true, Nat.reduceAdd, Nat.reduceLT, Nat.reduceLeDiff, Nat.reduceSub, Nat.reduceEqDiff, Int.reduceToNat, Int.reduceEq, Int.reduceLT, Int.reduceLE, Int.reduceAdd, Int.reduceSub, zg, zI, zJ, zR, zst, zkl, zn, zcat, zok, zraw, List.length_cons, List.length_nil, Option.toList, List.nil_append, List.cons_append, true_and, and_true, if_true, if_false, ne_eq, not_true, not_false_eq_true, and_self, true_or, or_true, false_or, or_false, false_and, and_false, b_2 hc, b_3 hc, r_2_0 hc, hd0]
    refine cPut (n := n + 4) (d := D - 1) hc (by omega) e1 (fun μ2 f2 j2 e2 p2 => ?_)
    simp only [x102_0, x102_1, x102_4, x102_7, x102_9, x102_10, x102_13, x102_16, x102_17, x102_18, x102_19, x102_22, x102_23, x102_26, x102_27, x102_30, x102_31, x102_34, x102_35, x102_38, x102_39, x102_42, x102_43, x102_46, x102_48, x102_51, x102_52, x102_55, x102_57, x102_60, x102_61, x102_64, x102_67, ↓reduceIte, Bool.false_eq_true, Nat.reduceAdd, Nat.reduceLT, Nat.reduceLeDiff, Nat.reduceSub, Nat.reduceEqDiff, Int.reduceToNat, Int.reduceEq, Int.reduceLT, Int.reduceLE, Int.reduceAdd, Int.reduceSub, zg, zI, zJ, zR, zst, zkl, zn, zcat, zok, zraw, List.length_cons, List.length_nil, Option.toList, List.nil_append, List.cons_append, true_and, and_true, if_true, if_false, ne_eq, not_true, not_false_eq_true, and_self, true_or, or_true, false_or, or_false, false_and, and_false, b_2 hc, b_3 hc, r_2_0 hc, hd0]
    refine cPut (n := n + 8) (d := D - 1) hc (by omega) e2 (fun μ3 f3 j3 e3 p3 => ?_)
    simp only [x102_0, x102_1, x102_4, x102_7, x102_9, x102_10, x102_13, x102_16, x102_17, x102_18, x102_19, x102_22, x102_23, x102_26, x102_27, x102_30, x102_31, x102_34, x102_35, x102_38, x102_39, x102_42, x102_43, x102_46, x102_48, x102_51, x102_52, x102_55, x102_57, x102_60, x102_61, x102_64, x102_67, ↓reduceIte, Bool.false_eq_true, Nat.reduceAdd, Nat.reduceLT, Nat.reduceLeDiff, Nat.reduceSub, Nat.reduceEqDiff, Int.reduceToNat, Int.reduceEq, Int.reduceLT, Int.reduceLE, Int.reduceAdd, Int.reduceSub, zg, zI, zJ, zR, zst, zkl, zn, zcat, zok, zraw, List.length_cons, List.length_nil, Option.toList, List.nil_append, List.cons_append, true_and, and_true, if_true, if_false, ne_eq, not_true, not_false_eq_true, and_self, true_or, or_true, false_or, or_false, false_and, and_false, b_2 hc, b_3 hc, r_2_0 hc, hd0]
    refine cPut (n := n + 12) (d := D - 1) hc (by omega) e3 (fun μ4 f4 j4 e4 p4 => ?_)
    simp only [x102_0, x102_1, x102_4, x102_7, x102_9, x102_10, x102_13, x102_16, x102_17, x102_18, x102_19, x102_22, x102_23, x102_26, x102_27, x102_30, x102_31, x102_34, x102_35, x102_38, x102_39, x102_42, x102_43, x102_46, x102_48, x102_51, x102_52, x102_55, x102_57, x102_60, x102_61, x102_64, x102_67, ↓reduceIte, Bool.false_eq_true, Nat.reduceAdd, Nat.reduceLT, Nat.reduceLeDiff, Nat.reduceSub, Nat.reduceEqDiff, Int.reduceToNat, Int.reduceEq, Int.reduceLT, Int.reduceLE, Int.reduceAdd, Int.reduceSub, zg, zI, zJ, zR, zst, zkl, zn, zcat, zok, zraw, List.length_cons, List.length_nil, Option.toList, List.nil_append, List.cons_append, true_and, and_true, if_true, if_false, ne_eq, not_true, not_false_eq_true, and_self, true_or, or_true, false_or, or_false, false_and, and_false, b_2 hc, b_3 hc, r_2_0 hc, hd0]
    refine cPut (n := n + 16) (d := D - 1) hc (by omega) e4 (fun μ5 f5 j5 e5 p5 => ?_)
    have e5' : μ5 3 3 = ((n + 20 : Nat) : Int) := e5
    simp only [x102_0, x102_1, x102_4, x102_7, x102_9, x102_10, x102_13, x102_16, x102_17, x102_18, x102_19, x102_22, x102_23, x102_26, x102_27, x102_30, x102_31, x102_34, x102_35, x102_38, x102_39, x102_42, x102_43, x102_46, x102_48, x102_51, x102_52, x102_55, x102_57, x102_60, x102_61, x102_64, x102_67, ↓reduceIte, Bool.false_eq_true, Nat.reduceAdd, Nat.reduceLT, Nat.reduceLeDiff, Nat.reduceSub, Nat.reduceEqDiff, Int.reduceToNat, Int.reduceEq, Int.reduceLT, Int.reduceLE, Int.reduceAdd, Int.reduceSub, zg, zI, zJ, zR, zst, zkl, zn, zcat, zok, zraw, List.length_cons, List.length_nil, Option.toList, List.nil_append, List.cons_append, true_and, and_true, if_true, if_false, ne_eq, not_true, not_false_eq_true, and_self, true_or, or_true, false_or, or_false, false_and, and_false, b_2 hc, b_3 hc, r_2_0 hc, e5']
    have F := (((f1.trans f2).trans f3).trans f4).trans f5
    refine hQ μ5 (CL_fr F (by decide)) (CS_tape h F ⟨hc20, fd_b hbb⟩ e5' (fun k hk => ?_))
    rw [p5, p4, p3, p2, p1]
    exact fd_cg h7 k hk
  · rw [if_neg hc20, if_neg hc20] at hQ
    have c1 : ¬ ((n + 20 : Nat) : Int) ≤ 2000 := by omega
    simp only [x102_0, x102_1, x102_4, x102_7, x102_9, x102_10, x102_13, x102_16, x102_17, x102_18, x102_19, x102_22, x102_23, x102_26, x102_27, x102_30, x102_31, x102_34, x102_35, x102_38, x102_39, x102_42, x102_43, x102_46, x102_48, x102_51, x102_52, x102_55, x102_57, x102_60, x102_61, x102_64, x102_67, ↓reduceIte, Bool.false_eq_true, Nat.reduceAdd, Nat.reduceLT, Nat.reduceLeDiff, Nat.reduceSub, Nat.reduceEqDiff, Int.reduceToNat, Int.reduceEq, Int.reduceLT, Int.reduceLE, Int.reduceAdd, Int.reduceSub, zg, zI, zJ, zR, zst, zkl, zn, zcat, zok, zraw, List.length_cons, List.length_nil, Option.toList, List.nil_append, List.cons_append, true_and, and_true, if_true, if_false, ne_eq, not_true, not_false_eq_true, and_self, true_or, or_true, false_or, or_false, false_and, and_false, b_2 hc, b_3 hc, r_2_0 hc, h3, ew, c1]
    exact hQ μ (fun _ _ => rfl) h
theorem rFeed {D : Nat} {a b c d e : Int} (h : MS θ σ s μ) (hd : 11 ≤ D) (hQ : ∀ μ', ML2 μ μ' → MS θ (sFeed σ a b c d e) s μ' → Q (some (vi (vFeed σ))) θ μ') : Ex D 164 0 [vr 138, vi a, vi b, vi c, vi d, vi e] [] θ μ Q := by
  have hm := h.1.1
  have hd0 : 0 < D := by omega
  obtain ⟨hn20, hbb⟩ := h.2.1.2.2.2.2.1
  obtain ⟨h3, h7⟩ := h.2.2.2.2.2.1
  unfold sFeed vFeed at hQ
  generalize hn : sN σ = n at *
  have ew : w32 ((n : Int) + 20) = ((n + 20 : Nat) : Int) := by rw [w32_i (by omega) (by omega)]; omega
  by_cases hc20 : n + 20 ≤ 2000
  · rw [if_pos hc20, if_pos hc20] at hQ
    have c1 : ((n + 20 : Nat) : Int) ≤ 2000 := by omega
    simp only [x164_0, x164_1, x164_4, x164_6, x164_7, x164_10, x164_13, x164_14, x164_15, x164_16, x164_17, x164_20, x164_21, x164_22, x164_25, x164_26, x164_27, x164_30, x164_31, x164_33, x164_36, x164_37, x164_39, x164_42, x164_43, x164_46, ↓reduceIte, Bool.false_eq_true, Nat.reduceAdd, Nat.reduceLT, Nat.reduceLeDiff, Nat.reduceSub, Nat.reduceEqDiff, Int.reduceToNat, Int.reduceEq, Int.reduceLT, Int.reduceLE, Int.reduceAdd, Int.reduceSub, zg, zI, zJ, zR, zst, zkl, zn, zcat, zok, zraw, List.length_cons, List.length_nil, Option.toList, List.nil_append, List.cons_append, true_and, and_true, if_true, if_false, ne_eq, not_true, not_false_eq_true, and_self, true_or, or_true, false_or, or_false, false_and, and_false, b_138 hm, h3, ew, c1, hd0]
    clear ew
    refine mPut (n := n) (d := D - 1) hm (by omega) h3 (fun μ1 f1 j1 e1 p1 => ?_)
    simp only [x164_0, x164_1, x164_4, x164_6, x164_7, x164_10, x164_13, x164_14, x164_15, x164_16, x164_17, x164_20, x164_21, x164_22, x164_25, x164_26, x164_27, x164_30, x164_31, x164_33, x164_36, x164_37, x164_39, x164_42, x164_43, x164_46, ↓reduceIte, Bool.false_eq_true, Nat.reduceAdd, Nat.reduceLT, Nat.reduceLeDiff, Nat.reduceSub, Nat.reduceEqDiff, Int.reduceToNat, Int.reduceEq, Int.reduceLT, Int.reduceLE, Int.reduceAdd, Int.reduceSub, zg, zI, zJ, zR, zst, zkl, zn, zcat, zok, zraw, List.length_cons, List.length_nil, Option.toList, List.nil_append, List.cons_append, true_and, and_true, if_true, if_false, ne_eq, not_true, not_false_eq_true, and_self, true_or, or_true, false_or, or_false, false_and, and_false, b_138 hm, hd0]
    refine mPut (n := n + 4) (d := D - 1) hm (by omega) e1 (fun μ2 f2 j2 e2 p2 => ?_)
    simp only [x164_0, x164_1, x164_4, x164_6, x164_7, x164_10, x164_13, x164_14, x164_15, x164_16, x164_17, x164_20, x164_21, x164_22, x164_25, x164_26, x164_27, x164_30, x164_31, x164_33, x164_36, x164_37, x164_39, x164_42, x164_43, x164_46, ↓reduceIte, Bool.false_eq_true, Nat.reduceAdd, Nat.reduceLT, Nat.reduceLeDiff, Nat.reduceSub, Nat.reduceEqDiff, Int.reduceToNat, Int.reduceEq, Int.reduceLT, Int.reduceLE, Int.reduceAdd, Int.reduceSub, zg, zI, zJ, zR, zst, zkl, zn, zcat, zok, zraw, List.length_cons, List.length_nil, Option.toList, List.nil_append, List.cons_append, true_and, and_true, if_true, if_false, ne_eq, not_true, not_false_eq_true, and_self, true_or, or_true, false_or, or_false, false_and, and_false, b_138 hm, hd0]
    refine mPut (n := n + 8) (d := D - 1) hm (by omega) e2 (fun μ3 f3 j3 e3 p3 => ?_)
    simp only [x164_0, x164_1, x164_4, x164_6, x164_7, x164_10, x164_13, x164_14, x164_15, x164_16, x164_17, x164_20, x164_21, x164_22, x164_25, x164_26, x164_27, x164_30, x164_31, x164_33, x164_36, x164_37, x164_39, x164_42, x164_43, x164_46, ↓reduceIte, Bool.false_eq_true, Nat.reduceAdd, Nat.reduceLT, Nat.reduceLeDiff, Nat.reduceSub, Nat.reduceEqDiff, Int.reduceToNat, Int.reduceEq, Int.reduceLT, Int.reduceLE, Int.reduceAdd, Int.reduceSub, zg, zI, zJ, zR, zst, zkl, zn, zcat, zok, zraw, List.length_cons, List.length_nil, Option.toList, List.nil_append, List.cons_append, true_and, and_true, if_true, if_false, ne_eq, not_true, not_false_eq_true, and_self, true_or, or_true, false_or, or_false, false_and, and_false, b_138 hm, hd0]
    refine mPut (n := n + 12) (d := D - 1) hm (by omega) e3 (fun μ4 f4 j4 e4 p4 => ?_)
    simp only [x164_0, x164_1, x164_4, x164_6, x164_7, x164_10, x164_13, x164_14, x164_15, x164_16, x164_17, x164_20, x164_21, x164_22, x164_25, x164_26, x164_27, x164_30, x164_31, x164_33, x164_36, x164_37, x164_39, x164_42, x164_43, x164_46, ↓reduceIte, Bool.false_eq_true, Nat.reduceAdd, Nat.reduceLT, Nat.reduceLeDiff, Nat.reduceSub, Nat.reduceEqDiff, Int.reduceToNat, Int.reduceEq, Int.reduceLT, Int.reduceLE, Int.reduceAdd, Int.reduceSub, zg, zI, zJ, zR, zst, zkl, zn, zcat, zok, zraw, List.length_cons, List.length_nil, Option.toList, List.nil_append, List.cons_append, true_and, and_true, if_true, if_false, ne_eq, not_true, not_false_eq_true, and_self, true_or, or_true, false_or, or_false, false_and, and_false, b_138 hm, hd0]
    refine mPut (n := n + 16) (d := D - 1) hm (by omega) e4 (fun μ5 f5 j5 e5 p5 => ?_)
    have e5' : μ5 138 2 = ((n + 20 : Nat) : Int) := e5
    simp only [x164_0, x164_1, x164_4, x164_6, x164_7, x164_10, x164_13, x164_14, x164_15, x164_16, x164_17, x164_20, x164_21, x164_22, x164_25, x164_26, x164_27, x164_30, x164_31, x164_33, x164_36, x164_37, x164_39, x164_42, x164_43, x164_46, ↓reduceIte, Bool.false_eq_true, Nat.reduceAdd, Nat.reduceLT, Nat.reduceLeDiff, Nat.reduceSub, Nat.reduceEqDiff, Int.reduceToNat, Int.reduceEq, Int.reduceLT, Int.reduceLE, Int.reduceAdd, Int.reduceSub, zg, zI, zJ, zR, zst, zkl, zn, zcat, zok, zraw, List.length_cons, List.length_nil, Option.toList, List.nil_append, List.cons_append, true_and, and_true, if_true, if_false, ne_eq, not_true, not_false_eq_true, and_self, true_or, or_true, false_or, or_false, false_and, and_false, b_138 hm, e5']
    have F := (((f1.trans f2).trans f3).trans f4).trans f5
    refine hQ μ5 (MLe_fr F (by decide)) (MS_tape h F (fun j hj => by rw [j5 j hj, j4 j hj, j3 j hj, j2 j hj, j1 j hj]) ⟨hc20, fd_b hbb⟩ e5' (fun k hk => ?_))
    rw [p5, p4, p3, p2, p1]
    exact fd_cg h7 k hk
  · rw [if_neg hc20, if_neg hc20] at hQ
    have c1 : ¬ ((n + 20 : Nat) : Int) ≤ 2000 := by omega
    simp only [x164_0, x164_1, x164_4, x164_6, x164_7, x164_10, x164_13, x164_14, x164_15, x164_16, x164_17, x164_20, x164_21, x164_22, x164_25, x164_26, x164_27, x164_30, x164_31, x164_33, x164_36, x164_37, x164_39, x164_42, x164_43, x164_46, ↓reduceIte, Bool.false_eq_true, Nat.reduceAdd, Nat.reduceLT, Nat.reduceLeDiff, Nat.reduceSub, Nat.reduceEqDiff, Int.reduceToNat, Int.reduceEq, Int.reduceLT, Int.reduceLE, Int.reduceAdd, Int.reduceSub, zg, zI, zJ, zR, zst, zkl, zn, zcat, zok, zraw, List.length_cons, List.length_nil, Option.toList, List.nil_append, List.cons_append, true_and, and_true, if_true, if_false, ne_eq, not_true, not_false_eq_true, and_self, true_or, or_true, false_or, or_false, false_and, and_false, b_138 hm, h3, ew, c1]
    exact hQ μ (fun _ _ => rfl) h
/-- back -/
def sBack (σ : zSt) (x : Int) : zSt := if 0 ≤ x ∧ x ≤ (sN σ : Int) then tpS σ (sN σ - x.toNat) (sB σ) else σ
def vBack (σ : zSt) (x : Int) : Int := if 0 ≤ x ∧ x ≤ (sN σ : Int) then ((sN σ - x.toNat : Nat) : Int) else -1
theorem kBack {D : Nat} {x : Int} (h : CS θ T U σ μ) (hd : 7 ≤ D) (hQ : ∀ μ', CL μ μ' → CS θ T U (sBack σ x) μ' → Q (some (vi (vBack σ x))) θ μ') : Ex D 103 0 [vr 2, vi x] [] θ μ Q := by
  have hc := h.1.1.1
  obtain ⟨hn20, hbb⟩ := h.2.1.2.2.2.2.1
  obtain ⟨h3, h7⟩ := h.2.2.2.2.2.2.2.1
  unfold sBack vBack at hQ
  generalize hn : sN σ = n at *
  by_cases c0 : x < 0
  · rw [if_neg (by omega), if_neg (by omega)] at hQ
    simp only [x103_0, x103_1, x103_4, x103_5, x103_6, x103_9, x103_12, x103_15, x103_16, x103_17, x103_18, x103_21, x103_22, x103_25, x103_26, x103_27, x103_30, x103_31, x103_34, x103_37, ↓reduceIte, Bool.false_eq_true, Nat.reduceAdd, Nat.reduceLT, Nat.reduceLeDiff, Nat.reduceSub, Nat.reduceEqDiff, Int.reduceToNat, Int.reduceEq, Int.reduceLT, Int.reduceLE, Int.reduceAdd, Int.reduceSub, zg, zI, zJ, zR, zst, zkl, zn, zcat, zok, zraw, List.length_cons, List.length_nil, Option.toList, List.nil_append, List.cons_append, true_and, and_true, if_true, if_false, ne_eq, not_true, not_false_eq_true, and_self, true_or, or_true, false_or, or_false, false_and, and_false, b_2 hc, b_3 hc, r_2_0 hc, c0]
    exact hQ μ (fun _ _ => rfl) h
  · by_cases c1 : x ≤ (n : Int)
    · rw [if_pos ⟨by omega, c1⟩, if_pos ⟨by omega, c1⟩] at hQ
      obtain ⟨k, hk⟩ : ∃ k, k = n - x.toNat := ⟨_, rfl⟩
      rw [← hk] at hQ
      have ew : w32 ((n : Int) - x) = (k : Int) := by rw [w32_i (by omega) (by omega)]; omega
      simp only [x103_0, x103_1, x103_4, x103_5, x103_6, x103_9, x103_12, x103_15, x103_16, x103_17, x103_18, x103_21, x103_22, x103_25, x103_26, x103_27, x103_30, x103_31, x103_34, x103_37, ↓reduceIte, Bool.false_eq_true, Nat.reduceAdd, Nat.reduceLT, Nat.reduceLeDiff, Nat.reduceSub, Nat.reduceEqDiff, Int.reduceToNat, Int.reduceEq, Int.reduceLT, Int.reduceLE, Int.reduceAdd, Int.reduceSub, zg, zI, zJ, zR, zst, zkl, zn, zcat, zok, zraw, List.length_cons, List.length_nil, Option.toList, List.nil_append, List.cons_append, true_and, and_true, if_true, if_false, ne_eq, not_true, not_false_eq_true, and_self, true_or, or_true, false_or, or_false, false_and, and_false, b_2 hc, b_3 hc, r_2_0 hc, c0, c1, h3, ew, ua_eq, us_same, zup_same]
      have F : Fr [3, 7] μ (us μ 3 (zup (μ 3) 3 (k : Int))) := Fr.us (by simp) Fr.refl
      clear ew
      exact hQ _ (CL_fr F (by decide)) (CS_tape h F ⟨by omega, fun q hq => hbb q (by omega)⟩ (by rw [us_same, zup_same rfl]) (fun q hq => by rw [us_ne (by decide)]; exact h7 q (by omega)))
    · rw [if_neg (by omega), if_neg (by omega)] at hQ
      simp only [x103_0, x103_1, x103_4, x103_5, x103_6, x103_9, x103_12, x103_15, x103_16, x103_17, x103_18, x103_21, x103_22, x103_25, x103_26, x103_27, x103_30, x103_31, x103_34, x103_37, ↓reduceIte, Bool.false_eq_true, Nat.reduceAdd, Nat.reduceLT, Nat.reduceLeDiff, Nat.reduceSub, Nat.reduceEqDiff, Int.reduceToNat, Int.reduceEq, Int.reduceLT, Int.reduceLE, Int.reduceAdd, Int.reduceSub, zg, zI, zJ, zR, zst, zkl, zn, zcat, zok, zraw, List.length_cons, List.length_nil, Option.toList, List.nil_append, List.cons_append, true_and, and_true, if_true, if_false, ne_eq, not_true, not_false_eq_true, and_self, true_or, or_true, false_or, or_false, false_and, and_false, b_2 hc, b_3 hc, r_2_0 hc, c0, c1, h3]
      exact hQ μ (fun _ _ => rfl) h
theorem rBack {D : Nat} {x : Int} (h : MS θ σ s μ) (hd : 11 ≤ D) (hQ : ∀ μ', ML2 μ μ' → MS θ (sBack σ x) s μ' → Q (some (vi (vBack σ x))) θ μ') : Ex D 166 0 [vr 138, vi x] [] θ μ Q := by
  have hm := h.1.1
  obtain ⟨hn20, hbb⟩ := h.2.1.2.2.2.2.1
  obtain ⟨h3, h7⟩ := h.2.2.2.2.2.1
  unfold sBack vBack at hQ
  generalize hn : sN σ = n at *
  by_cases c0 : x < 0
  · rw [if_neg (by omega), if_neg (by omega)] at hQ
    simp only [x166_0, x166_1, x166_4, x166_5, x166_6, x166_9, x166_12, x166_13, x166_14, x166_15, x166_16, x166_19, x166_20, x166_21, x166_24, x166_25, x166_28, ↓reduceIte, Bool.false_eq_true, Nat.reduceAdd, Nat.reduceLT, Nat.reduceLeDiff, Nat.reduceSub, Nat.reduceEqDiff, Int.reduceToNat, Int.reduceEq, Int.reduceLT, Int.reduceLE, Int.reduceAdd, Int.reduceSub, zg, zI, zJ, zR, zst, zkl, zn, zcat, zok, zraw, List.length_cons, List.length_nil, Option.toList, List.nil_append, List.cons_append, true_and, and_true, if_true, if_false, ne_eq, not_true, not_false_eq_true, and_self, true_or, or_true, false_or, or_false, false_and, and_false, b_138 hm, c0]
    exact hQ μ (fun _ _ => rfl) h
  · by_cases c1 : x ≤ (n : Int)
    · rw [if_pos ⟨by omega, c1⟩, if_pos ⟨by omega, c1⟩] at hQ
      obtain ⟨k, hk⟩ : ∃ k, k = n - x.toNat := ⟨_, rfl⟩
      rw [← hk] at hQ
      have ew : w32 ((n : Int) - x) = (k : Int) := by rw [w32_i (by omega) (by omega)]; omega
      simp only [x166_0, x166_1, x166_4, x166_5, x166_6, x166_9, x166_12, x166_13, x166_14, x166_15, x166_16, x166_19, x166_20, x166_21, x166_24, x166_25, x166_28, ↓reduceIte, Bool.false_eq_true, Nat.reduceAdd, Nat.reduceLT, Nat.reduceLeDiff, Nat.reduceSub, Nat.reduceEqDiff, Int.reduceToNat, Int.reduceEq, Int.reduceLT, Int.reduceLE, Int.reduceAdd, Int.reduceSub, zg, zI, zJ, zR, zst, zkl, zn, zcat, zok, zraw, List.length_cons, List.length_nil, Option.toList, List.nil_append, List.cons_append, true_and, and_true, if_true, if_false, ne_eq, not_true, not_false_eq_true, and_self, true_or, or_true, false_or, or_false, false_and, and_false, b_138 hm, c0, c1, h3, ew, ua_eq, us_same, zup_same]
      have F : Fr [138, 139] μ (us μ 138 (zup (μ 138) 2 (k : Int))) := Fr.us (by simp) Fr.refl
      clear ew
      exact hQ _ (MLe_fr F (by decide)) (MS_tape h F (fun j hj => by rw [us_same, zup_ne hj]) ⟨by omega, fun q hq => hbb q (by omega)⟩ (by rw [us_same, zup_same rfl]) (fun q hq => by rw [us_ne (by decide)]; exact h7 q (by omega)))
    · rw [if_neg (by omega), if_neg (by omega)] at hQ
      simp only [x166_0, x166_1, x166_4, x166_5, x166_6, x166_9, x166_12, x166_13, x166_14, x166_15, x166_16, x166_19, x166_20, x166_21, x166_24, x166_25, x166_28, ↓reduceIte, Bool.false_eq_true, Nat.reduceAdd, Nat.reduceLT, Nat.reduceLeDiff, Nat.reduceSub, Nat.reduceEqDiff, Int.reduceToNat, Int.reduceEq, Int.reduceLT, Int.reduceLE, Int.reduceAdd, Int.reduceSub, zg, zI, zJ, zR, zst, zkl, zn, zcat, zok, zraw, List.length_cons, List.length_nil, Option.toList, List.nil_append, List.cons_append, true_and, and_true, if_true, if_false, ne_eq, not_true, not_false_eq_true, and_self, true_or, or_true, false_or, or_false, false_and, and_false, b_138 hm, c0, c1, h3]
      exact hQ μ (fun _ _ => rfl) h
/-- place -/
theorem kPlace {D : Nat} (h : CS θ T U σ μ) (hQ : Q (some (vi (sP σ))) θ μ) : Ex D 105 0 [vr 2] [] θ μ Q := by
  have hc := h.1.1.1
  have e := h.2.2.2.2.2.2.2.2.1
  simp only [x105_0, x105_1, x105_4, ↓reduceIte, Bool.false_eq_true, Nat.reduceAdd, Nat.reduceLT, Nat.reduceLeDiff, Nat.reduceSub, Nat.reduceEqDiff, Int.reduceToNat, Int.reduceEq, Int.reduceLT, Int.reduceLE, Int.reduceAdd, Int.reduceSub, zg, zI, zJ, zR, zst, zkl, zn, zcat, zok, zraw, List.length_cons, List.length_nil, Option.toList, List.nil_append, List.cons_append, true_and, and_true, if_true, if_false, ne_eq, not_true, not_false_eq_true, and_self, true_or, or_true, false_or, or_false, false_and, and_false, b_2 hc, e]
  exact hQ
theorem rPlace {D : Nat} (h : MS θ σ s μ) (hQ : Q (some (vi (sP σ))) θ μ) : Ex D 182 0 [vr 138] [] θ μ Q := by
  have hm := h.1.1
  have e := h.2.2.2.2.2.2.1
  simp only [x182_0, x182_1, x182_4, ↓reduceIte, Bool.false_eq_true, Nat.reduceAdd, Nat.reduceLT, Nat.reduceLeDiff, Nat.reduceSub, Nat.reduceEqDiff, Int.reduceToNat, Int.reduceEq, Int.reduceLT, Int.reduceLE, Int.reduceAdd, Int.reduceSub, zg, zI, zJ, zR, zst, zkl, zn, zcat, zok, zraw, List.length_cons, List.length_nil, Option.toList, List.nil_append, List.cons_append, true_and, and_true, if_true, if_false, ne_eq, not_true, not_false_eq_true, and_self, true_or, or_true, false_or, or_false, false_and, and_false, b_138 hm, e]
  exact hQ
end TP
