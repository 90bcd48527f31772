/-! CALLS: house, annul, warned, village -/
section FA
variable {θ : zS} {T U : Nat} {σ : zSt} {Q : Option zV → zS → zM → Prop} {μ : zM} {s : Nat}
abbrev okHs (a w n : Int) : Prop := (0 ≤ a ∧ a ≤ 99) ∧ (0 ≤ w ∧ w ≤ 3) ∧ (0 ≤ n ∧ n ≤ 9)
theorem eHouse {d : Nat} (hd : 0 < d) (a w n : Int) (θ : zS) (μ : zM) (Q : Option zV → zS → zM → Prop) : Ex d 156 0 [vi a, vi w, vi n] [] θ μ Q = Q (some (vi (if okHs a w n then 1 else 0))) θ μ := by
  by_cases a0 : a < 0
  · rw [if_neg (by unfold okHs; omega)]
    simp only [x156_0, x156_1, x156_4, x156_5, x156_7, x156_10, x156_11, x156_14, x156_17, x156_18, x156_21, x156_22, x156_24, x156_27, x156_28, x156_31, x156_32, ↓reduceIte, Bool.false_eq_true, Nat.reduceAdd, Nat.reduceLT, Nat.reduceLeDiff, Nat.reduceSub, Nat.reduceEqDiff, Int.reduceToNat, Int.reduceEq, Int.reduceLT, Int.reduceLE, Int.reduceAdd, Int.reduceSub, zg, zI, zJ, zR, zst, zkl, zn, zcat, zok, zraw, List.length_cons, List.length_nil, Option.toList, List.nil_append, List.cons_append, true_and, and_true, if_true, if_false, ne_eq, not_true, not_false_eq_true, and_self, true_or, or_true, false_or, or_false, false_and, and_false, a0]
  · by_cases a1 : 99 < a
    · rw [if_neg (by unfold okHs; omega)]
      simp only [x156_0, x156_1, x156_4, x156_5, x156_7, x156_10, x156_11, x156_14, x156_17, x156_18, x156_21, x156_22, x156_24, x156_27, x156_28, x156_31, x156_32, ↓reduceIte, Bool.false_eq_true, Nat.reduceAdd, Nat.reduceLT, Nat.reduceLeDiff, Nat.reduceSub, Nat.reduceEqDiff, Int.reduceToNat, Int.reduceEq, Int.reduceLT, Int.reduceLE, Int.reduceAdd, Int.reduceSub, zg, zI, zJ, zR, zst, zkl, zn, zcat, zok, zraw, List.length_cons, List.length_nil, Option.toList, List.nil_append, List.cons_append, true_and, and_true, if_true, if_false, ne_eq, not_true, not_false_eq_true, and_self, true_or, or_true, false_or, or_false, false_and, and_false, a0, a1]
    · by_cases w0 : 0 ≤ w ∧ w ≤ 3
      · by_cases n0 : n < 0
        · rw [if_neg (by unfold okHs; omega)]
          simp only [x156_0, x156_1, x156_4, x156_5, x156_7, x156_10, x156_11, x156_14, x156_17, x156_18, x156_21, x156_22, x156_24, x156_27, x156_28, x156_31, x156_32, ↓reduceIte, Bool.false_eq_true, Nat.reduceAdd, Nat.reduceLT, Nat.reduceLeDiff, Nat.reduceSub, Nat.reduceEqDiff, Int.reduceToNat, Int.reduceEq, Int.reduceLT, Int.reduceLE, Int.reduceAdd, Int.reduceSub, zg, zI, zJ, zR, zst, zkl, zn, zcat, zok, zraw, List.length_cons, List.length_nil, Option.toList, List.nil_append, List.cons_append, true_and, and_true, if_true, if_false, ne_eq, not_true, not_false_eq_true, and_self, true_or, or_true, false_or, or_false, false_and, and_false, a0, a1, hd, cIsWay, w0, n0]
        · by_cases n1 : 9 < n
          · rw [if_neg (by unfold okHs; omega)]
            simp only [x156_0, x156_1, x156_4, x156_5, x156_7, x156_10, x156_11, x156_14, x156_17, x156_18, x156_21, x156_22, x156_24, x156_27, x156_28, x156_31, x156_32, ↓reduceIte, Bool.false_eq_true, Nat.reduceAdd, Nat.reduceLT, Nat.reduceLeDiff, Nat.reduceSub, Nat.reduceEqDiff, Int.reduceToNat, Int.reduceEq, Int.reduceLT, Int.reduceLE, Int.reduceAdd, Int.reduceSub, zg, zI, zJ, zR, zst, zkl, zn, zcat, zok, zraw, List.length_cons, List.length_nil, Option.toList, List.nil_append, List.cons_append, true_and, and_true, if_true, if_false, ne_eq, not_true, not_false_eq_true, and_self, true_or, or_true, false_or, or_false, false_and, and_false, a0, a1, hd, cIsWay, w0, n0, n1]
          · rw [if_pos (by unfold okHs; omega)]
            simp only [x156_0, x156_1, x156_4, x156_5, x156_7, x156_10, x156_11, x156_14, x156_17, x156_18, x156_21, x156_22, x156_24, x156_27, x156_28, x156_31, x156_32, ↓reduceIte, Bool.false_eq_true, Nat.reduceAdd, Nat.reduceLT, Nat.reduceLeDiff, Nat.reduceSub, Nat.reduceEqDiff, Int.reduceToNat, Int.reduceEq, Int.reduceLT, Int.reduceLE, Int.reduceAdd, Int.reduceSub, zg, zI, zJ, zR, zst, zkl, zn, zcat, zok, zraw, List.length_cons, List.length_nil, Option.toList, List.nil_append, List.cons_append, true_and, and_true, if_true, if_false, ne_eq, not_true, not_false_eq_true, and_self, true_or, or_true, false_or, or_false, false_and, and_false, a0, a1, hd, cIsWay, w0, n0, n1]
      · rw [if_neg (fun hh => w0 hh.2.1)]
        simp only [x156_0, x156_1, x156_4, x156_5, x156_7, x156_10, x156_11, x156_14, x156_17, x156_18, x156_21, x156_22, x156_24, x156_27, x156_28, x156_31, x156_32, ↓reduceIte, Bool.false_eq_true, Nat.reduceAdd, Nat.reduceLT, Nat.reduceLeDiff, Nat.reduceSub, Nat.reduceEqDiff, Int.reduceToNat, Int.reduceEq, Int.reduceLT, Int.reduceLE, Int.reduceAdd, Int.reduceSub, zg, zI, zJ, zR, zst, zkl, zn, zcat, zok, zraw, List.length_cons, List.length_nil, Option.toList, List.nil_append, List.cons_append, true_and, and_true, if_true, if_false, ne_eq, not_true, not_false_eq_true, and_self, true_or, or_true, false_or, or_false, false_and, and_false, a0, a1, hd, cIsWay, if_neg w0]
/-- house -/
def hoV (V : zV2) (a w n l : Int) : zV2 := (V.1 + 1, zup V.2.1 V.1 a, zup V.2.2.1 V.1 w, zup V.2.2.2.1 V.1 n, zup V.2.2.2.2.1 V.1 l, zup V.2.2.2.2.2 V.1 (-1))
abbrev okHo (σ : zSt) (a w n l : Int) : Prop := (sV σ).1 < 60 ∧ okHs a w n ∧ 0 ≤ l ∧ l ≤ 99
def sHouse (σ : zSt) (a w n l : Int) : zSt := if okHo σ a w n l then faS σ (hoV (sV σ) a w n l) else σ
def vHouse (σ : zSt) (a w n l : Int) : Int := if okHo σ a w n l then (((sV σ).1 : Nat) : Int) else -1
theorem hoV_w {V : zV2} {a w n l : Int} (h : wfV V) (h6 : V.1 < 60) (hs : okHs a w n) (hl : 0 ≤ l ∧ l ≤ 99) : wfV (hoV V a w n l) := by
  refine ⟨h6, fun i hi => ?_⟩
  have hi' : i < V.1 + 1 := hi
  by_cases e : i = V.1
  · refine Or.inl ?_
    show zup V.2.2.2.2.2 V.1 (-1) i = -1 ∧ (0 ≤ zup V.2.1 V.1 a i ∧ zup V.2.1 V.1 a i ≤ 99) ∧ (0 ≤ zup V.2.2.1 V.1 w i ∧ zup V.2.2.1 V.1 w i ≤ 3) ∧ (0 ≤ zup V.2.2.2.1 V.1 n i ∧ zup V.2.2.2.1 V.1 n i ≤ 9) ∧ 0 ≤ zup V.2.2.2.2.1 V.1 l i ∧ zup V.2.2.2.2.1 V.1 l i ≤ 99
    rw [zup_same e, zup_same e, zup_same e, zup_same e, zup_same e]
    exact ⟨rfl, hs.1, hs.2.1, hs.2.2, hl⟩
  · have := h.2 i (by omega)
    show (zup V.2.2.2.2.2 V.1 (-1) i = -1 ∧ (0 ≤ zup V.2.1 V.1 a i ∧ zup V.2.1 V.1 a i ≤ 99) ∧ (0 ≤ zup V.2.2.1 V.1 w i ∧ zup V.2.2.1 V.1 w i ≤ 3) ∧ (0 ≤ zup V.2.2.2.1 V.1 n i ∧ zup V.2.2.2.1 V.1 n i ≤ 9) ∧ 0 ≤ zup V.2.2.2.2.1 V.1 l i ∧ zup V.2.2.2.2.1 V.1 l i ≤ 99) ∨ (0 ≤ zup V.2.2.2.2.2 V.1 (-1) i ∧ zup V.2.2.2.2.2 V.1 (-1) i < (i : Int))
    rw [zup_ne e, zup_ne e, zup_ne e, zup_ne e, zup_ne e]
    exact this
theorem kHouse {D : Nat} {a w n l : Int} (h : CS θ T U σ μ) (hd : 7 ≤ D) (hQ : ∀ μ', CL μ μ' → CS θ T U (sHouse σ a w n l) μ' → Q (some (vi (vHouse σ a w n l))) θ μ') : Ex D 143 0 [vr 2, vi a, vi w, vi n, vi l] [] θ μ Q := by
  have hc := h.1.1.1
  have hd0 : 0 < D := by omega
  have hd1 : 0 < D - 1 := by omega
  have hwV := h.2.1.2.2.2.1
  have hV := h.2.2.2.2.2.2.1
  obtain ⟨e0, ei⟩ := id hV
  have hno : ¬ okHo σ a w n l → Q (some (vi (-1))) θ μ := fun hn => by
    have := hQ μ (fun _ _ => rfl) (by unfold sHouse; rw [if_neg hn]; exact h)
    unfold vHouse at this
    rwa [if_neg hn] at this
  by_cases q0 : okHs a w n
  · by_cases q1 : l < 0
    · have := hno (fun hh => by have := hh.2.2; omega)
      simp only [x143_0, x143_1, x143_2, x143_3, x143_6, x143_9, x143_11, x143_14, x143_16, x143_18, x143_21, x143_22, x143_23, x143_24, x143_27, x143_28, x143_29, x143_30, x143_32, x143_35, ↓reduceIte, Bool.false_eq_true, Nat.reduceAdd, Nat.reduceLT, Nat.reduceLeDiff, Nat.reduceSub, Nat.reduceEqDiff, Int.reduceToNat, Int.reduceEq, Int.reduceLT, Int.reduceLE, Int.reduceAdd, Int.reduceSub, zg, zI, zJ, zR, zst, zkl, zn, zcat, zok, zraw, List.length_cons, List.length_nil, Option.toList, List.nil_append, List.cons_append, true_and, and_true, if_true, if_false, ne_eq, not_true, not_false_eq_true, and_self, true_or, or_true, false_or, or_false, false_and, and_false, hd0, eHouse hd1, if_pos q0, q1]
      exact this
    · by_cases q2 : l ≤ 99
      · by_cases q3 : 60 ≤ (sV σ).1
        · have := hno (fun hh => by have := hh.1; omega)
          have c3 : ¬ (((sV σ).1 : Nat) : Int) < 60 := by omega
          simp only [x143_0, x143_1, x143_2, x143_3, x143_6, x143_9, x143_11, x143_14, x143_16, x143_18, x143_21, x143_22, x143_23, x143_24, x143_27, x143_28, x143_29, x143_30, x143_32, x143_35, x93_0, x93_1, x93_4, x93_6, x93_9, x93_10, x93_11, x93_12, x93_15, x93_16, x93_19, x93_20, x93_21, x93_22, x93_25, x93_26, x93_29, x93_30, x93_31, x93_32, x93_35, x93_36, x93_39, x93_40, x93_41, x93_42, x93_45, x93_46, x93_49, x93_51, x93_52, x93_53, x93_56, x93_57, x93_60, x93_61, x93_62, x93_63, x93_64, x93_67, x93_68, x93_69, x93_72, x93_73, x93_76, x93_77, x93_78, ↓reduceIte, Bool.false_eq_true, Nat.reduceAdd, Nat.reduceLT, Nat.reduceLeDiff, Nat.reduceSub, Nat.reduceEqDiff, Int.reduceToNat, Int.reduceEq, Int.reduceLT, Int.reduceLE, Int.reduceAdd, Int.reduceSub, zg, zI, zJ, zR, zst, zkl, zn, zcat, zok, zraw, List.length_cons, List.length_nil, Option.toList, List.nil_append, List.cons_append, true_and, and_true, if_true, if_false, ne_eq, not_true, not_false_eq_true, and_self, true_or, or_true, false_or, or_false, false_and, and_false, b_2 hc, r_2_9 hc, b_131 hc, hd0, eHouse hd1, if_pos q0, q1, q2, e0, c3]
          exact this
        · have ok : okHo σ a w n l := ⟨by omega, q0, by omega, q2⟩
          unfold sHouse vHouse at hQ
          rw [if_pos ok, if_pos ok] at hQ
          obtain ⟨N, hN⟩ : ∃ N, N = (sV σ).1 := ⟨_, rfl⟩
          rw [← hN] at e0
          have c3 : (N : Int) < 60 := by omega
          have i1 : (0 : Int) ≤ (N : Int) := by omega
          have w1 : N < 2147483647 := by omega
          obtain ⟨μ1, hμ1⟩ : ∃ μ1, μ1 = us (us (us (us (us (us μ 132 (zup (μ 132) N a)) 133 (zup (μ 133) N w)) 134 (zup (μ 134) N n)) 135 (zup (μ 135) N l)) 136 (zup (μ 136) N (-1))) 131 (zup (μ 131) 0 ((N + 1 : Nat) : Int)) := ⟨_, rfl⟩
          have F : Fr [131, 132, 133, 134, 135, 136, 137] μ μ1 := by rw [hμ1]; exact Fr.us (by simp) (Fr.us (by simp) (Fr.us (by simp) (Fr.us (by simp) (Fr.us (by simp) (Fr.us (by simp) Fr.refl)))))
          have e1 : μ1 131 0 = ((N + 1 : Nat) : Int) := by rw [hμ1, us_same, zup_same rfl]
          have fin := hQ μ1 (CL_fr F (by decide)) (CS_facts h F (hoV_w hwV (by omega) q0 (by omega)) ⟨?_, fun i hi => ?_⟩)
          · rw [← hN] at fin
            have ew : w32 (((N + 1 : Nat) : Int) - 1) = (N : Int) := by rw [w32_i (by omega) (by omega)]; omega
            simp only [x143_0, x143_1, x143_2, x143_3, x143_6, x143_9, x143_11, x143_14, x143_16, x143_18, x143_21, x143_22, x143_23, x143_24, x143_27, x143_28, x143_29, x143_30, x143_32, x143_35, x93_0, x93_1, x93_4, x93_6, x93_9, x93_10, x93_11, x93_12, x93_15, x93_16, x93_19, x93_20, x93_21, x93_22, x93_25, x93_26, x93_29, x93_30, x93_31, x93_32, x93_35, x93_36, x93_39, x93_40, x93_41, x93_42, x93_45, x93_46, x93_49, x93_51, x93_52, x93_53, x93_56, x93_57, x93_60, x93_61, x93_62, x93_63, x93_64, x93_67, x93_68, x93_69, x93_72, x93_73, x93_76, x93_77, x93_78, ↓reduceIte, Bool.false_eq_true, Nat.reduceAdd, Nat.reduceLT, Nat.reduceLeDiff, Nat.reduceSub, Nat.reduceEqDiff, Int.reduceToNat, Int.reduceEq, Int.reduceLT, Int.reduceLE, Int.reduceAdd, Int.reduceSub, zg, zI, zJ, zR, zst, zkl, zn, zcat, zok, zraw, List.length_cons, List.length_nil, Option.toList, List.nil_append, List.cons_append, true_and, and_true, if_true, if_false, ne_eq, not_true, not_false_eq_true, and_self, true_or, or_true, false_or, or_false, false_and, and_false, b_2 hc, r_2_9 hc, b_131 hc, hd0, eHouse hd1, if_pos q0, q1, q2, e0, c3, r_131_7 hc, r_131_8 hc, r_131_9 hc, r_131_10 hc, r_131_11 hc, x_132 hc i1 c3, x_133 hc i1 c3, x_134 hc i1 c3, x_135 hc i1 c3, x_136 hc i1 c3, Int.toNat_natCast, ua_eq, us_ne (show (131 : Nat) ≠ 132 by decide), us_ne (show (131 : Nat) ≠ 133 by decide), us_ne (show (131 : Nat) ≠ 134 by decide), us_ne (show (131 : Nat) ≠ 135 by decide), us_ne (show (131 : Nat) ≠ 136 by decide), us_ne (show (133 : Nat) ≠ 132 by decide), us_ne (show (134 : Nat) ≠ 132 by decide), us_ne (show (135 : Nat) ≠ 132 by decide), us_ne (show (136 : Nat) ≠ 132 by decide), us_ne (show (134 : Nat) ≠ 133 by decide), us_ne (show (135 : Nat) ≠ 133 by decide), us_ne (show (136 : Nat) ≠ 133 by decide), us_ne (show (135 : Nat) ≠ 134 by decide), us_ne (show (136 : Nat) ≠ 134 by decide), us_ne (show (136 : Nat) ≠ 135 by decide), w32_s w1, ← hμ1, e1, ew]
            exact fin
          · rw [e1, hN]; rfl
          · have hi' : i < (sV σ).1 + 1 := hi
            show μ1 136 i = zup (sV σ).2.2.2.2.2 (sV σ).1 (-1) i ∧ (zup (sV σ).2.2.2.2.2 (sV σ).1 (-1) i = -1 → μ1 132 i = zup (sV σ).2.1 (sV σ).1 a i ∧ μ1 133 i = zup (sV σ).2.2.1 (sV σ).1 w i ∧ μ1 134 i = zup (sV σ).2.2.2.1 (sV σ).1 n i ∧ μ1 135 i = zup (sV σ).2.2.2.2.1 (sV σ).1 l i)
            have e136 : μ1 136 = zup (μ 136) N (-1) := by rw [hμ1, us_ne (by decide), us_same]
            have e135 : μ1 135 = zup (μ 135) N l := by rw [hμ1, us_ne (by decide), us_ne (by decide), us_same]
            have e134 : μ1 134 = zup (μ 134) N n := by rw [hμ1, us_ne (by decide), us_ne (by decide), us_ne (by decide), us_same]
            have e133 : μ1 133 = zup (μ 133) N w := by rw [hμ1, us_ne (by decide), us_ne (by decide), us_ne (by decide), us_ne (by decide), us_same]
            have e132 : μ1 132 = zup (μ 132) N a := by rw [hμ1, us_ne (by decide), us_ne (by decide), us_ne (by decide), us_ne (by decide), us_ne (by decide), us_same]
            rw [e132, e133, e134, e135, e136, ← hN]
            by_cases e : i = N
            · rw [zup_same e, zup_same e, zup_same e, zup_same e, zup_same e, zup_same e, zup_same e, zup_same e, zup_same e, zup_same e]; exact ⟨rfl, fun _ => ⟨rfl, rfl, rfl, rfl⟩⟩
            · rw [zup_ne e, zup_ne e, zup_ne e, zup_ne e, zup_ne e, zup_ne e, zup_ne e, zup_ne e, zup_ne e, zup_ne e]; exact ei i (by omega)
      · have := hno (fun hh => by have := hh.2.2; omega)
        simp only [x143_0, x143_1, x143_2, x143_3, x143_6, x143_9, x143_11, x143_14, x143_16, x143_18, x143_21, x143_22, x143_23, x143_24, x143_27, x143_28, x143_29, x143_30, x143_32, x143_35, ↓reduceIte, Bool.false_eq_true, Nat.reduceAdd, Nat.reduceLT, Nat.reduceLeDiff, Nat.reduceSub, Nat.reduceEqDiff, Int.reduceToNat, Int.reduceEq, Int.reduceLT, Int.reduceLE, Int.reduceAdd, Int.reduceSub, zg, zI, zJ, zR, zst, zkl, zn, zcat, zok, zraw, List.length_cons, List.length_nil, Option.toList, List.nil_append, List.cons_append, true_and, and_true, if_true, if_false, ne_eq, not_true, not_false_eq_true, and_self, true_or, or_true, false_or, or_false, false_and, and_false, hd0, eHouse hd1, if_pos q0, q1, q2]
        exact this
  · have := hno (fun hh => q0 hh.2.1)
    simp only [x143_0, x143_1, x143_2, x143_3, x143_6, x143_9, x143_11, x143_14, x143_16, x143_18, x143_21, x143_22, x143_23, x143_24, x143_27, x143_28, x143_29, x143_30, x143_32, x143_35, ↓reduceIte, Bool.false_eq_true, Nat.reduceAdd, Nat.reduceLT, Nat.reduceLeDiff, Nat.reduceSub, Nat.reduceEqDiff, Int.reduceToNat, Int.reduceEq, Int.reduceLT, Int.reduceLE, Int.reduceAdd, Int.reduceSub, zg, zI, zJ, zR, zst, zkl, zn, zcat, zok, zraw, List.length_cons, List.length_nil, Option.toList, List.nil_append, List.cons_append, true_and, and_true, if_true, if_false, ne_eq, not_true, not_false_eq_true, and_self, true_or, or_true, false_or, or_false, false_and, and_false, hd0, eHouse hd1, if_neg q0]
    exact this
theorem rHouse {D : Nat} {a w n l : Int} (h : MS θ σ s μ) (hd : 11 ≤ D) (hQ : ∀ μ', ML2 μ μ' → MS θ (sHouse σ a w n l) s μ' → Q (some (vi (vHouse σ a w n l))) θ μ') : Ex D 278 0 [vr 138, vi a, vi w, vi n, vi l] [] θ μ Q := by
  have hm := h.1.1
  have hd0 : 0 < D := by omega
  have hwV := h.2.1.2.2.2.1
  obtain ⟨e0, ei⟩ := h.2.2.2.2.1
  have hno : ¬ okHo σ a w n l → Q (some (vi (-1))) θ μ := fun hn => by
    have := hQ μ (fun _ _ => rfl) (by unfold sHouse; rw [if_neg hn]; exact h)
    unfold vHouse at this
    rwa [if_neg hn] at this
  by_cases q3 : (sV σ).1 = 60
  · have := hno (fun hh => by have := hh.1; omega)
    have c3 : (((sV σ).1 : Nat) : Int) = 60 := by omega
    simp only [x278_0, x278_1, x278_4, x278_6, x278_9, x278_10, x278_11, x278_13, x278_16, x278_19, x278_20, x278_21, x278_22, x278_25, x278_28, x278_29, x278_30, x278_32, x278_35, x278_38, x278_40, x278_41, x278_43, x278_46, x278_49, x278_50, x278_51, x278_52, x278_55, x278_56, x278_59, x278_60, x278_61, x278_62, x278_65, x278_66, x278_69, x278_70, x278_71, x278_72, x278_75, x278_76, x278_79, x278_80, x278_81, x278_82, x278_85, x278_86, x278_89, x278_90, x278_91, x278_92, x278_95, x278_96, x278_99, x278_101, x278_102, x278_103, x278_104, x278_107, x278_108, x278_109, x278_112, x278_113, x278_116, x278_117, x278_118, ↓reduceIte, Bool.false_eq_true, Nat.reduceAdd, Nat.reduceLT, Nat.reduceLeDiff, Nat.reduceSub, Nat.reduceEqDiff, Int.reduceToNat, Int.reduceEq, Int.reduceLT, Int.reduceLE, Int.reduceAdd, Int.reduceSub, zg, zI, zJ, zR, zst, zkl, zn, zcat, zok, zraw, List.length_cons, List.length_nil, Option.toList, List.nil_append, List.cons_append, true_and, and_true, if_true, if_false, ne_eq, not_true, not_false_eq_true, and_self, true_or, or_true, false_or, or_false, false_and, and_false, b_138 hm, e0, c3]
    exact this
  · have c3 : ¬ (((sV σ).1 : Nat) : Int) = 60 := by omega
    by_cases qa : 0 ≤ a ∧ a ≤ 99
    · by_cases qw : 0 ≤ w ∧ w ≤ 3
      · by_cases qn : 0 ≤ n ∧ n ≤ 9
        · by_cases ql : 0 ≤ l ∧ l ≤ 99
          · have hlt : (sV σ).1 < 60 := by have := hwV.1; omega
            have ok : okHo σ a w n l := ⟨hlt, ⟨qa, qw, qn⟩, ql⟩
            unfold sHouse vHouse at hQ
            rw [if_pos ok, if_pos ok] at hQ
            obtain ⟨N, hN⟩ : ∃ N, N = (sV σ).1 := ⟨_, rfl⟩
            rw [← hN] at e0 c3
            have i1 : (0 : Int) ≤ (N : Int) := by omega
            have i2 : (N : Int) < 60 := by omega
            have w1 : N < 2147483647 := by omega
            obtain ⟨μ1, hμ1⟩ : ∃ μ1, μ1 = us (us (us (us (us (us μ 193 (zup (μ 193) N (-1))) 194 (zup (μ 194) N a)) 195 (zup (μ 195) N w)) 196 (zup (μ 196) N n)) 197 (zup (μ 197) N l)) 138 (zup (μ 138) 78 ((N + 1 : Nat) : Int)) := ⟨_, rfl⟩
            have F : Fr [138, 193, 194, 195, 196, 197] μ μ1 := by rw [hμ1]; exact Fr.us (by simp) (Fr.us (by simp) (Fr.us (by simp) (Fr.us (by simp) (Fr.us (by simp) (Fr.us (by simp) Fr.refl)))))
            have e1 : μ1 138 78 = ((N + 1 : Nat) : Int) := by rw [hμ1, us_same, zup_same rfl]
            have fin := hQ μ1 (MLe_fr F (by decide)) (MS_facts h F (fun j hj => by rw [hμ1, us_same, zup_ne hj]) (hoV_w hwV hlt ⟨qa, qw, qn⟩ ql) ⟨?_, fun i hi => ?_⟩)
            · rw [← hN] at fin
              have ew : w32 (((N + 1 : Nat) : Int) - 1) = (N : Int) := by rw [w32_i (by omega) (by omega)]; omega
              simp only [x278_0, x278_1, x278_4, x278_6, x278_9, x278_10, x278_11, x278_13, x278_16, x278_19, x278_20, x278_21, x278_22, x278_25, x278_28, x278_29, x278_30, x278_32, x278_35, x278_38, x278_40, x278_41, x278_43, x278_46, x278_49, x278_50, x278_51, x278_52, x278_55, x278_56, x278_59, x278_60, x278_61, x278_62, x278_65, x278_66, x278_69, x278_70, x278_71, x278_72, x278_75, x278_76, x278_79, x278_80, x278_81, x278_82, x278_85, x278_86, x278_89, x278_90, x278_91, x278_92, x278_95, x278_96, x278_99, x278_101, x278_102, x278_103, x278_104, x278_107, x278_108, x278_109, x278_112, x278_113, x278_116, x278_117, x278_118, ↓reduceIte, Bool.false_eq_true, Nat.reduceAdd, Nat.reduceLT, Nat.reduceLeDiff, Nat.reduceSub, Nat.reduceEqDiff, Int.reduceToNat, Int.reduceEq, Int.reduceLT, Int.reduceLE, Int.reduceAdd, Int.reduceSub, zg, zI, zJ, zR, zst, zkl, zn, zcat, zok, zraw, List.length_cons, List.length_nil, Option.toList, List.nil_append, List.cons_append, true_and, and_true, if_true, if_false, ne_eq, not_true, not_false_eq_true, and_self, true_or, or_true, false_or, or_false, false_and, and_false, b_138 hm, e0, c3, hd0, mIn, if_pos qa, if_pos qw, if_pos qn, if_pos ql, r_138_79 hm, r_138_80 hm, r_138_81 hm, r_138_82 hm, r_138_83 hm, x_193 hm i1 i2, x_194 hm i1 i2, x_195 hm i1 i2, x_196 hm i1 i2, x_197 hm i1 i2, Int.toNat_natCast, ua_eq, us_ne (show (138 : Nat) ≠ 193 by decide), us_ne (show (138 : Nat) ≠ 194 by decide), us_ne (show (138 : Nat) ≠ 195 by decide), us_ne (show (138 : Nat) ≠ 196 by decide), us_ne (show (138 : Nat) ≠ 197 by decide), us_ne (show (194 : Nat) ≠ 193 by decide), us_ne (show (195 : Nat) ≠ 193 by decide), us_ne (show (196 : Nat) ≠ 193 by decide), us_ne (show (197 : Nat) ≠ 193 by decide), us_ne (show (195 : Nat) ≠ 194 by decide), us_ne (show (196 : Nat) ≠ 194 by decide), us_ne (show (197 : Nat) ≠ 194 by decide), us_ne (show (196 : Nat) ≠ 195 by decide), us_ne (show (197 : Nat) ≠ 195 by decide), us_ne (show (197 : Nat) ≠ 196 by decide), w32_s w1, ← hμ1, e1, ew]
              exact fin
            · rw [e1, hN]; rfl
            · have hi' : i < (sV σ).1 + 1 := hi
              show μ1 193 i = zup (sV σ).2.2.2.2.2 (sV σ).1 (-1) i ∧ (zup (sV σ).2.2.2.2.2 (sV σ).1 (-1) i = -1 → μ1 194 i = zup (sV σ).2.1 (sV σ).1 a i ∧ μ1 195 i = zup (sV σ).2.2.1 (sV σ).1 w i ∧ μ1 196 i = zup (sV σ).2.2.2.1 (sV σ).1 n i ∧ μ1 197 i = zup (sV σ).2.2.2.2.1 (sV σ).1 l i)
              have e136 : μ1 193 = zup (μ 193) N (-1) := by rw [hμ1, us_ne (by decide), us_ne (by decide), us_ne (by decide), us_ne (by decide), us_ne (by decide), us_same]
              have e135 : μ1 197 = zup (μ 197) N l := by rw [hμ1, us_ne (by decide), us_same]
              have e134 : μ1 196 = zup (μ 196) N n := by rw [hμ1, us_ne (by decide), us_ne (by decide), us_same]
              have e133 : μ1 195 = zup (μ 195) N w := by rw [hμ1, us_ne (by decide), us_ne (by decide), us_ne (by decide), us_same]
              have e132 : μ1 194 = zup (μ 194) N a := by rw [hμ1, us_ne (by decide), us_ne (by decide), us_ne (by decide), us_ne (by decide), us_same]
              rw [e132, e133, e134, e135, e136, ← hN]
              by_cases e : i = N
              · rw [zup_same e, zup_same e, zup_same e, zup_same e, zup_same e, zup_same e, zup_same e, zup_same e, zup_same e, zup_same e]; exact ⟨rfl, fun _ => ⟨rfl, rfl, rfl, rfl⟩⟩
              · rw [zup_ne e, zup_ne e, zup_ne e, zup_ne e, zup_ne e, zup_ne e, zup_ne e, zup_ne e, zup_ne e, zup_ne e]; exact ei i (by omega)
          · have := hno (fun hh => ql hh.2.2)
            simp only [x278_0, x278_1, x278_4, x278_6, x278_9, x278_10, x278_11, x278_13, x278_16, x278_19, x278_20, x278_21, x278_22, x278_25, x278_28, x278_29, x278_30, x278_32, x278_35, x278_38, x278_40, x278_41, x278_43, x278_46, x278_49, x278_50, x278_51, x278_52, x278_55, x278_56, x278_59, x278_60, x278_61, x278_62, x278_65, x278_66, x278_69, x278_70, x278_71, x278_72, x278_75, x278_76, x278_79, x278_80, x278_81, x278_82, x278_85, x278_86, x278_89, x278_90, x278_91, x278_92, x278_95, x278_96, x278_99, x278_101, x278_102, x278_103, x278_104, x278_107, x278_108, x278_109, x278_112, x278_113, x278_116, x278_117, x278_118, ↓reduceIte, Bool.false_eq_true, Nat.reduceAdd, Nat.reduceLT, Nat.reduceLeDiff, Nat.reduceSub, Nat.reduceEqDiff, Int.reduceToNat, Int.reduceEq, Int.reduceLT, Int.reduceLE, Int.reduceAdd, Int.reduceSub, zg, zI, zJ, zR, zst, zkl, zn, zcat, zok, zraw, List.length_cons, List.length_nil, Option.toList, List.nil_append, List.cons_append, true_and, and_true, if_true, if_false, ne_eq, not_true, not_false_eq_true, and_self, true_or, or_true, false_or, or_false, false_and, and_false, b_138 hm, e0, c3, hd0, mIn, if_pos qa, if_pos qw, if_pos qn, if_neg ql]
            exact this
        · have := hno (fun hh => qn hh.2.1.2.2)
          simp only [x278_0, x278_1, x278_4, x278_6, x278_9, x278_10, x278_11, x278_13, x278_16, x278_19, x278_20, x278_21, x278_22, x278_25, x278_28, x278_29, x278_30, x278_32, x278_35, x278_38, x278_40, x278_41, x278_43, x278_46, x278_49, x278_50, x278_51, x278_52, x278_55, x278_56, x278_59, x278_60, x278_61, x278_62, x278_65, x278_66, x278_69, x278_70, x278_71, x278_72, x278_75, x278_76, x278_79, x278_80, x278_81, x278_82, x278_85, x278_86, x278_89, x278_90, x278_91, x278_92, x278_95, x278_96, x278_99, x278_101, x278_102, x278_103, x278_104, x278_107, x278_108, x278_109, x278_112, x278_113, x278_116, x278_117, x278_118, ↓reduceIte, Bool.false_eq_true, Nat.reduceAdd, Nat.reduceLT, Nat.reduceLeDiff, Nat.reduceSub, Nat.reduceEqDiff, Int.reduceToNat, Int.reduceEq, Int.reduceLT, Int.reduceLE, Int.reduceAdd, Int.reduceSub, zg, zI, zJ, zR, zst, zkl, zn, zcat, zok, zraw, List.length_cons, List.length_nil, Option.toList, List.nil_append, List.cons_append, true_and, and_true, if_true, if_false, ne_eq, not_true, not_false_eq_true, and_self, true_or, or_true, false_or, or_false, false_and, and_false, b_138 hm, e0, c3, hd0, mIn, if_pos qa, if_pos qw, if_neg qn]
          exact this
      · have := hno (fun hh => qw hh.2.1.2.1)
        simp only [x278_0, x278_1, x278_4, x278_6, x278_9, x278_10, x278_11, x278_13, x278_16, x278_19, x278_20, x278_21, x278_22, x278_25, x278_28, x278_29, x278_30, x278_32, x278_35, x278_38, x278_40, x278_41, x278_43, x278_46, x278_49, x278_50, x278_51, x278_52, x278_55, x278_56, x278_59, x278_60, x278_61, x278_62, x278_65, x278_66, x278_69, x278_70, x278_71, x278_72, x278_75, x278_76, x278_79, x278_80, x278_81, x278_82, x278_85, x278_86, x278_89, x278_90, x278_91, x278_92, x278_95, x278_96, x278_99, x278_101, x278_102, x278_103, x278_104, x278_107, x278_108, x278_109, x278_112, x278_113, x278_116, x278_117, x278_118, ↓reduceIte, Bool.false_eq_true, Nat.reduceAdd, Nat.reduceLT, Nat.reduceLeDiff, Nat.reduceSub, Nat.reduceEqDiff, Int.reduceToNat, Int.reduceEq, Int.reduceLT, Int.reduceLE, Int.reduceAdd, Int.reduceSub, zg, zI, zJ, zR, zst, zkl, zn, zcat, zok, zraw, List.length_cons, List.length_nil, Option.toList, List.nil_append, List.cons_append, true_and, and_true, if_true, if_false, ne_eq, not_true, not_false_eq_true, and_self, true_or, or_true, false_or, or_false, false_and, and_false, b_138 hm, e0, c3, hd0, mIn, if_pos qa, if_neg qw]
        exact this
    · have := hno (fun hh => qa hh.2.1.1)
      simp only [x278_0, x278_1, x278_4, x278_6, x278_9, x278_10, x278_11, x278_13, x278_16, x278_19, x278_20, x278_21, x278_22, x278_25, x278_28, x278_29, x278_30, x278_32, x278_35, x278_38, x278_40, x278_41, x278_43, x278_46, x278_49, x278_50, x278_51, x278_52, x278_55, x278_56, x278_59, x278_60, x278_61, x278_62, x278_65, x278_66, x278_69, x278_70, x278_71, x278_72, x278_75, x278_76, x278_79, x278_80, x278_81, x278_82, x278_85, x278_86, x278_89, x278_90, x278_91, x278_92, x278_95, x278_96, x278_99, x278_101, x278_102, x278_103, x278_104, x278_107, x278_108, x278_109, x278_112, x278_113, x278_116, x278_117, x278_118, ↓reduceIte, Bool.false_eq_true, Nat.reduceAdd, Nat.reduceLT, Nat.reduceLeDiff, Nat.reduceSub, Nat.reduceEqDiff, Int.reduceToNat, Int.reduceEq, Int.reduceLT, Int.reduceLE, Int.reduceAdd, Int.reduceSub, zg, zI, zJ, zR, zst, zkl, zn, zcat, zok, zraw, List.length_cons, List.length_nil, Option.toList, List.nil_append, List.cons_append, true_and, and_true, if_true, if_false, ne_eq, not_true, not_false_eq_true, and_self, true_or, or_true, false_or, or_false, false_and, and_false, b_138 hm, e0, c3, hd0, mIn, if_neg qa]
      exact this
/-- annul -/
def anV (V : zV2) (f : Int) : zV2 := (V.1 + 1, V.2.1, V.2.2.1, V.2.2.2.1, V.2.2.2.2.1, zup V.2.2.2.2.2 V.1 f)
abbrev okAn (σ : zSt) (f : Int) : Prop := (sV σ).1 < 60 ∧ (0 ≤ f ∧ f < ((sV σ).1 : Int)) ∧ (sV σ).2.2.2.2.2 f.toNat = -1
def sAnnul (σ : zSt) (f : Int) : zSt := if okAn σ f then faS σ (anV (sV σ) f) else σ
def vAnnul (σ : zSt) (f : Int) : Int := if okAn σ f then (((sV σ).1 : Nat) : Int) else -1
theorem anV_w {V : zV2} {f : Int} (h : wfV V) (h6 : V.1 < 60) (hf : 0 ≤ f ∧ f < (V.1 : Int)) : wfV (anV V f) := by
  refine ⟨h6, fun i hi => ?_⟩
  have hi' : i < V.1 + 1 := hi
  show (zup V.2.2.2.2.2 V.1 f i = -1 ∧ (0 ≤ V.2.1 i ∧ V.2.1 i ≤ 99) ∧ (0 ≤ V.2.2.1 i ∧ V.2.2.1 i ≤ 3) ∧ (0 ≤ V.2.2.2.1 i ∧ V.2.2.2.1 i ≤ 9) ∧ 0 ≤ V.2.2.2.2.1 i ∧ V.2.2.2.2.1 i ≤ 99) ∨ (0 ≤ zup V.2.2.2.2.2 V.1 f i ∧ zup V.2.2.2.2.2 V.1 f i < (i : Int))
  by_cases e : i = V.1
  · refine Or.inr ?_
    rw [zup_same e]; omega
  · rw [zup_ne e]
    exact h.2 i (by omega)
theorem kAnnul {D : Nat} {f : Int} (h : CS θ T U σ μ) (hd : 7 ≤ D) (hQ : ∀ μ', CL μ μ' → CS θ T U (sAnnul σ f) μ' → Q (some (vi (vAnnul σ f))) θ μ') : Ex D 144 0 [vr 2, vi f] [] θ μ Q := by
  have hc := h.1.1.1
  have hd0 : 0 < D := by omega
  have hwV := h.2.1.2.2.2.1
  obtain ⟨e0, ei⟩ := h.2.2.2.2.2.2.1
  have hno : ¬ okAn σ f → Q (some (vi (-1))) θ μ := fun hn => by
    have := hQ μ (fun _ _ => rfl) (by unfold sAnnul; rw [if_neg hn]; exact h)
    unfold vAnnul at this
    rwa [if_neg hn] at this
  by_cases q3 : 60 ≤ (sV σ).1
  · have := hno (fun hh => by have := hh.1; omega)
    have c3 : (60 : Int) ≤ (((sV σ).1 : Nat) : Int) := by omega
    simp only [x144_0, x144_1, x144_4, x144_5, x144_8, x94_0, x94_1, x94_4, x94_6, x94_9, x94_10, x94_13, x94_14, x94_15, x94_18, x94_21, x94_22, x94_25, x94_26, x94_27, x94_28, x94_31, x94_32, x94_33, x94_34, x94_37, x94_38, x94_41, x94_42, x94_43, x94_44, x94_45, x94_48, x94_49, x94_50, x94_53, x94_54, x94_57, x94_58, x94_59, ↓reduceIte, Bool.false_eq_true, Nat.reduceAdd, Nat.reduceLT, Nat.reduceLeDiff, Nat.reduceSub, Nat.reduceEqDiff, Int.reduceToNat, Int.reduceEq, Int.reduceLT, Int.reduceLE, Int.reduceAdd, Int.reduceSub, zg, zI, zJ, zR, zst, zkl, zn, zcat, zok, zraw, List.length_cons, List.length_nil, Option.toList, List.nil_append, List.cons_append, true_and, and_true, if_true, if_false, ne_eq, not_true, not_false_eq_true, and_self, true_or, or_true, false_or, or_false, false_and, and_false, b_2 hc, r_2_9 hc, b_131 hc, hd0, e0, c3]
    exact this
  · have c3 : ¬ (60 : Int) ≤ (((sV σ).1 : Nat) : Int) := by omega
    by_cases q0 : f < 0
    · have := hno (fun hh => by have := hh.2.1; omega)
      simp only [x144_0, x144_1, x144_4, x144_5, x144_8, x94_0, x94_1, x94_4, x94_6, x94_9, x94_10, x94_13, x94_14, x94_15, x94_18, x94_21, x94_22, x94_25, x94_26, x94_27, x94_28, x94_31, x94_32, x94_33, x94_34, x94_37, x94_38, x94_41, x94_42, x94_43, x94_44, x94_45, x94_48, x94_49, x94_50, x94_53, x94_54, x94_57, x94_58, x94_59, ↓reduceIte, Bool.false_eq_true, Nat.reduceAdd, Nat.reduceLT, Nat.reduceLeDiff, Nat.reduceSub, Nat.reduceEqDiff, Int.reduceToNat, Int.reduceEq, Int.reduceLT, Int.reduceLE, Int.reduceAdd, Int.reduceSub, zg, zI, zJ, zR, zst, zkl, zn, zcat, zok, zraw, List.length_cons, List.length_nil, Option.toList, List.nil_append, List.cons_append, true_and, and_true, if_true, if_false, ne_eq, not_true, not_false_eq_true, and_self, true_or, or_true, false_or, or_false, false_and, and_false, b_2 hc, r_2_9 hc, b_131 hc, hd0, e0, c3, q0]
      exact this
    · by_cases q1 : (((sV σ).1 : Nat) : Int) ≤ f
      · have := hno (fun hh => by have := hh.2.1; omega)
        simp only [x144_0, x144_1, x144_4, x144_5, x144_8, x94_0, x94_1, x94_4, x94_6, x94_9, x94_10, x94_13, x94_14, x94_15, x94_18, x94_21, x94_22, x94_25, x94_26, x94_27, x94_28, x94_31, x94_32, x94_33, x94_34, x94_37, x94_38, x94_41, x94_42, x94_43, x94_44, x94_45, x94_48, x94_49, x94_50, x94_53, x94_54, x94_57, x94_58, x94_59, ↓reduceIte, Bool.false_eq_true, Nat.reduceAdd, Nat.reduceLT, Nat.reduceLeDiff, Nat.reduceSub, Nat.reduceEqDiff, Int.reduceToNat, Int.reduceEq, Int.reduceLT, Int.reduceLE, Int.reduceAdd, Int.reduceSub, zg, zI, zJ, zR, zst, zkl, zn, zcat, zok, zraw, List.length_cons, List.length_nil, Option.toList, List.nil_append, List.cons_append, true_and, and_true, if_true, if_false, ne_eq, not_true, not_false_eq_true, and_self, true_or, or_true, false_or, or_false, false_and, and_false, b_2 hc, r_2_9 hc, b_131 hc, hd0, e0, c3, q0, q1]
        exact this
      · obtain ⟨K, rfl⟩ : ∃ K : Nat, f = (K : Int) := ⟨f.toNat, by omega⟩
        have k1 : (0 : Int) ≤ (K : Int) := by omega
        have k2 : (K : Int) < 60 := by omega
        have eK : μ 136 K = (sV σ).2.2.2.2.2 K := (ei K (by omega)).1
        by_cases q2 : (sV σ).2.2.2.2.2 K = -1
        · have ok : okAn σ K := ⟨by omega, ⟨by omega, by omega⟩, by rw [Int.toNat_natCast]; exact q2⟩
          unfold sAnnul vAnnul at hQ
          rw [if_pos ok, if_pos ok] at hQ
          obtain ⟨N, hN⟩ : ∃ N, N = (sV σ).1 := ⟨_, rfl⟩
          rw [← hN] at e0 c3 q1
          have i1 : (0 : Int) ≤ (N : Int) := by omega
          have i2 : (N : Int) < 60 := by omega
          have w1 : N < 2147483647 := by omega
          obtain ⟨μ1, hμ1⟩ : ∃ μ1, μ1 = us (us μ 136 (zup (μ 136) N (K : Int))) 131 (zup (μ 131) 0 ((N + 1 : Nat) : Int)) := ⟨_, rfl⟩
          have F : Fr [131, 132, 133, 134, 135, 136, 137] μ μ1 := by rw [hμ1]; exact Fr.us (by simp) (Fr.us (by simp) Fr.refl)
          have F2 : Fr [131, 136] μ μ1 := by rw [hμ1]; exact Fr.us (by simp) (Fr.us (by simp) Fr.refl)
          have e1 : μ1 131 0 = ((N + 1 : Nat) : Int) := by rw [hμ1, us_same, zup_same rfl]
          have fin := hQ μ1 (CL_fr F (by decide)) (CS_facts h F (anV_w hwV (by omega) ⟨by omega, by omega⟩) ⟨?_, fun i hi => ?_⟩)
          · rw [← hN] at fin
            have ew : w32 (((N + 1 : Nat) : Int) - 1) = (N : Int) := by rw [w32_i (by omega) (by omega)]; omega
            simp only [x144_0, x144_1, x144_4, x144_5, x144_8, x94_0, x94_1, x94_4, x94_6, x94_9, x94_10, x94_13, x94_14, x94_15, x94_18, x94_21, x94_22, x94_25, x94_26, x94_27, x94_28, x94_31, x94_32, x94_33, x94_34, x94_37, x94_38, x94_41, x94_42, x94_43, x94_44, x94_45, x94_48, x94_49, x94_50, x94_53, x94_54, x94_57, x94_58, x94_59, ↓reduceIte, Bool.false_eq_true, Nat.reduceAdd, Nat.reduceLT, Nat.reduceLeDiff, Nat.reduceSub, Nat.reduceEqDiff, Int.reduceToNat, Int.reduceEq, Int.reduceLT, Int.reduceLE, Int.reduceAdd, Int.reduceSub, zg, zI, zJ, zR, zst, zkl, zn, zcat, zok, zraw, List.length_cons, List.length_nil, Option.toList, List.nil_append, List.cons_append, true_and, and_true, if_true, if_false, ne_eq, not_true, not_false_eq_true, and_self, true_or, or_true, false_or, or_false, false_and, and_false, b_2 hc, r_2_9 hc, b_131 hc, hd0, e0, c3, q0, q1, r_131_11 hc, x_136 hc k1 k2, x_136 hc i1 i2, Int.toNat_natCast, eK, q2, ua_eq, us_ne (show (131 : Nat) ≠ 136 by decide), w32_s w1, ← hμ1, e1, ew]
            exact fin
          · rw [e1, hN]; rfl
          · have hi' : i < (sV σ).1 + 1 := hi
            show μ1 136 i = zup (sV σ).2.2.2.2.2 (sV σ).1 (K : Int) i ∧ (zup (sV σ).2.2.2.2.2 (sV σ).1 (K : Int) i = -1 → μ1 132 i = (sV σ).2.1 i ∧ μ1 133 i = (sV σ).2.2.1 i ∧ μ1 134 i = (sV σ).2.2.2.1 i ∧ μ1 135 i = (sV σ).2.2.2.2.1 i)
            have e136 : μ1 136 = zup (μ 136) N (K : Int) := by rw [hμ1, us_ne (by decide), us_same]
            rw [F2 132 (by decide), F2 133 (by decide), F2 134 (by decide), F2 135 (by decide), e136, ← hN]
            by_cases e : i = N
            · rw [zup_same e, zup_same e]; exact ⟨rfl, fun hh => by omega⟩
            · rw [zup_ne e, zup_ne e]; exact ei i (by omega)
        · have := hno (fun hh => q2 (by have := hh.2.2; rwa [Int.toNat_natCast] at this))
          simp only [x144_0, x144_1, x144_4, x144_5, x144_8, x94_0, x94_1, x94_4, x94_6, x94_9, x94_10, x94_13, x94_14, x94_15, x94_18, x94_21, x94_22, x94_25, x94_26, x94_27, x94_28, x94_31, x94_32, x94_33, x94_34, x94_37, x94_38, x94_41, x94_42, x94_43, x94_44, x94_45, x94_48, x94_49, x94_50, x94_53, x94_54, x94_57, x94_58, x94_59, ↓reduceIte, Bool.false_eq_true, Nat.reduceAdd, Nat.reduceLT, Nat.reduceLeDiff, Nat.reduceSub, Nat.reduceEqDiff, Int.reduceToNat, Int.reduceEq, Int.reduceLT, Int.reduceLE, Int.reduceAdd, Int.reduceSub, zg, zI, zJ, zR, zst, zkl, zn, zcat, zok, zraw, List.length_cons, List.length_nil, Option.toList, List.nil_append, List.cons_append, true_and, and_true, if_true, if_false, ne_eq, not_true, not_false_eq_true, and_self, true_or, or_true, false_or, or_false, false_and, and_false, b_2 hc, r_2_9 hc, b_131 hc, hd0, e0, c3, q0, q1, r_131_11 hc, x_136 hc k1 k2, Int.toNat_natCast, eK, q2]
          exact this
theorem rAnnul {D : Nat} {f : Int} (h : MS θ σ s μ) (hd : 11 ≤ D) (hQ : ∀ μ', ML2 μ μ' → MS θ (sAnnul σ f) s μ' → Q (some (vi (vAnnul σ f))) θ μ') : Ex D 279 0 [vr 138, vi f] [] θ μ Q := by
  have hm := h.1.1
  have hd0 : 0 < D := by omega
  have hwV := h.2.1.2.2.2.1
  have h60 := hwV.1
  obtain ⟨e0, ei⟩ := h.2.2.2.2.1
  have hno : ¬ okAn σ f → Q (some (vi (-1))) θ μ := fun hn => by
    have := hQ μ (fun _ _ => rfl) (by unfold sAnnul; rw [if_neg hn]; exact h)
    unfold vAnnul at this
    rwa [if_neg hn] at this
  by_cases q3 : (sV σ).1 = 60
  · have := hno (fun hh => by have := hh.1; omega)
    have c3 : (((sV σ).1 : Nat) : Int) = 60 := by omega
    simp only [x279_0, x279_1, x279_4, x279_6, x279_9, x279_10, x279_11, x279_12, x279_15, x279_16, x279_17, x279_20, x279_23, x279_24, x279_27, x279_28, x279_29, x279_30, x279_33, x279_34, x279_35, x279_36, x279_39, x279_40, x279_43, x279_44, x279_45, x279_46, x279_47, x279_50, x279_51, x279_52, x279_55, x279_56, x279_59, x279_60, x279_61, ↓reduceIte, Bool.false_eq_true, Nat.reduceAdd, Nat.reduceLT, Nat.reduceLeDiff, Nat.reduceSub, Nat.reduceEqDiff, Int.reduceToNat, Int.reduceEq, Int.reduceLT, Int.reduceLE, Int.reduceAdd, Int.reduceSub, zg, zI, zJ, zR, zst, zkl, zn, zcat, zok, zraw, List.length_cons, List.length_nil, Option.toList, List.nil_append, List.cons_append, true_and, and_true, if_true, if_false, ne_eq, not_true, not_false_eq_true, and_self, true_or, or_true, false_or, or_false, false_and, and_false, b_138 hm, e0, c3]
    exact this
  · have c3 : ¬ (((sV σ).1 : Nat) : Int) = 60 := by omega
    have l1 : -2147483648 ≤ (((sV σ).1 : Nat) : Int) - 1 := by omega
    have l2 : (((sV σ).1 : Nat) : Int) - 1 ≤ 2147483647 := by omega
    by_cases q1 : 0 ≤ f ∧ f ≤ (((sV σ).1 : Nat) : Int) - 1
    · obtain ⟨K, rfl⟩ : ∃ K : Nat, f = (K : Int) := ⟨f.toNat, by omega⟩
      have k1 : (0 : Int) ≤ (K : Int) := by omega
      have k2 : (K : Int) < 60 := by omega
      have eK : μ 193 K = (sV σ).2.2.2.2.2 K := (ei K (by omega)).1
      by_cases q2 : (sV σ).2.2.2.2.2 K = -1
      · have ok : okAn σ K := ⟨by omega, ⟨by omega, by omega⟩, by rw [Int.toNat_natCast]; exact q2⟩
        unfold sAnnul vAnnul at hQ
        rw [if_pos ok, if_pos ok] at hQ
        obtain ⟨N, hN⟩ : ∃ N, N = (sV σ).1 := ⟨_, rfl⟩
        rw [← hN] at e0 c3 q1 l1 l2
        have i1 : (0 : Int) ≤ (N : Int) := by omega
        have i2 : (N : Int) < 60 := by omega
        have w1 : N < 2147483647 := by omega
        obtain ⟨μ1, hμ1⟩ : ∃ μ1, μ1 = us (us μ 193 (zup (μ 193) N (K : Int))) 138 (zup (μ 138) 78 ((N + 1 : Nat) : Int)) := ⟨_, rfl⟩
        have F : Fr [138, 193, 194, 195, 196, 197] μ μ1 := by rw [hμ1]; exact Fr.us (by simp) (Fr.us (by simp) Fr.refl)
        have F2 : Fr [138, 193] μ μ1 := by rw [hμ1]; exact Fr.us (by simp) (Fr.us (by simp) Fr.refl)
        have e1 : μ1 138 78 = ((N + 1 : Nat) : Int) := by rw [hμ1, us_same, zup_same rfl]
        have fin := hQ μ1 (MLe_fr F (by decide)) (MS_facts h F (fun j hj => by rw [hμ1, us_same, zup_ne hj]) (anV_w hwV (by omega) ⟨by omega, by omega⟩) ⟨?_, fun i hi => ?_⟩)
        · rw [← hN] at fin
          have ew : w32 (((N + 1 : Nat) : Int) - 1) = (N : Int) := by rw [w32_i (by omega) (by omega)]; omega
          simp only [x279_0, x279_1, x279_4, x279_6, x279_9, x279_10, x279_11, x279_12, x279_15, x279_16, x279_17, x279_20, x279_23, x279_24, x279_27, x279_28, x279_29, x279_30, x279_33, x279_34, x279_35, x279_36, x279_39, x279_40, x279_43, x279_44, x279_45, x279_46, x279_47, x279_50, x279_51, x279_52, x279_55, x279_56, x279_59, x279_60, x279_61, ↓reduceIte, Bool.false_eq_true, Nat.reduceAdd, Nat.reduceLT, Nat.reduceLeDiff, Nat.reduceSub, Nat.reduceEqDiff, Int.reduceToNat, Int.reduceEq, Int.reduceLT, Int.reduceLE, Int.reduceAdd, Int.reduceSub, zg, zI, zJ, zR, zst, zkl, zn, zcat, zok, zraw, List.length_cons, List.length_nil, Option.toList, List.nil_append, List.cons_append, true_and, and_true, if_true, if_false, ne_eq, not_true, not_false_eq_true, and_self, true_or, or_true, false_or, or_false, false_and, and_false, b_138 hm, e0, c3, hd0, w32_i l1 l2, mIn, if_pos q1, r_138_79 hm, x_193 hm k1 k2, x_193 hm i1 i2, Int.toNat_natCast, eK, q2, ua_eq, us_ne (show (138 : Nat) ≠ 193 by decide), w32_s w1, ← hμ1, e1, ew]
          exact fin
        · rw [e1, hN]; rfl
        · have hi' : i < (sV σ).1 + 1 := hi
          show μ1 193 i = zup (sV σ).2.2.2.2.2 (sV σ).1 (K : Int) i ∧ (zup (sV σ).2.2.2.2.2 (sV σ).1 (K : Int) i = -1 → μ1 194 i = (sV σ).2.1 i ∧ μ1 195 i = (sV σ).2.2.1 i ∧ μ1 196 i = (sV σ).2.2.2.1 i ∧ μ1 197 i = (sV σ).2.2.2.2.1 i)
          have e136 : μ1 193 = zup (μ 193) N (K : Int) := by rw [hμ1, us_ne (by decide), us_same]
          rw [F2 194 (by decide), F2 195 (by decide), F2 196 (by decide), F2 197 (by decide), e136, ← hN]
          by_cases e : i = N
          · rw [zup_same e, zup_same e]; exact ⟨rfl, fun hh => by omega⟩
          · rw [zup_ne e, zup_ne e]; exact ei i (by omega)
      · have := hno (fun hh => q2 (by have := hh.2.2; rwa [Int.toNat_natCast] at this))
        simp only [x279_0, x279_1, x279_4, x279_6, x279_9, x279_10, x279_11, x279_12, x279_15, x279_16, x279_17, x279_20, x279_23, x279_24, x279_27, x279_28, x279_29, x279_30, x279_33, x279_34, x279_35, x279_36, x279_39, x279_40, x279_43, x279_44, x279_45, x279_46, x279_47, x279_50, x279_51, x279_52, x279_55, x279_56, x279_59, x279_60, x279_61, ↓reduceIte, Bool.false_eq_true, Nat.reduceAdd, Nat.reduceLT, Nat.reduceLeDiff, Nat.reduceSub, Nat.reduceEqDiff, Int.reduceToNat, Int.reduceEq, Int.reduceLT, Int.reduceLE, Int.reduceAdd, Int.reduceSub, zg, zI, zJ, zR, zst, zkl, zn, zcat, zok, zraw, List.length_cons, List.length_nil, Option.toList, List.nil_append, List.cons_append, true_and, and_true, if_true, if_false, ne_eq, not_true, not_false_eq_true, and_self, true_or, or_true, false_or, or_false, false_and, and_false, b_138 hm, e0, c3, hd0, w32_i l1 l2, mIn, if_pos q1, r_138_79 hm, x_193 hm k1 k2, Int.toNat_natCast, eK, q2]
        exact this
    · have := hno (fun hh => by have := hh.2.1; omega)
      simp only [x279_0, x279_1, x279_4, x279_6, x279_9, x279_10, x279_11, x279_12, x279_15, x279_16, x279_17, x279_20, x279_23, x279_24, x279_27, x279_28, x279_29, x279_30, x279_33, x279_34, x279_35, x279_36, x279_39, x279_40, x279_43, x279_44, x279_45, x279_46, x279_47, x279_50, x279_51, x279_52, x279_55, x279_56, x279_59, x279_60, x279_61, ↓reduceIte, Bool.false_eq_true, Nat.reduceAdd, Nat.reduceLT, Nat.reduceLeDiff, Nat.reduceSub, Nat.reduceEqDiff, Int.reduceToNat, Int.reduceEq, Int.reduceLT, Int.reduceLE, Int.reduceAdd, Int.reduceSub, zg, zI, zJ, zR, zst, zkl, zn, zcat, zok, zraw, List.length_cons, List.length_nil, Option.toList, List.nil_append, List.cons_append, true_and, and_true, if_true, if_false, ne_eq, not_true, not_false_eq_true, and_self, true_or, or_true, false_or, or_false, false_and, and_false, b_138 hm, e0, c3, hd0, w32_i l1 l2, mIn, if_neg q1]
      exact this
end FA
