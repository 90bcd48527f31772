/-! THE CLASS READS: DOORS; any TELL -/
theorem zlc_e {x y : Int} (h : x = y) : zlcmp x y = 0 := by unfold zlcmp; rw [if_neg (by omega), if_pos h]
theorem zlc_n {x y : Int} (h : ¬ x = y) : ¬ zlcmp x y = 0 := by unfold zlcmp; split <;> simp_all
theorem ltO_ltO {F : Option (Nat × Nat)} {k p : Nat} : ltO (ltO F k p) k p = ltO F k p := by cases F <;> rfl
section RD
variable {θ : zS} {Q : Option zV → zS → zM → Prop} {μ μ0 : zM} {K : Nat → Nat} {V W st : Nat → Int} {Z U : Nat} {π : zP}
theorem two_iff {n : Nat} : twO W π n = true ↔ ∃ j, ∃ h : j < (pD π).length, W ((pD π)[j]).1 = W n := by
  unfold twO
  rw [List.any_eq_true]
  constructor
  · rintro ⟨d, hd, h⟩
    obtain ⟨j, hj, e⟩ := List.getElem_of_mem hd
    exact ⟨j, hj, by rw [e]; simpa using h⟩
  · rintro ⟨j, hj, h⟩
    exact ⟨(pD π)[j], List.getElem_mem hj, by simpa using h⟩
theorem cName {d p : Nat} {F : Option (Nat × Nat)} {x2 x3 x4 : zV} (hr : RdC θ U) (hd : 1 ≤ d) (hT : TK K V W st Z μ) (hp : p ≤ Z) (h3 : μ 60 3 = (p : Nat)) (hF : LF F st μ) (hD : (pD π).length < 6)
    (hW : ∀ k (h : k < (pD π).length), μ (U + 4) k = W ((pD π)[k]).1)
    (hQ : match (expG K 3 p () : pR Unit) with
      | .inl e => ∀ μ', Fr [60, U + 4] μ μ' → μ' 60 4 = (e.1 : Nat) → μ' 60 0 = st e.2 → Q (some (vi 0)) θ μ'
      | .inr x => ∀ μ', Fr [60, U + 4] μ μ' → μ' 60 3 = (x.1 : Nat) → μ' 60 4 = μ 60 4 → LF (if twO W π p = true then ltO F 3 p else F) st μ' → μ' (U + 4) = zup (μ (U + 4)) (pD π).length (W p) → Q (some (vi 1)) θ μ') : Ex d 49 0 [vr 60, vi ((pD π).length : Nat), x2, x3, x4] [] θ μ Q := by
  have hr' := hr
  obtain ⟨hc, hU, hu, h60⟩ := hr'
  have hd0 : 0 < d := by omega
  have hz := hT.1.1
  have e4 := (hT.2.2.2 p hp).1
  have i1 : (0 : Int) ≤ (p : Int) := by omega
  have i2 : (p : Int) < 401 := by omega
  unfold expG at hQ
  by_cases k3 : K p = 3
  · rw [if_pos k3] at hQ
    have k3' : ((K p : Nat) : Int) = 3 := by omega
    have e6 := (hT.2.2.2 p hp).2.2.2 k3
    rw [k3'] at e4
    have key : ∀ i L μ1, i ≤ (pD π).length → (L = [vr 60, vi ((pD π).length : Nat), vl (W p), vU, vi (i : Nat)] ∧ Fr [60] μ μ1 ∧ (∀ j, j ≠ 5 → j ≠ 6 → μ1 60 j = μ 60 j) ∧ ∃ b : Bool, (b = true ↔ ∃ j, ∃ h : j < (pD π).length, j < i ∧ W ((pD π)[j]).1 = W p) ∧ LF (if b = true then ltO F 3 p else F) st μ1) → Ex d 49 38 L [] θ μ1 Q := by
      refine Ex_loop (I := fun i L μ1 => L = [vr 60, vi ((pD π).length : Nat), vl (W p), vU, vi (i : Nat)] ∧ Fr [60] μ μ1 ∧ (∀ j, j ≠ 5 → j ≠ 6 → μ1 60 j = μ 60 j) ∧ ∃ b : Bool, (b = true ↔ ∃ j, ∃ h : j < (pD π).length, j < i ∧ W ((pD π)[j]).1 = W p) ∧ LF (if b = true then ltO F 3 p else F) st μ1) (pD π).length ?_ ?_
      · rintro i L μ1 hi ⟨rfl, hf, hj, b, hb, hL⟩ hk
        have j1 : (0 : Int) ≤ (i : Int) := by omega
        have j2 : (i : Int) < 6 := by omega
        have j3 : ¬ (((pD π).length : Nat) : Int) ≤ (i : Int) := by omega
        have hi1 : i < 2147483647 := by omega
        have eW : μ1 (U + 4) i = W ((pD π)[i]).1 := by rw [hf (U + 4) (by simp; omega)]; exact hW i hi
        have T1 := TK_60 hT hf
        have h31 : μ1 60 3 = (p : Nat) := by rw [hj 3 (by decide) (by decide)]; exact h3
        rw [x49_38]
        by_cases hw : W ((pD π)[i]).1 = W p
        · simp only [x49_0, x49_1, x49_4, x49_7, x49_8, x49_11, x49_12, x49_13, x49_16, x49_17, x49_18, x49_21, x49_22, x49_23, x49_26, x49_29, x49_30, x49_33, x49_34, x49_35, x49_36, x49_40, x49_41, x49_44, x49_45, x49_48, x49_51, x49_53, x49_54, x49_55, x49_56, x49_59, x49_60, x49_61, x49_64, x49_67, x49_70, x49_71, x49_74, x49_77, x49_78, x49_79, x49_80, x49_81, x49_84, ↓reduceIte, Bool.false_eq_true, Nat.reduceAdd, Nat.reduceLT, Nat.reduceLeDiff, Nat.reduceSub, Nat.reduceEqDiff, Int.reduceToNat, Int.reduceEq, Int.reduceLT, Int.reduceLE, Int.reduceAdd, Int.reduceSub, zg, zI, zJ, zR, zst, zkl, zn, zcat, zok, zraw, List.length_cons, List.length_nil, Option.toList, List.nil_append, List.cons_append, true_and, and_true, if_true, if_false, ne_eq, not_true, not_false_eq_true, and_self, true_or, or_true, false_or, or_false, false_and, and_false, b_2 hc, b_3 hc, b_9 hc, b_12 hc, b_26 hc, b_40 hc, b_46 hc, b_47 hc, b_60 hc, b_62 hc, b_63 hc, b_76 hc, b_77 hc, b_90 hc, b_91 hc, b_104 hc, b_107 hc, b_114 hc, b_115 hc, b_122 hc, b_123 hc, b_131 hc, b_60 hc, r_60_1 hc, h60, tb hU, tr_3 hU, tx_4 hU j1 j2, Nat.le_add_right_of_le (Tq2 hU), eW, j3, zlc_e hw, Int.toNat_natCast, hd0]
          refine cNote (d := d - 1) (k := 3) (F := if b = true then ltO F 3 p else F) hr T1 hp h31 hL (by decide) (fun μ2 f2 g2 gL => ?_)
          simp only [x49_0, x49_1, x49_4, x49_7, x49_8, x49_11, x49_12, x49_13, x49_16, x49_17, x49_18, x49_21, x49_22, x49_23, x49_26, x49_29, x49_30, x49_33, x49_34, x49_35, x49_36, x49_40, x49_41, x49_44, x49_45, x49_48, x49_51, x49_53, x49_54, x49_55, x49_56, x49_59, x49_60, x49_61, x49_64, x49_67, x49_70, x49_71, x49_74, x49_77, x49_78, x49_79, x49_80, x49_81, x49_84, ↓reduceIte, Bool.false_eq_true, Nat.reduceAdd, Nat.reduceLT, Nat.reduceLeDiff, Nat.reduceSub, Nat.reduceEqDiff, Int.reduceToNat, Int.reduceEq, Int.reduceLT, Int.reduceLE, Int.reduceAdd, Int.reduceSub, zg, zI, zJ, zR, zst, zkl, zn, zcat, zok, zraw, List.length_cons, List.length_nil, Option.toList, List.nil_append, List.cons_append, true_and, and_true, if_true, if_false, ne_eq, not_true, not_false_eq_true, and_self, true_or, or_true, false_or, or_false, false_and, and_false, w32_s hi1]
          refine hk _ _ ⟨rfl, hf.trans f2, fun j a c => (g2 j a c).trans (hj j a c), true, ⟨fun _ => ⟨i, hi, by omega, hw⟩, fun _ => rfl⟩, ?_⟩
          rw [if_pos rfl]
          cases b with
          | true => rw [if_pos rfl, ltO_ltO] at gL; exact gL
          | false => rw [if_neg (by decide)] at gL; exact gL
        · simp only [x49_0, x49_1, x49_4, x49_7, x49_8, x49_11, x49_12, x49_13, x49_16, x49_17, x49_18, x49_21, x49_22, x49_23, x49_26, x49_29, x49_30, x49_33, x49_34, x49_35, x49_36, x49_40, x49_41, x49_44, x49_45, x49_48, x49_51, x49_53, x49_54, x49_55, x49_56, x49_59, x49_60, x49_61, x49_64, x49_67, x49_70, x49_71, x49_74, x49_77, x49_78, x49_79, x49_80, x49_81, x49_84, ↓reduceIte, Bool.false_eq_true, Nat.reduceAdd, Nat.reduceLT, Nat.reduceLeDiff, Nat.reduceSub, Nat.reduceEqDiff, Int.reduceToNat, Int.reduceEq, Int.reduceLT, Int.reduceLE, Int.reduceAdd, Int.reduceSub, zg, zI, zJ, zR, zst, zkl, zn, zcat, zok, zraw, List.length_cons, List.length_nil, Option.toList, List.nil_append, List.cons_append, true_and, and_true, if_true, if_false, ne_eq, not_true, not_false_eq_true, and_self, true_or, or_true, false_or, or_false, false_and, and_false, b_2 hc, b_3 hc, b_9 hc, b_12 hc, b_26 hc, b_40 hc, b_46 hc, b_47 hc, b_60 hc, b_62 hc, b_63 hc, b_76 hc, b_77 hc, b_90 hc, b_91 hc, b_104 hc, b_107 hc, b_114 hc, b_115 hc, b_122 hc, b_123 hc, b_131 hc, b_60 hc, r_60_1 hc, h60, tb hU, tr_3 hU, tx_4 hU j1 j2, Nat.le_add_right_of_le (Tq2 hU), eW, j3, zlc_n hw, Int.toNat_natCast, w32_s hi1, hd0]
          refine hk _ _ ⟨rfl, hf, hj, b, ?_, hL⟩
          rw [hb]
          constructor
          · rintro ⟨j, h1, h2, h4⟩; exact ⟨j, h1, by omega, h4⟩
          · rintro ⟨j, h1, h2, h4⟩
            by_cases q : j < i
            · exact ⟨j, h1, q, h4⟩
            · have : j = i := by omega
              subst this; exact absurd h4 hw
      · rintro L μ1 ⟨rfl, hf, hj, b, hb, hL⟩
        have ebt : b = twO W π p := by
          rw [Bool.eq_iff_iff, hb, two_iff]
          constructor
          · rintro ⟨j, h1, _, h4⟩; exact ⟨j, h1, h4⟩
          · rintro ⟨j, h1, h4⟩; exact ⟨j, h1, h1, h4⟩
        rw [ebt] at hL
        have j1 : (0 : Int) ≤ (((pD π).length : Nat) : Int) := by omega
        have j2 : (((pD π).length : Nat) : Int) < 6 := by omega
        have T1 := TK_60 hT hf
        have h31 : μ1 60 3 = (p : Nat) := by rw [hj 3 (by decide) (by decide)]; exact h3
        rw [x49_38]
        simp only [x49_0, x49_1, x49_4, x49_7, x49_8, x49_11, x49_12, x49_13, x49_16, x49_17, x49_18, x49_21, x49_22, x49_23, x49_26, x49_29, x49_30, x49_33, x49_34, x49_35, x49_36, x49_40, x49_41, x49_44, x49_45, x49_48, x49_51, x49_53, x49_54, x49_55, x49_56, x49_59, x49_60, x49_61, x49_64, x49_67, x49_70, x49_71, x49_74, x49_77, x49_78, x49_79, x49_80, x49_81, x49_84, ↓reduceIte, Bool.false_eq_true, Nat.reduceAdd, Nat.reduceLT, Nat.reduceLeDiff, Nat.reduceSub, Nat.reduceEqDiff, Int.reduceToNat, Int.reduceEq, Int.reduceLT, Int.reduceLE, Int.reduceAdd, Int.reduceSub, zg, zI, zJ, zR, zst, zkl, zn, zcat, zok, zraw, List.length_cons, List.length_nil, Option.toList, List.nil_append, List.cons_append, true_and, and_true, if_true, if_false, ne_eq, not_true, not_false_eq_true, and_self, true_or, or_true, false_or, or_false, false_and, and_false, b_2 hc, b_3 hc, b_9 hc, b_12 hc, b_26 hc, b_40 hc, b_46 hc, b_47 hc, b_60 hc, b_62 hc, b_63 hc, b_76 hc, b_77 hc, b_90 hc, b_91 hc, b_104 hc, b_107 hc, b_114 hc, b_115 hc, b_122 hc, b_123 hc, b_131 hc, b_60 hc, r_60_1 hc, h60, tb hU, tr_3 hU, tx_4 hU j1 j2, Nat.le_add_right_of_le (Tq2 hU), Int.le_refl, Int.toNat_natCast, ua_eq, hd0]
        have n1 : 60 ≠ U + 4 := by omega
        have f2 : Fr [60, U + 4] μ (us μ1 (U + 4) (zup (μ1 (U + 4)) (pD π).length (W p))) := Fr.us (by simp) (hf.mono (by simp))
        have T2 : TK K V W st Z (us μ1 (U + 4) (zup (μ1 (U + 4)) (pD π).length (W p))) := TK_T hr T1 (Fr.us (by unfold RA; simp) Fr.refl)
        refine cPass (d := d - 1) hr T2 hp (by rw [us_ne n1]; exact h31) (fun h4 => ?_) (fun h4 μ2 g2 g4 g0 => ?_)
        · rw [nx_lt h4] at hQ
          simp only [x49_0, x49_1, x49_4, x49_7, x49_8, x49_11, x49_12, x49_13, x49_16, x49_17, x49_18, x49_21, x49_22, x49_23, x49_26, x49_29, x49_30, x49_33, x49_34, x49_35, x49_36, x49_40, x49_41, x49_44, x49_45, x49_48, x49_51, x49_53, x49_54, x49_55, x49_56, x49_59, x49_60, x49_61, x49_64, x49_67, x49_70, x49_71, x49_74, x49_77, x49_78, x49_79, x49_80, x49_81, x49_84, ↓reduceIte, Bool.false_eq_true, Nat.reduceAdd, Nat.reduceLT, Nat.reduceLeDiff, Nat.reduceSub, Nat.reduceEqDiff, Int.reduceToNat, Int.reduceEq, Int.reduceLT, Int.reduceLE, Int.reduceAdd, Int.reduceSub, zg, zI, zJ, zR, zst, zkl, zn, zcat, zok, zraw, List.length_cons, List.length_nil, Option.toList, List.nil_append, List.cons_append, true_and, and_true, if_true, if_false, ne_eq, not_true, not_false_eq_true, and_self, true_or, or_true, false_or, or_false, false_and, and_false]
          refine hQ _ (Fr.us (by simp) f2) (by rw [us_same, zup_same rfl]) ?_ ?_ ?_
          · rw [us_same, zup_ne (by decide), us_ne n1]; exact hj 4 (by decide) (by decide)
          · exact LF_fr hL (by rw [us_same, zup_ne (by decide), us_ne n1]) (by rw [us_same, zup_ne (by decide), us_ne n1])
          · rw [us_ne (by omega), us_same, hf (U + 4) (by simp; omega)]
        · rw [nx_ge h4] at hQ
          simp only [x49_0, x49_1, x49_4, x49_7, x49_8, x49_11, x49_12, x49_13, x49_16, x49_17, x49_18, x49_21, x49_22, x49_23, x49_26, x49_29, x49_30, x49_33, x49_34, x49_35, x49_36, x49_40, x49_41, x49_44, x49_45, x49_48, x49_51, x49_53, x49_54, x49_55, x49_56, x49_59, x49_60, x49_61, x49_64, x49_67, x49_70, x49_71, x49_74, x49_77, x49_78, x49_79, x49_80, x49_81, x49_84, ↓reduceIte, Bool.false_eq_true, Nat.reduceAdd, Nat.reduceLT, Nat.reduceLeDiff, Nat.reduceSub, Nat.reduceEqDiff, Int.reduceToNat, Int.reduceEq, Int.reduceLT, Int.reduceLE, Int.reduceAdd, Int.reduceSub, zg, zI, zJ, zR, zst, zkl, zn, zcat, zok, zraw, List.length_cons, List.length_nil, Option.toList, List.nil_append, List.cons_append, true_and, and_true, if_true, if_false, ne_eq, not_true, not_false_eq_true, and_self, true_or, or_true, false_or, or_false, false_and, and_false]
          exact hQ μ2 (f2.trans (g2.mono (by simp))) g4 g0
    simp only [x49_0, x49_1, x49_4, x49_7, x49_8, x49_11, x49_12, x49_13, x49_16, x49_17, x49_18, x49_21, x49_22, x49_23, x49_26, x49_29, x49_30, x49_33, x49_34, x49_35, x49_36, x49_40, x49_41, x49_44, x49_45, x49_48, x49_51, x49_53, x49_54, x49_55, x49_56, x49_59, x49_60, x49_61, x49_64, x49_67, x49_70, x49_71, x49_74, x49_77, x49_78, x49_79, x49_80, x49_81, x49_84, ↓reduceIte, Bool.false_eq_true, Nat.reduceAdd, Nat.reduceLT, Nat.reduceLeDiff, Nat.reduceSub, Nat.reduceEqDiff, Int.reduceToNat, Int.reduceEq, Int.reduceLT, Int.reduceLE, Int.reduceAdd, Int.reduceSub, zg, zI, zJ, zR, zst, zkl, zn, zcat, zok, zraw, List.length_cons, List.length_nil, Option.toList, List.nil_append, List.cons_append, true_and, and_true, if_true, if_false, ne_eq, not_true, not_false_eq_true, and_self, true_or, or_true, false_or, or_false, false_and, and_false, b_2 hc, b_3 hc, b_9 hc, b_12 hc, b_26 hc, b_40 hc, b_46 hc, b_47 hc, b_60 hc, b_62 hc, b_63 hc, b_76 hc, b_77 hc, b_90 hc, b_91 hc, b_104 hc, b_107 hc, b_114 hc, b_115 hc, b_122 hc, b_123 hc, b_131 hc, b_3 hc, r_3_0 hc, x_4 hc, r_3_1 hc, x_5 hc, r_3_2 hc, x_6 hc, r_3_4 hc, x_7 hc, n_7 hc, r_3_5 hc, x_8 hc, b_60 hc, r_60_1 hc, x_4 hc i1 i2, x_6 hc i1 i2, h3, e4, e6, Int.toNat_natCast]
    exact key 0 _ _ (by omega) ⟨rfl, Fr.refl, fun _ _ _ => rfl, false, ⟨fun hh => (by cases hh), fun ⟨j, _, h, _⟩ => (by omega)⟩, by rw [if_neg (by decide)]; exact hF⟩
  · rw [if_neg k3] at hQ
    have k3' : ¬ ((K p : Nat) : Int) = 3 := by omega
    simp only [x49_0, x49_1, x49_4, x49_7, x49_8, x49_11, x49_12, x49_13, x49_16, x49_17, x49_18, x49_21, x49_22, x49_23, x49_26, x49_29, x49_30, x49_33, x49_34, x49_35, x49_36, x49_40, x49_41, x49_44, x49_45, x49_48, x49_51, x49_53, x49_54, x49_55, x49_56, x49_59, x49_60, x49_61, x49_64, x49_67, x49_70, x49_71, x49_74, x49_77, x49_78, x49_79, x49_80, x49_81, x49_84, ↓reduceIte, Bool.false_eq_true, Nat.reduceAdd, Nat.reduceLT, Nat.reduceLeDiff, Nat.reduceSub, Nat.reduceEqDiff, Int.reduceToNat, Int.reduceEq, Int.reduceLT, Int.reduceLE, Int.reduceAdd, Int.reduceSub, zg, zI, zJ, zR, zst, zkl, zn, zcat, zok, zraw, List.length_cons, List.length_nil, Option.toList, List.nil_append, List.cons_append, true_and, and_true, if_true, if_false, ne_eq, not_true, not_false_eq_true, and_self, true_or, or_true, false_or, or_false, false_and, and_false, b_2 hc, b_3 hc, b_9 hc, b_12 hc, b_26 hc, b_40 hc, b_46 hc, b_47 hc, b_60 hc, b_62 hc, b_63 hc, b_76 hc, b_77 hc, b_90 hc, b_91 hc, b_104 hc, b_107 hc, b_114 hc, b_115 hc, b_122 hc, b_123 hc, b_131 hc, b_3 hc, r_3_0 hc, x_4 hc, r_3_1 hc, x_5 hc, r_3_2 hc, x_6 hc, r_3_4 hc, x_7 hc, n_7 hc, r_3_5 hc, x_8 hc, b_60 hc, r_60_1 hc, x_4 hc i1 i2, h3, e4, Int.toNat_natCast, k3', hd0]
    refine cRefuse (d := d - 1) hr hT hp h3 (fun μ2 f2 g4 g0 => ?_)
    simp only [x49_0, x49_1, x49_4, x49_7, x49_8, x49_11, x49_12, x49_13, x49_16, x49_17, x49_18, x49_21, x49_22, x49_23, x49_26, x49_29, x49_30, x49_33, x49_34, x49_35, x49_36, x49_40, x49_41, x49_44, x49_45, x49_48, x49_51, x49_53, x49_54, x49_55, x49_56, x49_59, x49_60, x49_61, x49_64, x49_67, x49_70, x49_71, x49_74, x49_77, x49_78, x49_79, x49_80, x49_81, x49_84, ↓reduceIte, Bool.false_eq_true, Nat.reduceAdd, Nat.reduceLT, Nat.reduceLeDiff, Nat.reduceSub, Nat.reduceEqDiff, Int.reduceToNat, Int.reduceEq, Int.reduceLT, Int.reduceLE, Int.reduceAdd, Int.reduceSub, zg, zI, zJ, zR, zst, zkl, zn, zcat, zok, zraw, List.length_cons, List.length_nil, Option.toList, List.nil_append, List.cons_append, true_and, and_true, if_true, if_false, ne_eq, not_true, not_false_eq_true, and_self, true_or, or_true, false_or, or_false, false_and, and_false]
    exact hQ μ2 (f2.mono (by simp)) g4 g0
theorem or_b6 : ∀ t : Fin 6, ∀ w : Fin 64, w.val < 2 ^ t.val → zor (w.val : Int) (zshl 1 (t.val : Int)) = ((w.val + 2 ^ t.val : Nat) : Int) := or_bits
/-- a DOOR more -/
theorem PM_D {cs : Nat} {μ' : zM} {n : Nat} {a b o : Int} (hr : RdC θ U) (h : PM W U cs π μ) (hl : (pD π).length < 6) (hf : ∀ x, x ≠ U → x ≠ U + 2 → x ≠ U + 3 → x ≠ U + 4 → x ≠ 60 → μ' x = μ x)
    (h2 : μ' (U + 2) = zup (μ (U + 2)) (pD π).length a) (h3 : μ' (U + 3) = zup (μ (U + 3)) (pD π).length b) (h4 : μ' (U + 4) = zup (μ (U + 4)) (pD π).length (W n))
    (h14 : μ' U 14 = (((pD π).length + 1 : Nat) : Int)) (h15 : (o = 0 ∧ μ' U 15 = μ U 15) ∨ (o = 1 ∧ μ' U 15 = zor (μ U 15) (zshl 1 ((pD π).length : Nat)))) (h16 : μ' U 16 = μ U 16) : PM W U cs (upD π (n, a, b, o)) μ' := by
  have hu := hr.2.2.1
  obtain ⟨g1, ⟨g2, ⟨g20, g21⟩, g22⟩, g3, g4, g5⟩ := h
  have e : ∀ k, k ≠ 0 → k ≠ 2 → k ≠ 3 → k ≠ 4 → k ≤ 10 → μ' (U + k) = μ (U + k) := fun k k0 k6 k7 k8 k10 => hf _ (by omega) (by omega) (by omega) (by omega) (by omega)
  obtain ⟨w, hw⟩ : ∃ w : Nat, μ U 15 = (w : Int) := ⟨(μ U 15).toNat, by omega⟩
  have hwl : w < 2 ^ (pD π).length := by omega
  have hp6 : 2 ^ (pD π).length ≤ 2 ^ 5 := Nat.pow_le_pow_right (by decide) (by omega)
  have hw64 : w < 64 := Nat.lt_of_lt_of_le hwl (Nat.le_trans hp6 (by decide))
  have e15 : μ' U 15 = ((w + (if o = 1 then 2 ^ (pD π).length else 0) : Nat) : Int) := by
    rcases h15 with ⟨ho, h⟩ | ⟨ho, h⟩
    · rw [h, hw, if_neg (by omega)]; simp
    · rw [h, hw, if_pos ho]
      exact or_bits ⟨(pD π).length, hl⟩ ⟨w, hw64⟩ hwl
  refine ⟨?_, ⟨?_, ?_, ?_⟩, ?_, ?_, ?_⟩
  · rw [e 1 (by omega) (by omega) (by omega) (by omega) (by omega)]; exact g1
  · rw [h14]; simp [upD, pD]
  · have el : (pD (upD π (n, a, b, o))).length = (pD π).length + 1 := by simp [upD, pD]
    rw [el, e15, Nat.pow_succ]
    refine ⟨by omega, ?_⟩
    have : (if o = 1 then 2 ^ (pD π).length else 0) ≤ 2 ^ (pD π).length := by
      by_cases ho : o = 1
      · rw [if_pos ho]; exact Nat.le_refl _
      · rw [if_neg ho]; exact Nat.zero_le _
    omega
  · intro k hk
    have el : (pD (upD π (n, a, b, o))).length = (pD π).length + 1 := by simp [upD, pD]
    have ed : pD (upD π (n, a, b, o)) = pD π ++ [(n, a, b, o)] := rfl
    rw [h2, h3, h4]
    by_cases kl : k < (pD π).length
    · have eg : (pD (upD π (n, a, b, o)))[k] = (pD π)[k] := by simp only [ed]; exact List.getElem_append_left kl
      rw [eg, zup_ne (by omega), zup_ne (by omega), zup_ne (by omega)]
      refine ⟨(g22 k kl).1, ?_⟩
      have old := (g22 k kl).2
      rw [hw] at old
      rw [e15]
      by_cases ho : o = 1
      · rw [if_pos ho]
        have := ad_bits ⟨(pD π).length, hl⟩ ⟨w, hw64⟩ ⟨k, by omega⟩ hwl (by simp only; omega)
        simp only at this
        rw [this, if_neg (by omega)]; exact old
      · rw [if_neg ho, Nat.add_zero]; exact old
    · have hkl : k = (pD π).length := by omega
      subst hkl
      have eg : (pD (upD π (n, a, b, o)))[(pD π).length] = (n, a, b, o) := by simp only [ed]; simp
      rw [eg, zup_same rfl, zup_same rfl, zup_same rfl]
      refine ⟨⟨rfl, rfl, rfl⟩, ?_⟩
      rw [e15]
      rcases h15 with ⟨ho, _⟩ | ⟨ho, _⟩
      · rw [if_neg (by omega), Nat.add_zero]
        have := no_bits ⟨(pD π).length, hl⟩ ⟨w, hw64⟩ hwl
        simp only at this
        rw [this]; exact ho.symm
      · rw [if_pos ho]
        have := ad_bits ⟨(pD π).length, hl⟩ ⟨w, hw64⟩ ⟨(pD π).length, hl⟩ hwl (Nat.le_refl _)
        simp only [if_true] at this
        rw [this]; exact ho.symm
  · rw [e 5 (by omega) (by omega) (by omega) (by omega) (by omega), e 6 (by omega) (by omega) (by omega) (by omega) (by omega), e 7 (by omega) (by omega) (by omega) (by omega) (by omega)]; exact g3
  · rw [e 5 (by omega) (by omega) (by omega) (by omega) (by omega), e 8 (by omega) (by omega) (by omega) (by omega) (by omega), e 9 (by omega) (by omega) (by omega) (by omega) (by omega), e 10 (by omega) (by omega) (by omega) (by omega) (by omega)]; exact g4
  · rw [h16]; exact g5
end RD
