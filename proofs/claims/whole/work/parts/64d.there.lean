/-! CALLS that change the roof (64d.there) -/
section CR
variable {θ : zS} {T U : Nat} {σ : zSt} {Q : Option zV → zS → zM → Prop} {μ : zM} {s : Nat}
/-- there -/
abbrev okThere (σ : zSt) (t b : Int) : Prop := (0 ≤ t ∧ t < (tn (sT σ) : Int)) ∧ (gR (sG σ)).1 0 t.toNat ≠ b
def sThere (σ : zSt) (t b : Int) : zSt := if okThere σ t b then stR σ (mkF (gR (sG σ)) 0 t.toNat b) else σ
def vThere (σ : zSt) (t b : Int) : Int := if okThere σ t b then 1 else 0
theorem kThere {d : Nat} {t b : Int} {x3 : zV} (h : CS θ T U σ μ) (hd : 7 ≤ d) (hb : b = 0 ∨ b = 1) (hQ : ∀ μ', CL μ μ' → CS θ T U (sThere σ t b) μ' → Q (some (vi (vThere σ t b))) θ μ') : Ex d 108 0 [vr 2, vi t, vi b, x3] [] θ μ Q := by
  have hc := h.1.1.1
  have hd0 : 0 < d := by omega
  have hn := tn_b h.1.2.1
  have hno : ¬ okThere σ t b → Q (some (vi 0)) θ μ := fun hn => by
    have := hQ μ (fun _ _ => rfl) (by unfold sThere; rw [if_neg hn]; exact h)
    unfold vThere at this
    rwa [if_neg hn] at this
  by_cases q0 : 0 ≤ t ∧ t < (tn (sT σ) : Int)
  · obtain ⟨N, rfl⟩ : ∃ N : Nat, t = (N : Int) := ⟨t.toNat, by omega⟩
    have hN : N < tn (sT σ) := by omega
    have e0 : μ 49 N = (gR (sG σ)).1 0 N := h.2.2.1.1.2.2.2.1 0 N (by omega) hN
    by_cases q1 : (gR (sG σ)).1 0 N = b
    · have hno' := hno (fun hh => hh.2 (by rw [Int.toNat_natCast]; exact q1))
      rcases hb with rfl | rfl <;> simp (disch := omega) only [x108_0, x108_1, x108_2, x108_5, x108_8, x108_9, x108_10, x108_11, x108_14, x108_15, x108_18, x108_19, x108_20, x108_21, x108_24, x108_27, x108_30, x108_31, x108_32, x108_33, x108_34, x108_35, x108_38, x108_39, x108_40, x108_41, x108_44, x108_47, x108_50, x108_51, x108_52, x108_53, x108_54, x108_55, x108_56, x108_59, x108_60, ↓reduceIte, Bool.false_eq_true, Nat.reduceAdd, Nat.reduceLT, Nat.reduceLeDiff, Nat.reduceSub, Nat.reduceEqDiff, Int.reduceToNat, Int.reduceEq, Int.reduceLT, Int.reduceLE, Int.reduceAdd, Int.reduceSub, zg, zI, zJ, zR, zst, zkl, zn, zcat, zok, zraw, List.length_cons, List.length_nil, Option.toList, List.nil_append, List.cons_append, true_and, and_true, if_true, if_false, ne_eq, not_true, not_false_eq_true, and_self, true_or, or_true, false_or, or_false, false_and, and_false, b_2 hc, b_3 hc, b_9 hc, b_12 hc, b_26 hc, b_40 hc, b_46 hc, b_47 hc, b_60 hc, b_62 hc, b_63 hc, b_76 hc, b_77 hc, b_90 hc, b_91 hc, b_104 hc, b_107 hc, b_114 hc, b_115 hc, b_122 hc, b_123 hc, b_131 hc, b_2 hc, r_2_0 hc, r_2_1 hc, r_2_2 hc, r_2_3 hc, r_2_4 hc, r_2_5 hc, x_61 hc, n_61 hc, r_2_6 hc, r_2_7 hc, r_2_8 hc, r_2_9 hc, b_46 hc, r_46_0 hc, r_46_1 hc, x_54 hc, r_46_2 hc, x_55 hc, r_46_3 hc, x_56 hc, r_46_4 hc, x_57 hc, r_46_5 hc, x_58 hc, r_46_6 hc, x_59 hc, b_47 hc, r_47_0 hc, x_48 hc, n_48 hc, x_48 hc, n_48 hc, r_48_0 hc, x_49 hc, r_48_1 hc, x_50 hc, r_48_2 hc, x_51 hc, r_48_3 hc, x_52 hc, r_48_4 hc, x_53 hc, cIsTile _ h.1, hd0, q0, Int.toNat_natCast, e0, q1] <;> exact hno'
    · have ok : okThere σ N b := ⟨q0, by rw [Int.toNat_natCast]; exact q1⟩
      have hok : ∀ {μ'}, CL μ μ' → CS θ T U (stR σ (mkF (gR (sG σ)) 0 N b)) μ' → Q (some (vi 1)) θ μ' := fun h1 h2 => by
        have := hQ _ h1 (by unfold sThere; rw [if_pos ok, Int.toNat_natCast]; exact h2)
        unfold vThere at this
        rwa [if_pos ok] at this
      rcases hb with rfl | rfl
      all_goals
        simp (disch := omega) only [x108_0, x108_1, x108_2, x108_5, x108_8, x108_9, x108_10, x108_11, x108_14, x108_15, x108_18, x108_19, x108_20, x108_21, x108_24, x108_27, x108_30, x108_31, x108_32, x108_33, x108_34, x108_35, x108_38, x108_39, x108_40, x108_41, x108_44, x108_47, x108_50, x108_51, x108_52, x108_53, x108_54, x108_55, x108_56, x108_59, x108_60, ↓reduceIte, Bool.false_eq_true, Nat.reduceAdd, Nat.reduceLT, Nat.reduceLeDiff, Nat.reduceSub, Nat.reduceEqDiff, Int.reduceToNat, Int.reduceEq, Int.reduceLT, Int.reduceLE, Int.reduceAdd, Int.reduceSub, zg, zI, zJ, zR, zst, zkl, zn, zcat, zok, zraw, List.length_cons, List.length_nil, Option.toList, List.nil_append, List.cons_append, true_and, and_true, if_true, if_false, ne_eq, not_true, not_false_eq_true, and_self, true_or, or_true, false_or, or_false, false_and, and_false, b_2 hc, b_3 hc, b_9 hc, b_12 hc, b_26 hc, b_40 hc, b_46 hc, b_47 hc, b_60 hc, b_62 hc, b_63 hc, b_76 hc, b_77 hc, b_90 hc, b_91 hc, b_104 hc, b_107 hc, b_114 hc, b_115 hc, b_122 hc, b_123 hc, b_131 hc, b_2 hc, r_2_0 hc, r_2_1 hc, r_2_2 hc, r_2_3 hc, r_2_4 hc, r_2_5 hc, x_61 hc, n_61 hc, r_2_6 hc, r_2_7 hc, r_2_8 hc, r_2_9 hc, b_46 hc, r_46_0 hc, r_46_1 hc, x_54 hc, r_46_2 hc, x_55 hc, r_46_3 hc, x_56 hc, r_46_4 hc, x_57 hc, r_46_5 hc, x_58 hc, r_46_6 hc, x_59 hc, b_47 hc, r_47_0 hc, x_48 hc, n_48 hc, x_48 hc, n_48 hc, r_48_0 hc, x_49 hc, r_48_1 hc, x_50 hc, r_48_2 hc, x_51 hc, r_48_3 hc, x_52 hc, r_48_4 hc, x_53 hc, cIsTile _ h.1, hd0, q0, Int.toNat_natCast, e0, q1, ua_eq]
        refine cForgetPlans (d := d - 1) hc (by omega) ?_
        intro μ1 hf p9 p10 p4
        simp (disch := omega) only [x108_0, x108_1, x108_2, x108_5, x108_8, x108_9, x108_10, x108_11, x108_14, x108_15, x108_18, x108_19, x108_20, x108_21, x108_24, x108_27, x108_30, x108_31, x108_32, x108_33, x108_34, x108_35, x108_38, x108_39, x108_40, x108_41, x108_44, x108_47, x108_50, x108_51, x108_52, x108_53, x108_54, x108_55, x108_56, x108_59, x108_60, ↓reduceIte, Bool.false_eq_true, Nat.reduceAdd, Nat.reduceLT, Nat.reduceLeDiff, Nat.reduceSub, Nat.reduceEqDiff, Int.reduceToNat, Int.reduceEq, Int.reduceLT, Int.reduceLE, Int.reduceAdd, Int.reduceSub, zg, zI, zJ, zR, zst, zkl, zn, zcat, zok, zraw, List.length_cons, List.length_nil, Option.toList, List.nil_append, List.cons_append, true_and, and_true, if_true, if_false, ne_eq, not_true, not_false_eq_true, and_self, true_or, or_true, false_or, or_false, false_and, and_false, b_2 hc, b_3 hc, b_9 hc, b_12 hc, b_26 hc, b_40 hc, b_46 hc, b_47 hc, b_60 hc, b_62 hc, b_63 hc, b_76 hc, b_77 hc, b_90 hc, b_91 hc, b_104 hc, b_107 hc, b_114 hc, b_115 hc, b_122 hc, b_123 hc, b_131 hc]
        refine hok ?_ ?_
        · intro a ha
          rw [hf a (by simp; omega), us_ne (by omega)]
        · refine CS_mark h (by decide) hN (fun _ => by omega) (by omega) (fun a ha => ?_) ?_ p9 p10 p4
          · simp at ha
            rw [hf a (by simp; omega), us_ne (by omega)]
          · rw [hf _ (by decide)]; exact us_same
  · simp (disch := omega) only [x108_0, x108_1, x108_2, x108_5, x108_8, x108_9, x108_10, x108_11, x108_14, x108_15, x108_18, x108_19, x108_20, x108_21, x108_24, x108_27, x108_30, x108_31, x108_32, x108_33, x108_34, x108_35, x108_38, x108_39, x108_40, x108_41, x108_44, x108_47, x108_50, x108_51, x108_52, x108_53, x108_54, x108_55, x108_56, x108_59, x108_60, ↓reduceIte, Bool.false_eq_true, Nat.reduceAdd, Nat.reduceLT, Nat.reduceLeDiff, Nat.reduceSub, Nat.reduceEqDiff, Int.reduceToNat, Int.reduceEq, Int.reduceLT, Int.reduceLE, Int.reduceAdd, Int.reduceSub, zg, zI, zJ, zR, zst, zkl, zn, zcat, zok, zraw, List.length_cons, List.length_nil, Option.toList, List.nil_append, List.cons_append, true_and, and_true, if_true, if_false, ne_eq, not_true, not_false_eq_true, and_self, true_or, or_true, false_or, or_false, false_and, and_false, b_2 hc, b_3 hc, b_9 hc, b_12 hc, b_26 hc, b_40 hc, b_46 hc, b_47 hc, b_60 hc, b_62 hc, b_63 hc, b_76 hc, b_77 hc, b_90 hc, b_91 hc, b_104 hc, b_107 hc, b_114 hc, b_115 hc, b_122 hc, b_123 hc, b_131 hc, b_2 hc, r_2_0 hc, r_2_1 hc, r_2_2 hc, r_2_3 hc, r_2_4 hc, r_2_5 hc, x_61 hc, n_61 hc, r_2_6 hc, r_2_7 hc, r_2_8 hc, r_2_9 hc, b_46 hc, r_46_0 hc, r_46_1 hc, x_54 hc, r_46_2 hc, x_55 hc, r_46_3 hc, x_56 hc, r_46_4 hc, x_57 hc, r_46_5 hc, x_58 hc, r_46_6 hc, x_59 hc, b_47 hc, r_47_0 hc, x_48 hc, n_48 hc, x_48 hc, n_48 hc, r_48_0 hc, x_49 hc, r_48_1 hc, x_50 hc, r_48_2 hc, x_51 hc, r_48_3 hc, x_52 hc, r_48_4 hc, x_53 hc, cIsTile _ h.1, hd0, q0]
    exact hno (fun hh => q0 hh.1)
theorem MS_there {N : Nat} {b : Int} (h : MS θ σ s μ) (hN : N < tn (sT σ)) (hb : b = 0 ∨ b = 1) : MS θ (stR σ (mkF (gR (sG σ)) 0 N b)) s (us μ 172 (zup (μ 172) N (1 - b))) := by
  obtain ⟨⟨hw, ha, hbb, hc⟩, hd⟩ := h.2.2.1.1
  refine MS_roof h (Fr.us (by simp) Fr.refl) (fun j _ => by rw [us_ne (by omega)]) ⟨⟨mkF_w hw (fun _ => hb) (by omega), ?_, ?_, ?_⟩, ?_⟩
  · intro t ht
    have := ha t ht
    rw [us_ne (by omega), us_ne (by omega), us_ne (by omega), us_ne (by omega)]
    unfold mkF
    simpa using this
  · rw [us_ne (by omega)]; exact hbb
  · rw [us_ne (by omega)]; exact hc
  · intro t ht
    rw [us_same, zup_ap]
    unfold mkF
    by_cases q : t = N
    · simp [q]
    · simp [q]; exact hd t ht
theorem rThere {d : Nat} {t b : Int} (h : MS θ σ s μ) (hd : 11 ≤ d) (hb : b = 0 ∨ b = 1) (hQ : ∀ μ', ML2 μ μ' → MS θ (sThere σ t b) s μ' → Q (some (vi (vThere σ t b))) θ μ') : Ex d 209 0 [vr 138, vi t, vi b] [] θ μ Q := by
  have hm := h.1.1
  have hd0 : 0 < d := by omega
  have hn := tn_b h.1.2.1
  have hno : ¬ okThere σ t b → Q (some (vi 0)) θ μ := fun hn => by
    have := hQ μ (fun _ _ => rfl) (by unfold sThere; rw [if_neg hn]; exact h)
    unfold vThere at this
    rwa [if_neg hn] at this
  by_cases q0 : 0 ≤ t ∧ t < (tn (sT σ) : Int)
  · obtain ⟨N, rfl⟩ : ∃ N : Nat, t = (N : Int) := ⟨t.toNat, by omega⟩
    have hN : N < tn (sT σ) := by omega
    have e0 := h.2.2.1.1.2 N hN
    have hw := (h.2.1.2.1.1.1 N hN).1
    by_cases q1 : (gR (sG σ)).1 0 N = b
    · have hno' := hno (fun hh => hh.2 (by rw [Int.toNat_natCast]; exact q1))
      have q2 : ¬ ((1 : Int) - (gR (sG σ)).1 0 N = b) := by omega
      simp (disch := omega) only [x209_0, x209_1, x209_2, x209_5, x209_8, x209_9, x209_12, x209_13, x209_14, x209_15, x209_18, x209_19, x209_20, x209_21, x209_24, x209_25, x209_26, x209_29, x209_30, x209_33, x209_34, x209_35, x209_36, ↓reduceIte, Bool.false_eq_true, Nat.reduceAdd, Nat.reduceLT, Nat.reduceLeDiff, Nat.reduceSub, Nat.reduceEqDiff, Int.reduceToNat, Int.reduceEq, Int.reduceLT, Int.reduceLE, Int.reduceAdd, Int.reduceSub, zg, zI, zJ, zR, zst, zkl, zn, zcat, zok, zraw, List.length_cons, List.length_nil, Option.toList, List.nil_append, List.cons_append, true_and, and_true, if_true, if_false, ne_eq, not_true, not_false_eq_true, and_self, true_or, or_true, false_or, or_false, false_and, and_false, b_138 hm, r_138_51 hm, x_172 hm, n_172 hm, b_138 hm, mIsTile (d := d - 1) h.1 (by omega), hd0, q0, Int.toNat_natCast, e0, q2]
      exact hno'
    · have ok : okThere σ N b := ⟨q0, by rw [Int.toNat_natCast]; exact q1⟩
      have q2 : (1 : Int) - (gR (sG σ)).1 0 N = b := by omega
      have hok := hQ (us μ 172 (zup (μ 172) N (1 - b))) (fun a ha => us_ne (by omega)) (by unfold sThere; rw [if_pos ok, Int.toNat_natCast]; exact MS_there h hN hb)
      unfold vThere at hok
      rw [if_pos ok] at hok
      rcases hb with rfl | rfl
      all_goals
        simp (disch := omega) only [x209_0, x209_1, x209_2, x209_5, x209_8, x209_9, x209_12, x209_13, x209_14, x209_15, x209_18, x209_19, x209_20, x209_21, x209_24, x209_25, x209_26, x209_29, x209_30, x209_33, x209_34, x209_35, x209_36, ↓reduceIte, Bool.false_eq_true, Nat.reduceAdd, Nat.reduceLT, Nat.reduceLeDiff, Nat.reduceSub, Nat.reduceEqDiff, Int.reduceToNat, Int.reduceEq, Int.reduceLT, Int.reduceLE, Int.reduceAdd, Int.reduceSub, zg, zI, zJ, zR, zst, zkl, zn, zcat, zok, zraw, List.length_cons, List.length_nil, Option.toList, List.nil_append, List.cons_append, true_and, and_true, if_true, if_false, ne_eq, not_true, not_false_eq_true, and_self, true_or, or_true, false_or, or_false, false_and, and_false, b_138 hm, r_138_51 hm, x_172 hm, n_172 hm, b_138 hm, mIsTile (d := d - 1) h.1 (by omega), hd0, q0, Int.toNat_natCast, e0, q2, ua_eq]
        exact hok
  · simp (disch := omega) only [x209_0, x209_1, x209_2, x209_5, x209_8, x209_9, x209_12, x209_13, x209_14, x209_15, x209_18, x209_19, x209_20, x209_21, x209_24, x209_25, x209_26, x209_29, x209_30, x209_33, x209_34, x209_35, x209_36, ↓reduceIte, Bool.false_eq_true, Nat.reduceAdd, Nat.reduceLT, Nat.reduceLeDiff, Nat.reduceSub, Nat.reduceEqDiff, Int.reduceToNat, Int.reduceEq, Int.reduceLT, Int.reduceLE, Int.reduceAdd, Int.reduceSub, zg, zI, zJ, zR, zst, zkl, zn, zcat, zok, zraw, List.length_cons, List.length_nil, Option.toList, List.nil_append, List.cons_append, true_and, and_true, if_true, if_false, ne_eq, not_true, not_false_eq_true, and_self, true_or, or_true, false_or, or_false, false_and, and_false, b_138 hm, mIsTile (d := d - 1) h.1 (by omega), hd0, q0]
    exact hno (fun hh => q0 hh.1)
end CR
