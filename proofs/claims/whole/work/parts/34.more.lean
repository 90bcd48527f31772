/-! THIRDS, MOSSLESS, FELTED, NEGLECT, HELPS -/
def thF (ρ : zF) (k : Nat) : zF := (fun m q => if (q < k ∧ q % 3 = 0) ∧ canO ρ q = true ∧ (m = 1 ∨ m = 3) then (if m = 1 then 1 else 0) else ρ.1 m q, ρ.2)
def moF (ρ : zF) : zF := (fun m q => if m = 4 then 0 else ρ.1 m q, ρ.2)
def feF (ρ : zF) (v : Int) : zF := (ρ.1, ρ.2.1, v)
def neF (ρ : zF) : zF := (fun m q => if m = 0 then 1 else if m = 3 ∨ m = 4 then 0 else ρ.1 m q, ρ.2)
def heF (ρ : zF) (k : Nat) : zF := (ρ.1, fun j => if j = k then 1 - ρ.2.1 j else ρ.2.1 j, ρ.2.2)
section NC
variable {θ : zS} {T U : Nat} {τ : zT} {Q : Option zV → zS → zM → Prop} {μ : zM} {ρ : zF} {G : zU}
theorem thF_w {k : Nat} (h : wfF τ ρ) : wfF τ (thF ρ k) := by
  refine ⟨fun q hq => ?_, h.2.1, h.2.2⟩
  have := h.1 q hq
  by_cases hc : (q < k ∧ q % 3 = 0) ∧ canO ρ q = true
  · unfold thF; simp [hc]; exact ⟨this.1, this.2.2.1, this.2.2.2.2⟩
  · have e : ∀ m, (thF ρ k).1 m q = ρ.1 m q := fun m => if_neg (fun hh => hc ⟨hh.1, hh.2.1⟩)
    rw [e, e, e, e, e]; exact this
theorem moF_w (h : wfF τ ρ) : wfF τ (moF ρ) := by
  refine ⟨fun q hq => ?_, h.2.1, h.2.2⟩
  have := h.1 q hq
  unfold moF
  simp; exact ⟨this.1, this.2.1, this.2.2.1, this.2.2.2.1⟩
theorem neF_w (h : wfF τ ρ) : wfF τ (neF ρ) := by
  refine ⟨fun q hq => ?_, h.2.1, h.2.2⟩
  have := h.1 q hq
  unfold neF
  simp; exact ⟨this.2.1, this.2.2.1⟩
theorem feF_w {v : Int} (h : wfF τ ρ) (hv : v = 0 ∨ v = 1) : wfF τ (feF ρ v) := ⟨h.1, h.2.1, hv⟩
theorem heF_w {k : Nat} (h : wfF τ ρ) : wfF τ (heF ρ k) := by
  refine ⟨h.1, fun j hj => ?_, h.2.2⟩
  have := h.2.1 j hj
  show (if j = k then 1 - ρ.2.1 j else ρ.2.1 j) = 0 ∨ (if j = k then 1 - ρ.2.1 j else ρ.2.1 j) = 1
  by_cases hk : j = k
  · rw [if_pos hk]; omega
  · rw [if_neg hk]; exact this
def KT : List Nat := GA ++ [107, 109, 110, 111, 112, 113]
theorem cThirds {d : Nat} {x1 : zV} (h : CX θ T U τ μ) (hN : CF τ ρ 47 μ) (hG : wfU G) (hU : CU G 46 μ) (hd : 6 ≤ d)
    (hQ : ∀ μ', Fr KT μ μ' → Q (some (vi (haO τ (thF ρ (tn τ)) G))) θ μ') : Ex d 37 0 [vr 104, x1] [] θ μ Q := by
  have hc := h.1.1
  have hw := h.2.1
  have hn := tn_b hw
  have hd0 : 0 < d := by omega
  have key : ∀ k L μ1, (∃ t, k = tn τ + 3 - t ∧ t % 3 = 0 ∧ L = [vr 104, vi (t : Nat)] ∧ Fr KT μ μ1 ∧ CF τ (thF ρ t) 107 μ1 ∧ t ≤ tn τ + 3) → Ex d 37 16 L [] θ μ1 Q := by
    refine Ex_while (I := fun k L μ1 => ∃ t, k = tn τ + 3 - t ∧ t % 3 = 0 ∧ L = [vr 104, vi (t : Nat)] ∧ Fr KT μ μ1 ∧ CF τ (thF ρ t) 107 μ1 ∧ t ≤ tn τ + 3) ?_
    rintro k L μ1 ⟨t, rfl, ht3, rfl, hf, F1, htn⟩ hk
    have et := F1.2.2.1
    have X1 : CX θ T U τ μ1 := CX_fr h hf (by decide)
    rw [x37_16]
    by_cases ht : t < tn τ
    · have i1 : ¬ ((tn τ : Int) ≤ (t : Int)) := by omega
      have i3 : w32 ((t : Int) + 3) = ((t + 3 : Nat) : Int) := by unfold w32; omega
      have hct : canO (thF ρ t) t = canO ρ t := by unfold canO thF; simp
      by_cases hcb : canO ρ t = true
      · have hb1 : b2 (canO (thF ρ t) t) = 1 := by rw [hct, hcb]; rfl
        simp (disch := omega) only [x37_0, x37_1, x37_4, x37_5, x37_8, x37_11, x37_14, x37_15, x37_17, x37_18, x37_21, x37_24, x37_27, x37_28, x37_31, x37_32, x37_35, x37_38, x37_39, x37_42, x37_43, x37_46, x37_49, x37_52, x37_53, x37_54, x37_57, x37_59, x37_62, ↓reduceIte, Bool.false_eq_true, Nat.reduceAdd, Nat.reduceLT, Nat.reduceLeDiff, Nat.reduceSub, Nat.reduceEqDiff, Int.reduceToNat, Int.reduceEq, Int.reduceLT, Int.reduceLE, Int.reduceAdd, Int.reduceSub, zg, zI, zJ, zR, zst, zkl, zn, zcat, zok, zraw, List.length_cons, List.length_nil, Option.toList, List.nil_append, List.cons_append, true_and, and_true, if_true, if_false, ne_eq, not_true, not_false_eq_true, and_self, true_or, or_true, false_or, or_false, false_and, and_false, b_2 hc, b_3 hc, b_9 hc, b_12 hc, b_26 hc, b_40 hc, b_46 hc, b_47 hc, b_60 hc, b_62 hc, b_63 hc, b_76 hc, b_77 hc, b_90 hc, b_91 hc, b_104 hc, b_107 hc, b_114 hc, b_115 hc, b_122 hc, b_123 hc, b_131 hc, b_104 hc, r_104_0 hc, x_105 hc, r_104_1 hc, x_106 hc, r_104_6 hc, r_104_7 hc, r_104_8 hc, b_107 hc, r_107_0 hc, x_108 hc, n_108 hc, et, i1, hd0, cCan hc hw F1 rfl ht, hb1]
        refine cNail hc hw F1 rfl ht ?_
        intro μ2 hf2 F2
        simp (disch := omega) only [x37_0, x37_1, x37_4, x37_5, x37_8, x37_11, x37_14, x37_15, x37_17, x37_18, x37_21, x37_24, x37_27, x37_28, x37_31, x37_32, x37_35, x37_38, x37_39, x37_42, x37_43, x37_46, x37_49, x37_52, x37_53, x37_54, x37_57, x37_59, x37_62, ↓reduceIte, Bool.false_eq_true, Nat.reduceAdd, Nat.reduceLT, Nat.reduceLeDiff, Nat.reduceSub, Nat.reduceEqDiff, Int.reduceToNat, Int.reduceEq, Int.reduceLT, Int.reduceLE, Int.reduceAdd, Int.reduceSub, zg, zI, zJ, zR, zst, zkl, zn, zcat, zok, zraw, List.length_cons, List.length_nil, Option.toList, List.nil_append, List.cons_append, true_and, and_true, if_true, if_false, ne_eq, not_true, not_false_eq_true, and_self, true_or, or_true, false_or, or_false, false_and, and_false, b_2 hc, b_3 hc, b_9 hc, b_12 hc, b_26 hc, b_40 hc, b_46 hc, b_47 hc, b_60 hc, b_62 hc, b_63 hc, b_76 hc, b_77 hc, b_90 hc, b_91 hc, b_104 hc, b_107 hc, b_114 hc, b_115 hc, b_122 hc, b_123 hc, b_131 hc, i3]
        refine hk _ _ μ2 ?_ ⟨t + 3, rfl, by omega, rfl, hf.trans (hf2.mono (by decide)), ?_, by omega⟩
        · omega
        · obtain ⟨a1, a2, a3, a4, a5, a6⟩ := F2
          refine ⟨a1, thF_w hN.2.1, a3, ?_, a5, a6⟩
          intro m q hm hq
          rw [a4 m q hm hq]
          unfold naF thF
          by_cases h1 : q = t
          · subst h1
            by_cases m1 : m = 1
            · simp [m1, ht3, hcb]
            · by_cases m3 : m = 3
              · simp [m3, ht3, hcb]
              · simp [m1, m3]
          · have e1 : (q < t + 3 ∧ q % 3 = 0) ↔ (q < t ∧ q % 3 = 0) := by omega
            simp [h1, e1]
      · have hb1 : b2 (canO (thF ρ t) t) = 0 := by rw [hct]; unfold b2; rw [if_neg hcb]
        simp (disch := omega) only [x37_0, x37_1, x37_4, x37_5, x37_8, x37_11, x37_14, x37_15, x37_17, x37_18, x37_21, x37_24, x37_27, x37_28, x37_31, x37_32, x37_35, x37_38, x37_39, x37_42, x37_43, x37_46, x37_49, x37_52, x37_53, x37_54, x37_57, x37_59, x37_62, ↓reduceIte, Bool.false_eq_true, Nat.reduceAdd, Nat.reduceLT, Nat.reduceLeDiff, Nat.reduceSub, Nat.reduceEqDiff, Int.reduceToNat, Int.reduceEq, Int.reduceLT, Int.reduceLE, Int.reduceAdd, Int.reduceSub, zg, zI, zJ, zR, zst, zkl, zn, zcat, zok, zraw, List.length_cons, List.length_nil, Option.toList, List.nil_append, List.cons_append, true_and, and_true, if_true, if_false, ne_eq, not_true, not_false_eq_true, and_self, true_or, or_true, false_or, or_false, false_and, and_false, b_2 hc, b_3 hc, b_9 hc, b_12 hc, b_26 hc, b_40 hc, b_46 hc, b_47 hc, b_60 hc, b_62 hc, b_63 hc, b_76 hc, b_77 hc, b_90 hc, b_91 hc, b_104 hc, b_107 hc, b_114 hc, b_115 hc, b_122 hc, b_123 hc, b_131 hc, b_104 hc, r_104_0 hc, x_105 hc, r_104_1 hc, x_106 hc, r_104_6 hc, r_104_7 hc, r_104_8 hc, b_107 hc, r_107_0 hc, x_108 hc, n_108 hc, et, i1, hd0, cCan hc hw F1 rfl ht, hb1, i3]
        refine hk _ _ μ1 ?_ ⟨t + 3, rfl, by omega, rfl, hf, ?_, by omega⟩
        · omega
        · obtain ⟨a1, a2, a3, a4, a5, a6⟩ := F1
          refine ⟨a1, thF_w hN.2.1, a3, ?_, a5, a6⟩
          intro m q hm hq
          rw [a4 m q hm hq]
          unfold thF
          by_cases h1 : q = t
          · subst h1; simp [hcb]
          · have e1 : (q < t + 3 ∧ q % 3 = 0) ↔ (q < t ∧ q % 3 = 0) := by omega
            simp [e1]
    · have i1 : ((tn τ : Int) ≤ (t : Int)) := by omega
      simp (disch := omega) only [x37_0, x37_1, x37_4, x37_5, x37_8, x37_11, x37_14, x37_15, x37_17, x37_18, x37_21, x37_24, x37_27, x37_28, x37_31, x37_32, x37_35, x37_38, x37_39, x37_42, x37_43, x37_46, x37_49, x37_52, x37_53, x37_54, x37_57, x37_59, x37_62, ↓reduceIte, Bool.false_eq_true, Nat.reduceAdd, Nat.reduceLT, Nat.reduceLeDiff, Nat.reduceSub, Nat.reduceEqDiff, Int.reduceToNat, Int.reduceEq, Int.reduceLT, Int.reduceLE, Int.reduceAdd, Int.reduceSub, zg, zI, zJ, zR, zst, zkl, zn, zcat, zok, zraw, List.length_cons, List.length_nil, Option.toList, List.nil_append, List.cons_append, true_and, and_true, if_true, if_false, ne_eq, not_true, not_false_eq_true, and_self, true_or, or_true, false_or, or_false, false_and, and_false, b_2 hc, b_3 hc, b_9 hc, b_12 hc, b_26 hc, b_40 hc, b_46 hc, b_47 hc, b_60 hc, b_62 hc, b_63 hc, b_76 hc, b_77 hc, b_90 hc, b_91 hc, b_104 hc, b_107 hc, b_114 hc, b_115 hc, b_122 hc, b_123 hc, b_131 hc, b_104 hc, r_104_0 hc, x_105 hc, r_104_1 hc, x_106 hc, r_104_6 hc, r_104_7 hc, r_104_8 hc, b_107 hc, r_107_0 hc, x_108 hc, n_108 hc, et, i1, hd0]
      have F2 : CF τ (thF ρ (tn τ)) 107 μ1 := by
        obtain ⟨a1, a2, a3, a4, a5, a6⟩ := F1
        refine ⟨a1, thF_w hN.2.1, a3, ?_, a5, a6⟩
        intro m q hm hq
        rw [a4 m q hm hq]
        unfold thF
        have e1 : (q < t ∧ q % 3 = 0) ↔ (q < tn τ ∧ q % 3 = 0) := by omega
        simp [e1]
      have hHb := ha_nn hw (thF ρ (tn τ)) hG
      refine cHarm (d := d - 1) X1 F2 hG (CU_fr hU hf (by decide)) (by omega) ?_
      intro μ2 y hf2 hy _
      have hyv := hy (by omega)
      subst hyv
      simp (disch := omega) only [x37_0, x37_1, x37_4, x37_5, x37_8, x37_11, x37_14, x37_15, x37_17, x37_18, x37_21, x37_24, x37_27, x37_28, x37_31, x37_32, x37_35, x37_38, x37_39, x37_42, x37_43, x37_46, x37_49, x37_52, x37_53, x37_54, x37_57, x37_59, x37_62, ↓reduceIte, Bool.false_eq_true, Nat.reduceAdd, Nat.reduceLT, Nat.reduceLeDiff, Nat.reduceSub, Nat.reduceEqDiff, Int.reduceToNat, Int.reduceEq, Int.reduceLT, Int.reduceLE, Int.reduceAdd, Int.reduceSub, zg, zI, zJ, zR, zst, zkl, zn, zcat, zok, zraw, List.length_cons, List.length_nil, Option.toList, List.nil_append, List.cons_append, true_and, and_true, if_true, if_false, ne_eq, not_true, not_false_eq_true, and_self, true_or, or_true, false_or, or_false, false_and, and_false, b_2 hc, b_3 hc, b_9 hc, b_12 hc, b_26 hc, b_40 hc, b_46 hc, b_47 hc, b_60 hc, b_62 hc, b_63 hc, b_76 hc, b_77 hc, b_90 hc, b_91 hc, b_104 hc, b_107 hc, b_114 hc, b_115 hc, b_122 hc, b_123 hc, b_131 hc]
      exact hQ μ2 (hf.trans (hf2.mono (by decide)))
  simp (disch := omega) only [x37_0, x37_1, x37_4, x37_5, x37_8, x37_11, x37_14, x37_15, x37_17, x37_18, x37_21, x37_24, x37_27, x37_28, x37_31, x37_32, x37_35, x37_38, x37_39, x37_42, x37_43, x37_46, x37_49, x37_52, x37_53, x37_54, x37_57, x37_59, x37_62, ↓reduceIte, Bool.false_eq_true, Nat.reduceAdd, Nat.reduceLT, Nat.reduceLeDiff, Nat.reduceSub, Nat.reduceEqDiff, Int.reduceToNat, Int.reduceEq, Int.reduceLT, Int.reduceLE, Int.reduceAdd, Int.reduceSub, zg, zI, zJ, zR, zst, zkl, zn, zcat, zok, zraw, List.length_cons, List.length_nil, Option.toList, List.nil_append, List.cons_append, true_and, and_true, if_true, if_false, ne_eq, not_true, not_false_eq_true, and_self, true_or, or_true, false_or, or_false, false_and, and_false, b_2 hc, b_3 hc, b_9 hc, b_12 hc, b_26 hc, b_40 hc, b_46 hc, b_47 hc, b_60 hc, b_62 hc, b_63 hc, b_76 hc, b_77 hc, b_90 hc, b_91 hc, b_104 hc, b_107 hc, b_114 hc, b_115 hc, b_122 hc, b_123 hc, b_131 hc, b_104 hc, r_104_0 hc, x_105 hc, r_104_1 hc, x_106 hc, r_104_6 hc, r_104_7 hc, r_104_8 hc, b_46 hc, r_46_0 hc, r_46_1 hc, x_54 hc, r_46_2 hc, x_55 hc, r_46_3 hc, x_56 hc, r_46_4 hc, x_57 hc, r_46_5 hc, x_58 hc, r_46_6 hc, x_59 hc, hd0]
  refine cTrial (d := d - 1) h hN ?_
  intro μ1 hf1 F1 _
  simp (disch := omega) only [x37_0, x37_1, x37_4, x37_5, x37_8, x37_11, x37_14, x37_15, x37_17, x37_18, x37_21, x37_24, x37_27, x37_28, x37_31, x37_32, x37_35, x37_38, x37_39, x37_42, x37_43, x37_46, x37_49, x37_52, x37_53, x37_54, x37_57, x37_59, x37_62, ↓reduceIte, Bool.false_eq_true, Nat.reduceAdd, Nat.reduceLT, Nat.reduceLeDiff, Nat.reduceSub, Nat.reduceEqDiff, Int.reduceToNat, Int.reduceEq, Int.reduceLT, Int.reduceLE, Int.reduceAdd, Int.reduceSub, zg, zI, zJ, zR, zst, zkl, zn, zcat, zok, zraw, List.length_cons, List.length_nil, Option.toList, List.nil_append, List.cons_append, true_and, and_true, if_true, if_false, ne_eq, not_true, not_false_eq_true, and_self, true_or, or_true, false_or, or_false, false_and, and_false, b_2 hc, b_3 hc, b_9 hc, b_12 hc, b_26 hc, b_40 hc, b_46 hc, b_47 hc, b_60 hc, b_62 hc, b_63 hc, b_76 hc, b_77 hc, b_90 hc, b_91 hc, b_104 hc, b_107 hc, b_114 hc, b_115 hc, b_122 hc, b_123 hc, b_131 hc]
  refine key (tn τ + 3) _ μ1 ⟨0, rfl, rfl, rfl, hf1.mono (by decide), ?_, by omega⟩
  obtain ⟨a1, a2, a3, a4, a5, a6⟩ := F1
  refine ⟨a1, thF_w hN.2.1, a3, ?_, a5, a6⟩
  intro m q hm hq
  rw [a4 m q hm hq]
  unfold thF
  simp
theorem cMossless {d : Nat} (h : CX θ T U τ μ) (hN : CF τ ρ 47 μ) (hG : wfU G) (hU : CU G 46 μ) (hd : 6 ≤ d)
    (hQ : ∀ μ', Fr KT μ μ' → Q (some (vi (haO τ (moF ρ) G - haO τ ρ G))) θ μ') : Ex d 38 0 [vr 104] [] θ μ Q := by
  have hc := h.1.1
  have hw := h.2.1
  have hn := tn_b hw
  have hd0 : 0 < d := by omega
  simp (disch := omega) only [x38_0, x38_1, x38_4, x38_5, x38_8, x38_11, x38_14, x38_15, x38_18, x38_21, x38_22, x38_23, x38_24, x38_27, x38_28, x38_29, x38_32, x38_34, x38_37, x38_38, x38_39, x38_42, x38_45, x38_47, x38_50, x38_51, ↓reduceIte, Bool.false_eq_true, Nat.reduceAdd, Nat.reduceLT, Nat.reduceLeDiff, Nat.reduceSub, Nat.reduceEqDiff, Int.reduceToNat, Int.reduceEq, Int.reduceLT, Int.reduceLE, Int.reduceAdd, Int.reduceSub, zg, zI, zJ, zR, zst, zkl, zn, zcat, zok, zraw, List.length_cons, List.length_nil, Option.toList, List.nil_append, List.cons_append, true_and, and_true, if_true, if_false, ne_eq, not_true, not_false_eq_true, and_self, true_or, or_true, false_or, or_false, false_and, and_false, b_2 hc, b_3 hc, b_9 hc, b_12 hc, b_26 hc, b_40 hc, b_46 hc, b_47 hc, b_60 hc, b_62 hc, b_63 hc, b_76 hc, b_77 hc, b_90 hc, b_91 hc, b_104 hc, b_107 hc, b_114 hc, b_115 hc, b_122 hc, b_123 hc, b_131 hc, b_104 hc, r_104_0 hc, x_105 hc, r_104_1 hc, x_106 hc, r_104_6 hc, r_104_7 hc, r_104_8 hc, b_46 hc, r_46_0 hc, r_46_1 hc, x_54 hc, r_46_2 hc, x_55 hc, r_46_3 hc, x_56 hc, r_46_4 hc, x_57 hc, r_46_5 hc, x_58 hc, r_46_6 hc, x_59 hc, hd0]
  refine cTrial (d := d - 1) h hN ?_
  intro μ1 hf1 F1 _
  simp (disch := omega) only [x38_0, x38_1, x38_4, x38_5, x38_8, x38_11, x38_14, x38_15, x38_18, x38_21, x38_22, x38_23, x38_24, x38_27, x38_28, x38_29, x38_32, x38_34, x38_37, x38_38, x38_39, x38_42, x38_45, x38_47, x38_50, x38_51, ↓reduceIte, Bool.false_eq_true, Nat.reduceAdd, Nat.reduceLT, Nat.reduceLeDiff, Nat.reduceSub, Nat.reduceEqDiff, Int.reduceToNat, Int.reduceEq, Int.reduceLT, Int.reduceLE, Int.reduceAdd, Int.reduceSub, zg, zI, zJ, zR, zst, zkl, zn, zcat, zok, zraw, List.length_cons, List.length_nil, Option.toList, List.nil_append, List.cons_append, true_and, and_true, if_true, if_false, ne_eq, not_true, not_false_eq_true, and_self, true_or, or_true, false_or, or_false, false_and, and_false, b_2 hc, b_3 hc, b_9 hc, b_12 hc, b_26 hc, b_40 hc, b_46 hc, b_47 hc, b_60 hc, b_62 hc, b_63 hc, b_76 hc, b_77 hc, b_90 hc, b_91 hc, b_104 hc, b_107 hc, b_114 hc, b_115 hc, b_122 hc, b_123 hc, b_131 hc, b_104 hc, r_104_0 hc, x_105 hc, r_104_1 hc, x_106 hc, r_104_6 hc, r_104_7 hc, r_104_8 hc, b_107 hc, r_107_0 hc, x_108 hc, n_108 hc, x_108 hc, n_108 hc, r_108_0 hc, x_109 hc, r_108_1 hc, x_110 hc, r_108_2 hc, x_111 hc, r_108_3 hc, x_112 hc, r_108_4 hc, x_113 hc, hd0, Int.reduceToNat]
  refine eFill (by decide) (s_113 hc) (by decide) ?_
  have hf2 : Fr KT μ (us μ1 113 (fun j => if j < 36 then 0 else μ1 113 j)) := Fr.us (by decide) (hf1.mono (by decide))
  have F2 : CF τ (moF ρ) 107 (us μ1 113 (fun j => if j < 36 then 0 else μ1 113 j)) := by
    obtain ⟨a1, a2, a3, a4, a5, a6⟩ := F1
    refine ⟨a1, moF_w hN.2.1, by rw [us_ne (by decide)]; exact a3, ?_, by rw [us_ne (by decide)]; exact a5, by rw [us_ne (by decide)]; exact a6⟩
    intro m q hm hq
    have e := a4 m q hm hq
    unfold moF
    by_cases m4 : m = 4
    · subst m4
      have : q < 36 := by omega
      rw [us_same, if_pos this]; rfl
    · rw [us_ne (by omega), e]; simp [m4]
  simp (disch := omega) only [x38_0, x38_1, x38_4, x38_5, x38_8, x38_11, x38_14, x38_15, x38_18, x38_21, x38_22, x38_23, x38_24, x38_27, x38_28, x38_29, x38_32, x38_34, x38_37, x38_38, x38_39, x38_42, x38_45, x38_47, x38_50, x38_51, ↓reduceIte, Bool.false_eq_true, Nat.reduceAdd, Nat.reduceLT, Nat.reduceLeDiff, Nat.reduceSub, Nat.reduceEqDiff, Int.reduceToNat, Int.reduceEq, Int.reduceLT, Int.reduceLE, Int.reduceAdd, Int.reduceSub, zg, zI, zJ, zR, zst, zkl, zn, zcat, zok, zraw, List.length_cons, List.length_nil, Option.toList, List.nil_append, List.cons_append, true_and, and_true, if_true, if_false, ne_eq, not_true, not_false_eq_true, and_self, true_or, or_true, false_or, or_false, false_and, and_false, b_2 hc, b_3 hc, b_9 hc, b_12 hc, b_26 hc, b_40 hc, b_46 hc, b_47 hc, b_60 hc, b_62 hc, b_63 hc, b_76 hc, b_77 hc, b_90 hc, b_91 hc, b_104 hc, b_107 hc, b_114 hc, b_115 hc, b_122 hc, b_123 hc, b_131 hc, b_104 hc, r_104_0 hc, x_105 hc, r_104_1 hc, x_106 hc, r_104_6 hc, r_104_7 hc, r_104_8 hc, b_46 hc, r_46_0 hc, r_46_1 hc, x_54 hc, r_46_2 hc, x_55 hc, r_46_3 hc, x_56 hc, r_46_4 hc, x_57 hc, r_46_5 hc, x_58 hc, r_46_6 hc, x_59 hc, hd0]
  have hHb := ha_nn hw (moF ρ) hG
  refine cHarm (d := d - 1) (CX_fr h hf2 (by decide)) F2 hG (CU_fr hU hf2 (by decide)) (by omega) ?_
  intro μ3 y hf3 hy _
  have hyv := hy (by omega)
  subst hyv
  have hf03 : Fr KT μ μ3 := hf2.trans (hf3.mono (by decide))
  simp (disch := omega) only [x38_0, x38_1, x38_4, x38_5, x38_8, x38_11, x38_14, x38_15, x38_18, x38_21, x38_22, x38_23, x38_24, x38_27, x38_28, x38_29, x38_32, x38_34, x38_37, x38_38, x38_39, x38_42, x38_45, x38_47, x38_50, x38_51, ↓reduceIte, Bool.false_eq_true, Nat.reduceAdd, Nat.reduceLT, Nat.reduceLeDiff, Nat.reduceSub, Nat.reduceEqDiff, Int.reduceToNat, Int.reduceEq, Int.reduceLT, Int.reduceLE, Int.reduceAdd, Int.reduceSub, zg, zI, zJ, zR, zst, zkl, zn, zcat, zok, zraw, List.length_cons, List.length_nil, Option.toList, List.nil_append, List.cons_append, true_and, and_true, if_true, if_false, ne_eq, not_true, not_false_eq_true, and_self, true_or, or_true, false_or, or_false, false_and, and_false, b_2 hc, b_3 hc, b_9 hc, b_12 hc, b_26 hc, b_40 hc, b_46 hc, b_47 hc, b_60 hc, b_62 hc, b_63 hc, b_76 hc, b_77 hc, b_90 hc, b_91 hc, b_104 hc, b_107 hc, b_114 hc, b_115 hc, b_122 hc, b_123 hc, b_131 hc, b_104 hc, r_104_0 hc, x_105 hc, r_104_1 hc, x_106 hc, r_104_6 hc, r_104_7 hc, r_104_8 hc, b_46 hc, r_46_0 hc, r_46_1 hc, x_54 hc, r_46_2 hc, x_55 hc, r_46_3 hc, x_56 hc, r_46_4 hc, x_57 hc, r_46_5 hc, x_58 hc, r_46_6 hc, x_59 hc, hd0]
  have hHb2 := ha_nn hw ρ hG
  refine cHarm (d := d - 1) (CX_fr h hf03 (by decide)) (CF47_fr hN hf03 (by decide)) hG (CU_fr hU hf03 (by decide)) (by omega) ?_
  intro μ4 y hf4 hy _
  have hyv := hy (by omega)
  subst hyv
  have a1 : w32 (haO τ (moF ρ) G - haO τ ρ G) = haO τ (moF ρ) G - haO τ ρ G := w32_i (by omega) (by omega)
  simp (disch := omega) only [x38_0, x38_1, x38_4, x38_5, x38_8, x38_11, x38_14, x38_15, x38_18, x38_21, x38_22, x38_23, x38_24, x38_27, x38_28, x38_29, x38_32, x38_34, x38_37, x38_38, x38_39, x38_42, x38_45, x38_47, x38_50, x38_51, ↓reduceIte, Bool.false_eq_true, Nat.reduceAdd, Nat.reduceLT, Nat.reduceLeDiff, Nat.reduceSub, Nat.reduceEqDiff, Int.reduceToNat, Int.reduceEq, Int.reduceLT, Int.reduceLE, Int.reduceAdd, Int.reduceSub, zg, zI, zJ, zR, zst, zkl, zn, zcat, zok, zraw, List.length_cons, List.length_nil, Option.toList, List.nil_append, List.cons_append, true_and, and_true, if_true, if_false, ne_eq, not_true, not_false_eq_true, and_self, true_or, or_true, false_or, or_false, false_and, and_false, b_2 hc, b_3 hc, b_9 hc, b_12 hc, b_26 hc, b_40 hc, b_46 hc, b_47 hc, b_60 hc, b_62 hc, b_63 hc, b_76 hc, b_77 hc, b_90 hc, b_91 hc, b_104 hc, b_107 hc, b_114 hc, b_115 hc, b_122 hc, b_123 hc, b_131 hc, a1]
  exact hQ μ4 (hf03.trans (hf4.mono (by decide)))
theorem CF_fe {v : Int} {μ' : zM} (h : CF τ ρ 107 μ) (hv : v = 0 ∨ v = 1) (hf : Fr [107] μ μ') (e1 : μ' 107 1 = μ 107 1) (e2 : μ' 107 2 = μ 107 2) (e3 : μ' 107 3 = v) : CF τ (feF ρ v) 107 μ' := by
  obtain ⟨hr, hw, r1, r2, r3, r4⟩ := h
  refine ⟨hr, feF_w hw hv, by rw [e1]; exact r1, ?_, ?_, e3⟩
  · intro m t hm ht; rw [hf _ (by simp)]; exact r2 m t hm ht
  · intro k hk; rw [e2]; exact r3 k hk
theorem cFelted {d : Nat} {x1 : zV} (h : CX θ T U τ μ) (hN : CF τ ρ 47 μ) (hG : wfU G) (hU : CU G 46 μ) (hd : 6 ≤ d)
    (hQ : ∀ μ', Fr KT μ μ' → Q (some (vi (haO τ (feF ρ 1) G - haO τ (feF ρ 0) G))) θ μ') : Ex d 39 0 [vr 104, x1] [] θ μ Q := by
  have hc := h.1.1
  have hw := h.2.1
  have hn := tn_b hw
  have hd0 : 0 < d := by omega
  simp (disch := omega) only [x39_0, x39_1, x39_4, x39_5, x39_8, x39_11, x39_14, x39_15, x39_18, x39_19, x39_22, x39_23, x39_24, x39_27, x39_29, x39_32, x39_33, x39_34, x39_37, x39_38, x39_41, x39_42, x39_43, x39_44, x39_47, x39_49, x39_52, x39_53, ↓reduceIte, Bool.false_eq_true, Nat.reduceAdd, Nat.reduceLT, Nat.reduceLeDiff, Nat.reduceSub, Nat.reduceEqDiff, Int.reduceToNat, Int.reduceEq, Int.reduceLT, Int.reduceLE, Int.reduceAdd, Int.reduceSub, zg, zI, zJ, zR, zst, zkl, zn, zcat, zok, zraw, List.length_cons, List.length_nil, Option.toList, List.nil_append, List.cons_append, true_and, and_true, if_true, if_false, ne_eq, not_true, not_false_eq_true, and_self, true_or, or_true, false_or, or_false, false_and, and_false, b_2 hc, b_3 hc, b_9 hc, b_12 hc, b_26 hc, b_40 hc, b_46 hc, b_47 hc, b_60 hc, b_62 hc, b_63 hc, b_76 hc, b_77 hc, b_90 hc, b_91 hc, b_104 hc, b_107 hc, b_114 hc, b_115 hc, b_122 hc, b_123 hc, b_131 hc, b_104 hc, r_104_0 hc, x_105 hc, r_104_1 hc, x_106 hc, r_104_6 hc, r_104_7 hc, r_104_8 hc, b_46 hc, r_46_0 hc, r_46_1 hc, x_54 hc, r_46_2 hc, x_55 hc, r_46_3 hc, x_56 hc, r_46_4 hc, x_57 hc, r_46_5 hc, x_58 hc, r_46_6 hc, x_59 hc, hd0]
  refine cTrial (d := d - 1) h hN ?_
  intro μ1 hf1 F1 _
  simp (disch := omega) only [x39_0, x39_1, x39_4, x39_5, x39_8, x39_11, x39_14, x39_15, x39_18, x39_19, x39_22, x39_23, x39_24, x39_27, x39_29, x39_32, x39_33, x39_34, x39_37, x39_38, x39_41, x39_42, x39_43, x39_44, x39_47, x39_49, x39_52, x39_53, ↓reduceIte, Bool.false_eq_true, Nat.reduceAdd, Nat.reduceLT, Nat.reduceLeDiff, Nat.reduceSub, Nat.reduceEqDiff, Int.reduceToNat, Int.reduceEq, Int.reduceLT, Int.reduceLE, Int.reduceAdd, Int.reduceSub, zg, zI, zJ, zR, zst, zkl, zn, zcat, zok, zraw, List.length_cons, List.length_nil, Option.toList, List.nil_append, List.cons_append, true_and, and_true, if_true, if_false, ne_eq, not_true, not_false_eq_true, and_self, true_or, or_true, false_or, or_false, false_and, and_false, b_2 hc, b_3 hc, b_9 hc, b_12 hc, b_26 hc, b_40 hc, b_46 hc, b_47 hc, b_60 hc, b_62 hc, b_63 hc, b_76 hc, b_77 hc, b_90 hc, b_91 hc, b_104 hc, b_107 hc, b_114 hc, b_115 hc, b_122 hc, b_123 hc, b_131 hc, b_104 hc, r_104_0 hc, x_105 hc, r_104_1 hc, x_106 hc, r_104_6 hc, r_104_7 hc, r_104_8 hc, b_107 hc, r_107_0 hc, x_108 hc, n_108 hc, hd0, ua_eq]
  have hf2 : Fr KT μ (us μ1 107 (zup (μ1 107) 3 1)) := Fr.us (by decide) (hf1.mono (by decide))
  have F2 : CF τ (feF ρ 1) 107 (us μ1 107 (zup (μ1 107) 3 1)) := CF_fe F1 (Or.inr rfl) (Fr.us (by decide) Fr.refl) (by rw [us_same, zup_ne (by decide)]) (by rw [us_same, zup_ne (by decide)]) (by rw [us_same, zup_same rfl])
  have hHb := ha_nn hw (feF ρ 1) hG
  refine cHarm (d := d - 1) (CX_fr h hf2 (by decide)) F2 hG (CU_fr hU hf2 (by decide)) (by omega) ?_
  intro μ3 y hf3 hy _
  have hyv := hy (by omega)
  subst hyv
  have hf03 : Fr KT μ μ3 := hf2.trans (hf3.mono (by decide))
  have F3 : CF τ (feF ρ 1) 107 μ3 := CF107_fr F2 hf3 (by decide)
  simp (disch := omega) only [x39_0, x39_1, x39_4, x39_5, x39_8, x39_11, x39_14, x39_15, x39_18, x39_19, x39_22, x39_23, x39_24, x39_27, x39_29, x39_32, x39_33, x39_34, x39_37, x39_38, x39_41, x39_42, x39_43, x39_44, x39_47, x39_49, x39_52, x39_53, ↓reduceIte, Bool.false_eq_true, Nat.reduceAdd, Nat.reduceLT, Nat.reduceLeDiff, Nat.reduceSub, Nat.reduceEqDiff, Int.reduceToNat, Int.reduceEq, Int.reduceLT, Int.reduceLE, Int.reduceAdd, Int.reduceSub, zg, zI, zJ, zR, zst, zkl, zn, zcat, zok, zraw, List.length_cons, List.length_nil, Option.toList, List.nil_append, List.cons_append, true_and, and_true, if_true, if_false, ne_eq, not_true, not_false_eq_true, and_self, true_or, or_true, false_or, or_false, false_and, and_false, b_2 hc, b_3 hc, b_9 hc, b_12 hc, b_26 hc, b_40 hc, b_46 hc, b_47 hc, b_60 hc, b_62 hc, b_63 hc, b_76 hc, b_77 hc, b_90 hc, b_91 hc, b_104 hc, b_107 hc, b_114 hc, b_115 hc, b_122 hc, b_123 hc, b_131 hc, b_104 hc, r_104_0 hc, x_105 hc, r_104_1 hc, x_106 hc, r_104_6 hc, r_104_7 hc, r_104_8 hc, b_107 hc, r_107_0 hc, x_108 hc, n_108 hc, hd0, ua_eq]
  have hf4 : Fr KT μ (us μ3 107 (zup (μ3 107) 3 0)) := Fr.us (by decide) hf03
  have F4 : CF τ (feF ρ 0) 107 (us μ3 107 (zup (μ3 107) 3 0)) := CF_fe (ρ := feF ρ 1) (v := 0) F3 (Or.inl rfl) (Fr.us (by decide) Fr.refl) (by rw [us_same, zup_ne (by decide)]) (by rw [us_same, zup_ne (by decide)]) (by rw [us_same, zup_same rfl])
  have hHb2 := ha_nn hw (feF ρ 0) hG
  refine cHarm (d := d - 1) (CX_fr h hf4 (by decide)) F4 hG (CU_fr hU hf4 (by decide)) (by omega) ?_
  intro μ5 y hf5 hy _
  have hyv := hy (by omega)
  subst hyv
  have a1 : w32 (haO τ (feF ρ 1) G - haO τ (feF ρ 0) G) = haO τ (feF ρ 1) G - haO τ (feF ρ 0) G := w32_i (by omega) (by omega)
  simp (disch := omega) only [x39_0, x39_1, x39_4, x39_5, x39_8, x39_11, x39_14, x39_15, x39_18, x39_19, x39_22, x39_23, x39_24, x39_27, x39_29, x39_32, x39_33, x39_34, x39_37, x39_38, x39_41, x39_42, x39_43, x39_44, x39_47, x39_49, x39_52, x39_53, ↓reduceIte, Bool.false_eq_true, Nat.reduceAdd, Nat.reduceLT, Nat.reduceLeDiff, Nat.reduceSub, Nat.reduceEqDiff, Int.reduceToNat, Int.reduceEq, Int.reduceLT, Int.reduceLE, Int.reduceAdd, Int.reduceSub, zg, zI, zJ, zR, zst, zkl, zn, zcat, zok, zraw, List.length_cons, List.length_nil, Option.toList, List.nil_append, List.cons_append, true_and, and_true, if_true, if_false, ne_eq, not_true, not_false_eq_true, and_self, true_or, or_true, false_or, or_false, false_and, and_false, b_2 hc, b_3 hc, b_9 hc, b_12 hc, b_26 hc, b_40 hc, b_46 hc, b_47 hc, b_60 hc, b_62 hc, b_63 hc, b_76 hc, b_77 hc, b_90 hc, b_91 hc, b_104 hc, b_107 hc, b_114 hc, b_115 hc, b_122 hc, b_123 hc, b_131 hc, a1]
  exact hQ μ5 (hf4.trans (hf5.mono (by decide)))
theorem cNeglect {d : Nat} {g w : Int} {x3 : zV} (h : CX θ T U τ μ) (hN : CF τ ρ 47 μ) (hd : 6 ≤ d) (hg : 0 ≤ g ∧ g ≤ 99) (hwy : 0 ≤ w ∧ w ≤ 3)
    (hQ : ∀ μ', Fr KT μ μ' → Q (some (vi (faO τ ρ g w - faO τ (neF ρ) g w))) θ μ') : Ex d 40 0 [vr 104, vi g, vi w, x3] [] θ μ Q := by
  have hc := h.1.1
  have hw := h.2.1
  have hn := tn_b hw
  have hd0 : 0 < d := by omega
  simp (disch := omega) only [x40_0, x40_1, x40_4, x40_5, x40_8, x40_11, x40_14, x40_15, x40_18, x40_21, x40_22, x40_23, x40_24, x40_27, x40_28, x40_31, x40_34, x40_35, x40_36, x40_37, x40_40, x40_41, x40_44, x40_47, x40_48, x40_49, x40_50, x40_53, x40_54, x40_55, x40_58, x40_59, x40_60, x40_63, x40_64, x40_65, x40_66, x40_69, x40_72, x40_73, x40_74, x40_77, x40_78, x40_79, ↓reduceIte, Bool.false_eq_true, Nat.reduceAdd, Nat.reduceLT, Nat.reduceLeDiff, Nat.reduceSub, Nat.reduceEqDiff, Int.reduceToNat, Int.reduceEq, Int.reduceLT, Int.reduceLE, Int.reduceAdd, Int.reduceSub, zg, zI, zJ, zR, zst, zkl, zn, zcat, zok, zraw, List.length_cons, List.length_nil, Option.toList, List.nil_append, List.cons_append, true_and, and_true, if_true, if_false, ne_eq, not_true, not_false_eq_true, and_self, true_or, or_true, false_or, or_false, false_and, and_false, b_2 hc, b_3 hc, b_9 hc, b_12 hc, b_26 hc, b_40 hc, b_46 hc, b_47 hc, b_60 hc, b_62 hc, b_63 hc, b_76 hc, b_77 hc, b_90 hc, b_91 hc, b_104 hc, b_107 hc, b_114 hc, b_115 hc, b_122 hc, b_123 hc, b_131 hc, b_104 hc, r_104_0 hc, x_105 hc, r_104_1 hc, x_106 hc, r_104_6 hc, r_104_7 hc, r_104_8 hc, b_46 hc, r_46_0 hc, r_46_1 hc, x_54 hc, r_46_2 hc, x_55 hc, r_46_3 hc, x_56 hc, r_46_4 hc, x_57 hc, r_46_5 hc, x_58 hc, r_46_6 hc, x_59 hc, hd0]
  refine cTrial (d := d - 1) h hN ?_
  intro μ1 hf1 F1 _
  simp (disch := omega) only [x40_0, x40_1, x40_4, x40_5, x40_8, x40_11, x40_14, x40_15, x40_18, x40_21, x40_22, x40_23, x40_24, x40_27, x40_28, x40_31, x40_34, x40_35, x40_36, x40_37, x40_40, x40_41, x40_44, x40_47, x40_48, x40_49, x40_50, x40_53, x40_54, x40_55, x40_58, x40_59, x40_60, x40_63, x40_64, x40_65, x40_66, x40_69, x40_72, x40_73, x40_74, x40_77, x40_78, x40_79, ↓reduceIte, Bool.false_eq_true, Nat.reduceAdd, Nat.reduceLT, Nat.reduceLeDiff, Nat.reduceSub, Nat.reduceEqDiff, Int.reduceToNat, Int.reduceEq, Int.reduceLT, Int.reduceLE, Int.reduceAdd, Int.reduceSub, zg, zI, zJ, zR, zst, zkl, zn, zcat, zok, zraw, List.length_cons, List.length_nil, Option.toList, List.nil_append, List.cons_append, true_and, and_true, if_true, if_false, ne_eq, not_true, not_false_eq_true, and_self, true_or, or_true, false_or, or_false, false_and, and_false, b_2 hc, b_3 hc, b_9 hc, b_12 hc, b_26 hc, b_40 hc, b_46 hc, b_47 hc, b_60 hc, b_62 hc, b_63 hc, b_76 hc, b_77 hc, b_90 hc, b_91 hc, b_104 hc, b_107 hc, b_114 hc, b_115 hc, b_122 hc, b_123 hc, b_131 hc, b_104 hc, r_104_0 hc, x_105 hc, r_104_1 hc, x_106 hc, r_104_6 hc, r_104_7 hc, r_104_8 hc, b_107 hc, r_107_0 hc, x_108 hc, n_108 hc, x_108 hc, n_108 hc, r_108_0 hc, x_109 hc, r_108_1 hc, x_110 hc, r_108_2 hc, x_111 hc, r_108_3 hc, x_112 hc, r_108_4 hc, x_113 hc, hd0, Int.toNat_zero]
  refine eFill (by decide) (s_109 hc) (by decide) ?_
  simp (disch := omega) only [x40_0, x40_1, x40_4, x40_5, x40_8, x40_11, x40_14, x40_15, x40_18, x40_21, x40_22, x40_23, x40_24, x40_27, x40_28, x40_31, x40_34, x40_35, x40_36, x40_37, x40_40, x40_41, x40_44, x40_47, x40_48, x40_49, x40_50, x40_53, x40_54, x40_55, x40_58, x40_59, x40_60, x40_63, x40_64, x40_65, x40_66, x40_69, x40_72, x40_73, x40_74, x40_77, x40_78, x40_79, ↓reduceIte, Bool.false_eq_true, Nat.reduceAdd, Nat.reduceLT, Nat.reduceLeDiff, Nat.reduceSub, Nat.reduceEqDiff, Int.reduceToNat, Int.reduceEq, Int.reduceLT, Int.reduceLE, Int.reduceAdd, Int.reduceSub, zg, zI, zJ, zR, zst, zkl, zn, zcat, zok, zraw, List.length_cons, List.length_nil, Option.toList, List.nil_append, List.cons_append, true_and, and_true, if_true, if_false, ne_eq, not_true, not_false_eq_true, and_self, true_or, or_true, false_or, or_false, false_and, and_false, b_2 hc, b_3 hc, b_9 hc, b_12 hc, b_26 hc, b_40 hc, b_46 hc, b_47 hc, b_60 hc, b_62 hc, b_63 hc, b_76 hc, b_77 hc, b_90 hc, b_91 hc, b_104 hc, b_107 hc, b_114 hc, b_115 hc, b_122 hc, b_123 hc, b_131 hc, b_104 hc, r_104_0 hc, x_105 hc, r_104_1 hc, x_106 hc, r_104_6 hc, r_104_7 hc, r_104_8 hc, b_107 hc, r_107_0 hc, x_108 hc, n_108 hc, x_108 hc, n_108 hc, r_108_0 hc, x_109 hc, r_108_1 hc, x_110 hc, r_108_2 hc, x_111 hc, r_108_3 hc, x_112 hc, r_108_4 hc, x_113 hc, hd0, Int.reduceToNat]
  refine eFill (by decide) (s_112 hc) (by decide) ?_
  simp (disch := omega) only [x40_0, x40_1, x40_4, x40_5, x40_8, x40_11, x40_14, x40_15, x40_18, x40_21, x40_22, x40_23, x40_24, x40_27, x40_28, x40_31, x40_34, x40_35, x40_36, x40_37, x40_40, x40_41, x40_44, x40_47, x40_48, x40_49, x40_50, x40_53, x40_54, x40_55, x40_58, x40_59, x40_60, x40_63, x40_64, x40_65, x40_66, x40_69, x40_72, x40_73, x40_74, x40_77, x40_78, x40_79, ↓reduceIte, Bool.false_eq_true, Nat.reduceAdd, Nat.reduceLT, Nat.reduceLeDiff, Nat.reduceSub, Nat.reduceEqDiff, Int.reduceToNat, Int.reduceEq, Int.reduceLT, Int.reduceLE, Int.reduceAdd, Int.reduceSub, zg, zI, zJ, zR, zst, zkl, zn, zcat, zok, zraw, List.length_cons, List.length_nil, Option.toList, List.nil_append, List.cons_append, true_and, and_true, if_true, if_false, ne_eq, not_true, not_false_eq_true, and_self, true_or, or_true, false_or, or_false, false_and, and_false, b_2 hc, b_3 hc, b_9 hc, b_12 hc, b_26 hc, b_40 hc, b_46 hc, b_47 hc, b_60 hc, b_62 hc, b_63 hc, b_76 hc, b_77 hc, b_90 hc, b_91 hc, b_104 hc, b_107 hc, b_114 hc, b_115 hc, b_122 hc, b_123 hc, b_131 hc, b_104 hc, r_104_0 hc, x_105 hc, r_104_1 hc, x_106 hc, r_104_6 hc, r_104_7 hc, r_104_8 hc, b_107 hc, r_107_0 hc, x_108 hc, n_108 hc, x_108 hc, n_108 hc, r_108_0 hc, x_109 hc, r_108_1 hc, x_110 hc, r_108_2 hc, x_111 hc, r_108_3 hc, x_112 hc, r_108_4 hc, x_113 hc, hd0, Int.reduceToNat]
  refine eFill (by decide) (s_113 hc) (by decide) ?_
  simp (disch := omega) only [x40_0, x40_1, x40_4, x40_5, x40_8, x40_11, x40_14, x40_15, x40_18, x40_21, x40_22, x40_23, x40_24, x40_27, x40_28, x40_31, x40_34, x40_35, x40_36, x40_37, x40_40, x40_41, x40_44, x40_47, x40_48, x40_49, x40_50, x40_53, x40_54, x40_55, x40_58, x40_59, x40_60, x40_63, x40_64, x40_65, x40_66, x40_69, x40_72, x40_73, x40_74, x40_77, x40_78, x40_79, ↓reduceIte, Bool.false_eq_true, Nat.reduceAdd, Nat.reduceLT, Nat.reduceLeDiff, Nat.reduceSub, Nat.reduceEqDiff, Int.reduceToNat, Int.reduceEq, Int.reduceLT, Int.reduceLE, Int.reduceAdd, Int.reduceSub, zg, zI, zJ, zR, zst, zkl, zn, zcat, zok, zraw, List.length_cons, List.length_nil, Option.toList, List.nil_append, List.cons_append, true_and, and_true, if_true, if_false, ne_eq, not_true, not_false_eq_true, and_self, true_or, or_true, false_or, or_false, false_and, and_false, b_2 hc, b_3 hc, b_9 hc, b_12 hc, b_26 hc, b_40 hc, b_46 hc, b_47 hc, b_60 hc, b_62 hc, b_63 hc, b_76 hc, b_77 hc, b_90 hc, b_91 hc, b_104 hc, b_107 hc, b_114 hc, b_115 hc, b_122 hc, b_123 hc, b_131 hc, b_104 hc, r_104_0 hc, x_105 hc, r_104_1 hc, x_106 hc, r_104_6 hc, r_104_7 hc, r_104_8 hc, b_46 hc, r_46_0 hc, r_46_1 hc, x_54 hc, r_46_2 hc, x_55 hc, r_46_3 hc, x_56 hc, r_46_4 hc, x_57 hc, r_46_5 hc, x_58 hc, r_46_6 hc, x_59 hc, hd0]
  refine cFallen (d := d - 1) (ρ := neF ρ) (CX_fr (A := KT) h (Fr.us (by decide) (Fr.us (by decide) (Fr.us (by decide) (hf1.mono (by decide))))) (by decide)) ?_ (by omega) hg hwy ?_
  · obtain ⟨a1, a2, a3, a4, a5, a6⟩ := F1
    refine ⟨a1, neF_w hN.2.1, ?_, ?_, ?_, ?_⟩
    · rw [us_ne (by decide), us_ne (by decide), us_ne (by decide)]; exact a3
    · intro m q hm hq
      have e := a4 m q hm hq
      have hq36 : q < 36 := by omega
      unfold neF
      by_cases m0 : m = 0
      · subst m0
        rw [us_ne (by decide), us_ne (by decide), us_same, if_pos hq36]; rfl
      · by_cases m3 : m = 3
        · subst m3
          rw [us_ne (by decide), us_same, if_pos hq36]; rfl
        · by_cases m4 : m = 4
          · subst m4
            rw [us_same, if_pos hq36]; rfl
          · rw [us_ne (by omega), us_ne (by omega), us_ne (by omega), e]; simp [m0, m3, m4]
    · intro k hk
      rw [us_ne (by decide), us_ne (by decide), us_ne (by decide)]; exact a5 k hk
    · rw [us_ne (by decide), us_ne (by decide), us_ne (by decide)]; exact a6
  · intro μ3 hf3
    have hf03 : Fr KT μ μ3 := Fr.trans (Fr.us (by decide) (Fr.us (by decide) (Fr.us (by decide) (hf1.mono (by decide))))) (hf3.mono (by decide))
    simp (disch := omega) only [x40_0, x40_1, x40_4, x40_5, x40_8, x40_11, x40_14, x40_15, x40_18, x40_21, x40_22, x40_23, x40_24, x40_27, x40_28, x40_31, x40_34, x40_35, x40_36, x40_37, x40_40, x40_41, x40_44, x40_47, x40_48, x40_49, x40_50, x40_53, x40_54, x40_55, x40_58, x40_59, x40_60, x40_63, x40_64, x40_65, x40_66, x40_69, x40_72, x40_73, x40_74, x40_77, x40_78, x40_79, ↓reduceIte, Bool.false_eq_true, Nat.reduceAdd, Nat.reduceLT, Nat.reduceLeDiff, Nat.reduceSub, Nat.reduceEqDiff, Int.reduceToNat, Int.reduceEq, Int.reduceLT, Int.reduceLE, Int.reduceAdd, Int.reduceSub, zg, zI, zJ, zR, zst, zkl, zn, zcat, zok, zraw, List.length_cons, List.length_nil, Option.toList, List.nil_append, List.cons_append, true_and, and_true, if_true, if_false, ne_eq, not_true, not_false_eq_true, and_self, true_or, or_true, false_or, or_false, false_and, and_false, b_2 hc, b_3 hc, b_9 hc, b_12 hc, b_26 hc, b_40 hc, b_46 hc, b_47 hc, b_60 hc, b_62 hc, b_63 hc, b_76 hc, b_77 hc, b_90 hc, b_91 hc, b_104 hc, b_107 hc, b_114 hc, b_115 hc, b_122 hc, b_123 hc, b_131 hc, b_104 hc, r_104_0 hc, x_105 hc, r_104_1 hc, x_106 hc, r_104_6 hc, r_104_7 hc, r_104_8 hc, b_46 hc, r_46_0 hc, r_46_1 hc, x_54 hc, r_46_2 hc, x_55 hc, r_46_3 hc, x_56 hc, r_46_4 hc, x_57 hc, r_46_5 hc, x_58 hc, r_46_6 hc, x_59 hc, hd0]
    refine cFallen (d := d - 1) (ρ := ρ) (CX_fr h hf03 (by decide)) (CF47_fr hN hf03 (by decide)) (by omega) hg hwy ?_
    intro μ4 hf4
    have h1 := fa_b hw ρ g w
    have h2 := fa_b hw (neF ρ) g w
    have a1 : w32 (faO τ ρ g w - faO τ (neF ρ) g w) = faO τ ρ g w - faO τ (neF ρ) g w := w32_i (by omega) (by omega)
    simp (disch := omega) only [x40_0, x40_1, x40_4, x40_5, x40_8, x40_11, x40_14, x40_15, x40_18, x40_21, x40_22, x40_23, x40_24, x40_27, x40_28, x40_31, x40_34, x40_35, x40_36, x40_37, x40_40, x40_41, x40_44, x40_47, x40_48, x40_49, x40_50, x40_53, x40_54, x40_55, x40_58, x40_59, x40_60, x40_63, x40_64, x40_65, x40_66, x40_69, x40_72, x40_73, x40_74, x40_77, x40_78, x40_79, ↓reduceIte, Bool.false_eq_true, Nat.reduceAdd, Nat.reduceLT, Nat.reduceLeDiff, Nat.reduceSub, Nat.reduceEqDiff, Int.reduceToNat, Int.reduceEq, Int.reduceLT, Int.reduceLE, Int.reduceAdd, Int.reduceSub, zg, zI, zJ, zR, zst, zkl, zn, zcat, zok, zraw, List.length_cons, List.length_nil, Option.toList, List.nil_append, List.cons_append, true_and, and_true, if_true, if_false, ne_eq, not_true, not_false_eq_true, and_self, true_or, or_true, false_or, or_false, false_and, and_false, b_2 hc, b_3 hc, b_9 hc, b_12 hc, b_26 hc, b_40 hc, b_46 hc, b_47 hc, b_60 hc, b_62 hc, b_63 hc, b_76 hc, b_77 hc, b_90 hc, b_91 hc, b_104 hc, b_107 hc, b_114 hc, b_115 hc, b_122 hc, b_123 hc, b_131 hc, a1]
    exact hQ μ4 (hf03.trans (hf4.mono (by decide)))
theorem flip_bits : ∀ b : Fin 64, ∀ k : Fin 6, ∀ j : Fin 6, zand (zshr (zxor (b.val : Int) (zshl 1 (k.val : Int))) (j.val : Int)) 1 = if j.val = k.val then 1 - zand (zshr (b.val : Int) (j.val : Int)) 1 else zand (zshr (b.val : Int) (j.val : Int)) 1 := by decide +kernel
theorem cHelp {d k : Nat} {x g w : Int} {x4 : zV} (h : CX θ T U τ μ) (hN : CF τ ρ 47 μ) (hb : 0 ≤ μ 47 2 ∧ μ 47 2 < 64) (hd : 6 ≤ d) (hx : x = (k : Int)) (hk : k < tD τ) (hg : 0 ≤ g ∧ g ≤ 99) (hwy : 0 ≤ w ∧ w ≤ 3)
    (hQ : ∀ μ', Fr KT μ μ' → Q (some (vi (faO τ ρ g w - faO τ (heF ρ k) g w))) θ μ') : Ex d 31 0 [vr 104, vi x, vi g, vi w, x4] [] θ μ Q := by
  subst hx
  have hc := h.1.1
  have hw := h.2.1
  have hn := tn_b hw
  have hd0 : 0 < d := by omega
  have hd6 := hw.2.2.2.2.1
  simp (disch := omega) only [x31_0, x31_1, x31_4, x31_5, x31_8, x31_11, x31_14, x31_15, x31_18, x31_19, x31_22, x31_23, x31_24, x31_25, x31_26, x31_29, x31_30, x31_31, x31_34, x31_35, x31_36, x31_39, x31_41, x31_42, x31_43, x31_46, x31_49, x31_50, x31_51, x31_54, x31_56, x31_57, ↓reduceIte, Bool.false_eq_true, Nat.reduceAdd, Nat.reduceLT, Nat.reduceLeDiff, Nat.reduceSub, Nat.reduceEqDiff, Int.reduceToNat, Int.reduceEq, Int.reduceLT, Int.reduceLE, Int.reduceAdd, Int.reduceSub, zg, zI, zJ, zR, zst, zkl, zn, zcat, zok, zraw, List.length_cons, List.length_nil, Option.toList, List.nil_append, List.cons_append, true_and, and_true, if_true, if_false, ne_eq, not_true, not_false_eq_true, and_self, true_or, or_true, false_or, or_false, false_and, and_false, b_2 hc, b_3 hc, b_9 hc, b_12 hc, b_26 hc, b_40 hc, b_46 hc, b_47 hc, b_60 hc, b_62 hc, b_63 hc, b_76 hc, b_77 hc, b_90 hc, b_91 hc, b_104 hc, b_107 hc, b_114 hc, b_115 hc, b_122 hc, b_123 hc, b_131 hc, b_104 hc, r_104_0 hc, x_105 hc, r_104_1 hc, x_106 hc, r_104_6 hc, r_104_7 hc, r_104_8 hc, b_46 hc, r_46_0 hc, r_46_1 hc, x_54 hc, r_46_2 hc, x_55 hc, r_46_3 hc, x_56 hc, r_46_4 hc, x_57 hc, r_46_5 hc, x_58 hc, r_46_6 hc, x_59 hc, hd0]
  refine cTrial (d := d - 1) h hN ?_
  intro μ1 hf1 F1 h2
  simp (disch := omega) only [x31_0, x31_1, x31_4, x31_5, x31_8, x31_11, x31_14, x31_15, x31_18, x31_19, x31_22, x31_23, x31_24, x31_25, x31_26, x31_29, x31_30, x31_31, x31_34, x31_35, x31_36, x31_39, x31_41, x31_42, x31_43, x31_46, x31_49, x31_50, x31_51, x31_54, x31_56, x31_57, ↓reduceIte, Bool.false_eq_true, Nat.reduceAdd, Nat.reduceLT, Nat.reduceLeDiff, Nat.reduceSub, Nat.reduceEqDiff, Int.reduceToNat, Int.reduceEq, Int.reduceLT, Int.reduceLE, Int.reduceAdd, Int.reduceSub, zg, zI, zJ, zR, zst, zkl, zn, zcat, zok, zraw, List.length_cons, List.length_nil, Option.toList, List.nil_append, List.cons_append, true_and, and_true, if_true, if_false, ne_eq, not_true, not_false_eq_true, and_self, true_or, or_true, false_or, or_false, false_and, and_false, b_2 hc, b_3 hc, b_9 hc, b_12 hc, b_26 hc, b_40 hc, b_46 hc, b_47 hc, b_60 hc, b_62 hc, b_63 hc, b_76 hc, b_77 hc, b_90 hc, b_91 hc, b_104 hc, b_107 hc, b_114 hc, b_115 hc, b_122 hc, b_123 hc, b_131 hc, b_104 hc, r_104_0 hc, x_105 hc, r_104_1 hc, x_106 hc, r_104_6 hc, r_104_7 hc, r_104_8 hc, b_107 hc, r_107_0 hc, x_108 hc, n_108 hc, hd0, ua_eq]
  have hf2 : Fr KT μ (us μ1 107 (zup (μ1 107) 2 (zxor (μ1 107 2) (zshl 1 (k : Nat))))) := Fr.us (by decide) (hf1.mono (by decide))
  refine cFallen (d := d - 1) (ρ := heF ρ k) (CX_fr h hf2 (by decide)) ?_ (by omega) hg hwy ?_
  · obtain ⟨a1, a2, a3, a4, a5, a6⟩ := F1
    refine ⟨a1, heF_w hN.2.1, by rw [us_same, zup_ne (by decide)]; exact a3, ?_, ?_, by rw [us_same, zup_ne (by decide)]; exact a6⟩
    · intro m q hm hq; rw [us_ne (by omega)]; exact a4 m q hm hq
    · intro j hj
      rw [us_same, zup_same rfl]
      have e := a5 j hj
      rw [h2] at e ⊢
      obtain ⟨B, hB⟩ : ∃ B : Nat, μ 47 2 = B := ⟨(μ 47 2).toNat, by omega⟩
      rw [hB] at e ⊢ hb
      have := flip_bits ⟨B, by omega⟩ ⟨k, by omega⟩ ⟨j, by omega⟩
      simp only at this
      rw [this, e]; rfl
  · intro μ3 hf3
    have hf03 : Fr KT μ μ3 := hf2.trans (hf3.mono (by decide))
    simp (disch := omega) only [x31_0, x31_1, x31_4, x31_5, x31_8, x31_11, x31_14, x31_15, x31_18, x31_19, x31_22, x31_23, x31_24, x31_25, x31_26, x31_29, x31_30, x31_31, x31_34, x31_35, x31_36, x31_39, x31_41, x31_42, x31_43, x31_46, x31_49, x31_50, x31_51, x31_54, x31_56, x31_57, ↓reduceIte, Bool.false_eq_true, Nat.reduceAdd, Nat.reduceLT, Nat.reduceLeDiff, Nat.reduceSub, Nat.reduceEqDiff, Int.reduceToNat, Int.reduceEq, Int.reduceLT, Int.reduceLE, Int.reduceAdd, Int.reduceSub, zg, zI, zJ, zR, zst, zkl, zn, zcat, zok, zraw, List.length_cons, List.length_nil, Option.toList, List.nil_append, List.cons_append, true_and, and_true, if_true, if_false, ne_eq, not_true, not_false_eq_true, and_self, true_or, or_true, false_or, or_false, false_and, and_false, b_2 hc, b_3 hc, b_9 hc, b_12 hc, b_26 hc, b_40 hc, b_46 hc, b_47 hc, b_60 hc, b_62 hc, b_63 hc, b_76 hc, b_77 hc, b_90 hc, b_91 hc, b_104 hc, b_107 hc, b_114 hc, b_115 hc, b_122 hc, b_123 hc, b_131 hc, b_104 hc, r_104_0 hc, x_105 hc, r_104_1 hc, x_106 hc, r_104_6 hc, r_104_7 hc, r_104_8 hc, b_46 hc, r_46_0 hc, r_46_1 hc, x_54 hc, r_46_2 hc, x_55 hc, r_46_3 hc, x_56 hc, r_46_4 hc, x_57 hc, r_46_5 hc, x_58 hc, r_46_6 hc, x_59 hc, hd0]
    refine cFallen (d := d - 1) (ρ := ρ) (CX_fr h hf03 (by decide)) (CF47_fr hN hf03 (by decide)) (by omega) hg hwy ?_
    intro μ4 hf4
    have h1 := fa_b hw ρ g w
    have h2 := fa_b hw (heF ρ k) g w
    have a1 : w32 (faO τ ρ g w - faO τ (heF ρ k) g w) = faO τ ρ g w - faO τ (heF ρ k) g w := w32_i (by omega) (by omega)
    simp (disch := omega) only [x31_0, x31_1, x31_4, x31_5, x31_8, x31_11, x31_14, x31_15, x31_18, x31_19, x31_22, x31_23, x31_24, x31_25, x31_26, x31_29, x31_30, x31_31, x31_34, x31_35, x31_36, x31_39, x31_41, x31_42, x31_43, x31_46, x31_49, x31_50, x31_51, x31_54, x31_56, x31_57, ↓reduceIte, Bool.false_eq_true, Nat.reduceAdd, Nat.reduceLT, Nat.reduceLeDiff, Nat.reduceSub, Nat.reduceEqDiff, Int.reduceToNat, Int.reduceEq, Int.reduceLT, Int.reduceLE, Int.reduceAdd, Int.reduceSub, zg, zI, zJ, zR, zst, zkl, zn, zcat, zok, zraw, List.length_cons, List.length_nil, Option.toList, List.nil_append, List.cons_append, true_and, and_true, if_true, if_false, ne_eq, not_true, not_false_eq_true, and_self, true_or, or_true, false_or, or_false, false_and, and_false, b_2 hc, b_3 hc, b_9 hc, b_12 hc, b_26 hc, b_40 hc, b_46 hc, b_47 hc, b_60 hc, b_62 hc, b_63 hc, b_76 hc, b_77 hc, b_90 hc, b_91 hc, b_104 hc, b_107 hc, b_114 hc, b_115 hc, b_122 hc, b_123 hc, b_131 hc, a1]
    exact hQ μ4 (hf03.trans (hf4.mono (by decide)))
end NC
