/-! CALLS that ask, both sides (printed by calls2.py) -/
section CC
variable {θ : zS} {T U : Nat} {σ : zSt} {Q : Option zV → zS → zM → Prop} {μ : zM} {s : Nat}
def vGoes (σ : zSt) (t w b : Int) : Int := if (0 ≤ t ∧ t < (tn (sT σ) : Int)) ∧ (0 ≤ w ∧ w ≤ 3) then (if (gR (sG σ)).1 0 t.toNat = 0 then -2 else fsG (fun g => wgO (sT σ) (gR (sG σ)) t.toNat g w b)) else -1
theorem kGoes {d : Nat} {t w b : Int} {x90 : zV} (h : CS θ T U σ μ) (hd : 7 ≤ d) (hb : b = 0 ∨ b = 1) (hQ : ∀ μ', CL μ μ' → CS θ T U σ μ' → Q (some (vi (vGoes σ t w b))) θ μ') : Ex d 114 0 [vr 2, vi t, vi w, vi b, x90] [] θ μ Q := by
  have hc := h.1.1.1
  have hT := h.1.1.2.1
  have h2T := h.1.1.2.2.2.2.1
  have hd0 : 0 < d := by omega
  have hd1 : 0 < d - 1 := by omega
  have hn := tn_b h.1.2.1
  have hno : ¬ ((0 ≤ t ∧ t < (tn (sT σ) : Int)) ∧ (0 ≤ w ∧ w ≤ 3)) → Q (some (vi (-1))) θ μ := fun hn => by
    have := hQ μ (fun _ _ => rfl) h
    unfold vGoes at this
    rwa [if_neg hn] at this
  have hyes : ((0 ≤ t ∧ t < (tn (sT σ) : Int)) ∧ (0 ≤ w ∧ w ≤ 3)) → ∀ {μ'}, CL μ μ' → CS θ T U σ μ' → Q (some (vi (if (gR (sG σ)).1 0 t.toNat = 0 then -2 else fsG (fun g => wgO (sT σ) (gR (sG σ)) t.toNat g w b)))) θ μ' := fun hp μ' a b => by
    have := hQ μ' a b
    unfold vGoes at this
    rwa [if_pos hp] at this
  have hR := h.2.2.1.1.2.2.2.1
  by_cases q0 : 0 ≤ t ∧ t < (tn (sT σ) : Int)
  · by_cases q1 : 0 ≤ w ∧ w ≤ 3
    · obtain ⟨N, rfl⟩ : ∃ N : Nat, t = (N : Int) := ⟨t.toNat, by omega⟩
      have hN : N < tn (sT σ) := by omega
      have e0 : μ 49 N = (gR (sG σ)).1 0 N := hR 0 N (by omega) hN
      have hy := fun {μ'} => hyes ⟨q0, q1⟩ (μ' := μ')
      rw [Int.toNat_natCast] at hy
      by_cases q2 : (gR (sG σ)).1 0 N = 0
      · rw [if_pos q2] at hy
        simp (disch := omega) only [x114_0, x114_1, x114_2, x114_5, x114_8, x114_9, x114_12, x114_15, x114_16, x114_17, x114_18, x114_21, x114_24, x114_27, x114_28, x114_29, x114_30, x114_31, x114_34, x114_36, x114_37, x114_38, x114_42, x114_44, x114_47, x114_48, x114_49, x114_51, x114_52, x114_53, x114_56, x114_59, x114_61, x114_62, x114_65, x114_68, x114_70, ↓reduceIte, Bool.false_eq_true, Nat.reduceAdd, Nat.reduceLT, Nat.reduceLeDiff, Nat.reduceSub, Nat.reduceEqDiff, Int.reduceToNat, Int.reduceEq, Int.reduceLT, Int.reduceLE, Int.reduceAdd, Int.reduceSub, zg, zI, zJ, zR, zst, zkl, zn, zcat, zok, zraw, List.length_cons, List.length_nil, Option.toList, List.nil_append, List.cons_append, true_and, and_true, if_true, if_false, ne_eq, not_true, not_false_eq_true, and_self, true_or, or_true, false_or, or_false, false_and, and_false, b_2 hc, b_3 hc, b_9 hc, b_12 hc, b_26 hc, b_40 hc, b_46 hc, b_47 hc, b_60 hc, b_62 hc, b_63 hc, b_76 hc, b_77 hc, b_90 hc, b_91 hc, b_104 hc, b_107 hc, b_114 hc, b_115 hc, b_122 hc, b_123 hc, b_131 hc, b_2 hc, r_2_0 hc, r_2_1 hc, r_2_2 hc, r_2_3 hc, r_2_4 hc, r_2_5 hc, x_61 hc, n_61 hc, r_2_6 hc, r_2_7 hc, r_2_8 hc, r_2_9 hc, b_46 hc, r_46_0 hc, r_46_1 hc, x_54 hc, r_46_2 hc, x_55 hc, r_46_3 hc, x_56 hc, r_46_4 hc, x_57 hc, r_46_5 hc, x_58 hc, r_46_6 hc, x_59 hc, b_47 hc, r_47_0 hc, x_48 hc, n_48 hc, x_48 hc, n_48 hc, r_48_0 hc, x_49 hc, r_48_1 hc, x_50 hc, r_48_2 hc, x_51 hc, r_48_3 hc, x_52 hc, r_48_4 hc, x_53 hc, hd0, hd1, cIsTile _ h.1, cIsWay, q0, q1, Int.toNat_natCast, e0, q2]
        exact hy (fun _ _ => rfl) h
      · rw [if_neg q2] at hy
        have key : ∀ i L μ1, i ≤ 100 → (L = [vr 2, vi (N : Nat), vi w, vi b, vi (i : Nat)] ∧ Fr GA μ μ1 ∧ ∀ j, j < i → wgO (sT σ) (gR (sG σ)) N (j : Nat) w b = false) → Ex d 114 40 L [] θ μ1 Q := by
          refine Ex_loop (I := fun i L μ1 => L = [vr 2, vi (N : Nat), vi w, vi b, vi (i : Nat)] ∧ Fr GA μ μ1 ∧ ∀ j, j < i → wgO (sT σ) (gR (sG σ)) N (j : Nat) w b = false) 100 ?_ ?_
          · rintro i L μ1 hi ⟨rfl, hf, hj⟩ hk
            have h1 := CS_fr h hf (by decide)
            have i1 : ¬ (100 : Int) ≤ (i : Int) := by omega
            rw [x114_40]
            simp (disch := omega) only [x114_0, x114_1, x114_2, x114_5, x114_8, x114_9, x114_12, x114_15, x114_16, x114_17, x114_18, x114_21, x114_24, x114_27, x114_28, x114_29, x114_30, x114_31, x114_34, x114_36, x114_37, x114_38, x114_42, x114_44, x114_47, x114_48, x114_49, x114_51, x114_52, x114_53, x114_56, x114_59, x114_61, x114_62, x114_65, x114_68, x114_70, ↓reduceIte, Bool.false_eq_true, Nat.reduceAdd, Nat.reduceLT, Nat.reduceLeDiff, Nat.reduceSub, Nat.reduceEqDiff, Int.reduceToNat, Int.reduceEq, Int.reduceLT, Int.reduceLE, Int.reduceAdd, Int.reduceSub, zg, zI, zJ, zR, zst, zkl, zn, zcat, zok, zraw, List.length_cons, List.length_nil, Option.toList, List.nil_append, List.cons_append, true_and, and_true, if_true, if_false, ne_eq, not_true, not_false_eq_true, and_self, true_or, or_true, false_or, or_false, false_and, and_false, b_2 hc, b_3 hc, b_9 hc, b_12 hc, b_26 hc, b_40 hc, b_46 hc, b_47 hc, b_60 hc, b_62 hc, b_63 hc, b_76 hc, b_77 hc, b_90 hc, b_91 hc, b_104 hc, b_107 hc, b_114 hc, b_115 hc, b_122 hc, b_123 hc, b_131 hc, b_2 hc, r_2_0 hc, r_2_1 hc, r_2_2 hc, r_2_3 hc, r_2_4 hc, r_2_5 hc, x_61 hc, n_61 hc, r_2_6 hc, r_2_7 hc, r_2_8 hc, r_2_9 hc, b_46 hc, r_46_0 hc, r_46_1 hc, x_54 hc, r_46_2 hc, x_55 hc, r_46_3 hc, x_56 hc, r_46_4 hc, x_57 hc, r_46_5 hc, x_58 hc, r_46_6 hc, x_59 hc, hd0, i1]
            refine cWould (d := d - 1) h1 (by omega) hN (by omega) q1 hb ?_
            intro μ2 hf2
            cases hP : wgO (sT σ) (gR (sG σ)) N (i : Nat) w b with
            | true =>
              simp (disch := omega) only [x114_0, x114_1, x114_2, x114_5, x114_8, x114_9, x114_12, x114_15, x114_16, x114_17, x114_18, x114_21, x114_24, x114_27, x114_28, x114_29, x114_30, x114_31, x114_34, x114_36, x114_37, x114_38, x114_42, x114_44, x114_47, x114_48, x114_49, x114_51, x114_52, x114_53, x114_56, x114_59, x114_61, x114_62, x114_65, x114_68, x114_70, ↓reduceIte, Bool.false_eq_true, Nat.reduceAdd, Nat.reduceLT, Nat.reduceLeDiff, Nat.reduceSub, Nat.reduceEqDiff, Int.reduceToNat, Int.reduceEq, Int.reduceLT, Int.reduceLE, Int.reduceAdd, Int.reduceSub, zg, zI, zJ, zR, zst, zkl, zn, zcat, zok, zraw, List.length_cons, List.length_nil, Option.toList, List.nil_append, List.cons_append, true_and, and_true, if_true, if_false, ne_eq, not_true, not_false_eq_true, and_self, true_or, or_true, false_or, or_false, false_and, and_false, b_2 hc, b_3 hc, b_9 hc, b_12 hc, b_26 hc, b_40 hc, b_46 hc, b_47 hc, b_60 hc, b_62 hc, b_63 hc, b_76 hc, b_77 hc, b_90 hc, b_91 hc, b_104 hc, b_107 hc, b_114 hc, b_115 hc, b_122 hc, b_123 hc, b_131 hc, b2]
              have := hy (CL_fr (hf.trans hf2) (by decide)) (CS_fr h (hf.trans hf2) (by decide))
              rwa [fsG_at hi hj hP] at this
            | false =>
              simp (disch := omega) only [x114_0, x114_1, x114_2, x114_5, x114_8, x114_9, x114_12, x114_15, x114_16, x114_17, x114_18, x114_21, x114_24, x114_27, x114_28, x114_29, x114_30, x114_31, x114_34, x114_36, x114_37, x114_38, x114_42, x114_44, x114_47, x114_48, x114_49, x114_51, x114_52, x114_53, x114_56, x114_59, x114_61, x114_62, x114_65, x114_68, x114_70, ↓reduceIte, Bool.false_eq_true, Nat.reduceAdd, Nat.reduceLT, Nat.reduceLeDiff, Nat.reduceSub, Nat.reduceEqDiff, Int.reduceToNat, Int.reduceEq, Int.reduceLT, Int.reduceLE, Int.reduceAdd, Int.reduceSub, zg, zI, zJ, zR, zst, zkl, zn, zcat, zok, zraw, List.length_cons, List.length_nil, Option.toList, List.nil_append, List.cons_append, true_and, and_true, if_true, if_false, ne_eq, not_true, not_false_eq_true, and_self, true_or, or_true, false_or, or_false, false_and, and_false, b_2 hc, b_3 hc, b_9 hc, b_12 hc, b_26 hc, b_40 hc, b_46 hc, b_47 hc, b_60 hc, b_62 hc, b_63 hc, b_76 hc, b_77 hc, b_90 hc, b_91 hc, b_104 hc, b_107 hc, b_114 hc, b_115 hc, b_122 hc, b_123 hc, b_131 hc, b2, w32_s]
              exact hk _ _ ⟨rfl, hf.trans hf2, fun j hjj => by
                by_cases hji : j < i
                · exact hj j hji
                · have : j = i := by omega
                  subst this; exact hP⟩
          · rintro L μ1 ⟨rfl, hf, hj⟩
            rw [x114_40]
            simp (disch := omega) only [x114_0, x114_1, x114_2, x114_5, x114_8, x114_9, x114_12, x114_15, x114_16, x114_17, x114_18, x114_21, x114_24, x114_27, x114_28, x114_29, x114_30, x114_31, x114_34, x114_36, x114_37, x114_38, x114_42, x114_44, x114_47, x114_48, x114_49, x114_51, x114_52, x114_53, x114_56, x114_59, x114_61, x114_62, x114_65, x114_68, x114_70, ↓reduceIte, Bool.false_eq_true, Nat.reduceAdd, Nat.reduceLT, Nat.reduceLeDiff, Nat.reduceSub, Nat.reduceEqDiff, Int.reduceToNat, Int.reduceEq, Int.reduceLT, Int.reduceLE, Int.reduceAdd, Int.reduceSub, zg, zI, zJ, zR, zst, zkl, zn, zcat, zok, zraw, List.length_cons, List.length_nil, Option.toList, List.nil_append, List.cons_append, true_and, and_true, if_true, if_false, ne_eq, not_true, not_false_eq_true, and_self, true_or, or_true, false_or, or_false, false_and, and_false, b_2 hc, b_3 hc, b_9 hc, b_12 hc, b_26 hc, b_40 hc, b_46 hc, b_47 hc, b_60 hc, b_62 hc, b_63 hc, b_76 hc, b_77 hc, b_90 hc, b_91 hc, b_104 hc, b_107 hc, b_114 hc, b_115 hc, b_122 hc, b_123 hc, b_131 hc, Int.le_refl]
            have := hy (CL_fr hf (by decide)) (CS_fr h hf (by decide))
            rwa [fsG_no hj] at this
        simp (disch := omega) only [x114_0, x114_1, x114_2, x114_5, x114_8, x114_9, x114_12, x114_15, x114_16, x114_17, x114_18, x114_21, x114_24, x114_27, x114_28, x114_29, x114_30, x114_31, x114_34, x114_36, x114_37, x114_38, x114_42, x114_44, x114_47, x114_48, x114_49, x114_51, x114_52, x114_53, x114_56, x114_59, x114_61, x114_62, x114_65, x114_68, x114_70, ↓reduceIte, Bool.false_eq_true, Nat.reduceAdd, Nat.reduceLT, Nat.reduceLeDiff, Nat.reduceSub, Nat.reduceEqDiff, Int.reduceToNat, Int.reduceEq, Int.reduceLT, Int.reduceLE, Int.reduceAdd, Int.reduceSub, zg, zI, zJ, zR, zst, zkl, zn, zcat, zok, zraw, List.length_cons, List.length_nil, Option.toList, List.nil_append, List.cons_append, true_and, and_true, if_true, if_false, ne_eq, not_true, not_false_eq_true, and_self, true_or, or_true, false_or, or_false, false_and, and_false, b_2 hc, b_3 hc, b_9 hc, b_12 hc, b_26 hc, b_40 hc, b_46 hc, b_47 hc, b_60 hc, b_62 hc, b_63 hc, b_76 hc, b_77 hc, b_90 hc, b_91 hc, b_104 hc, b_107 hc, b_114 hc, b_115 hc, b_122 hc, b_123 hc, b_131 hc, b_2 hc, r_2_0 hc, r_2_1 hc, r_2_2 hc, r_2_3 hc, r_2_4 hc, r_2_5 hc, x_61 hc, n_61 hc, r_2_6 hc, r_2_7 hc, r_2_8 hc, r_2_9 hc, b_46 hc, r_46_0 hc, r_46_1 hc, x_54 hc, r_46_2 hc, x_55 hc, r_46_3 hc, x_56 hc, r_46_4 hc, x_57 hc, r_46_5 hc, x_58 hc, r_46_6 hc, x_59 hc, b_47 hc, r_47_0 hc, x_48 hc, n_48 hc, x_48 hc, n_48 hc, r_48_0 hc, x_49 hc, r_48_1 hc, x_50 hc, r_48_2 hc, x_51 hc, r_48_3 hc, x_52 hc, r_48_4 hc, x_53 hc, hd0, hd1, cIsTile _ h.1, cIsWay, q0, q1, Int.toNat_natCast, e0, q2]
        exact key 0 _ _ (by omega) ⟨rfl, Fr.refl, fun j hj => by omega⟩
    · simp (disch := omega) only [x114_0, x114_1, x114_2, x114_5, x114_8, x114_9, x114_12, x114_15, x114_16, x114_17, x114_18, x114_21, x114_24, x114_27, x114_28, x114_29, x114_30, x114_31, x114_34, x114_36, x114_37, x114_38, x114_42, x114_44, x114_47, x114_48, x114_49, x114_51, x114_52, x114_53, x114_56, x114_59, x114_61, x114_62, x114_65, x114_68, x114_70, ↓reduceIte, Bool.false_eq_true, Nat.reduceAdd, Nat.reduceLT, Nat.reduceLeDiff, Nat.reduceSub, Nat.reduceEqDiff, Int.reduceToNat, Int.reduceEq, Int.reduceLT, Int.reduceLE, Int.reduceAdd, Int.reduceSub, zg, zI, zJ, zR, zst, zkl, zn, zcat, zok, zraw, List.length_cons, List.length_nil, Option.toList, List.nil_append, List.cons_append, true_and, and_true, if_true, if_false, ne_eq, not_true, not_false_eq_true, and_self, true_or, or_true, false_or, or_false, false_and, and_false, b_2 hc, b_3 hc, b_9 hc, b_12 hc, b_26 hc, b_40 hc, b_46 hc, b_47 hc, b_60 hc, b_62 hc, b_63 hc, b_76 hc, b_77 hc, b_90 hc, b_91 hc, b_104 hc, b_107 hc, b_114 hc, b_115 hc, b_122 hc, b_123 hc, b_131 hc, b_2 hc, r_2_0 hc, r_2_1 hc, r_2_2 hc, r_2_3 hc, r_2_4 hc, r_2_5 hc, x_61 hc, n_61 hc, r_2_6 hc, r_2_7 hc, r_2_8 hc, r_2_9 hc, b_46 hc, r_46_0 hc, r_46_1 hc, x_54 hc, r_46_2 hc, x_55 hc, r_46_3 hc, x_56 hc, r_46_4 hc, x_57 hc, r_46_5 hc, x_58 hc, r_46_6 hc, x_59 hc, hd0, hd1, cIsTile _ h.1, cIsWay, q0, q1]
      exact hno (by omega)
  · simp (disch := omega) only [x114_0, x114_1, x114_2, x114_5, x114_8, x114_9, x114_12, x114_15, x114_16, x114_17, x114_18, x114_21, x114_24, x114_27, x114_28, x114_29, x114_30, x114_31, x114_34, x114_36, x114_37, x114_38, x114_42, x114_44, x114_47, x114_48, x114_49, x114_51, x114_52, x114_53, x114_56, x114_59, x114_61, x114_62, x114_65, x114_68, x114_70, ↓reduceIte, Bool.false_eq_true, Nat.reduceAdd, Nat.reduceLT, Nat.reduceLeDiff, Nat.reduceSub, Nat.reduceEqDiff, Int.reduceToNat, Int.reduceEq, Int.reduceLT, Int.reduceLE, Int.reduceAdd, Int.reduceSub, zg, zI, zJ, zR, zst, zkl, zn, zcat, zok, zraw, List.length_cons, List.length_nil, Option.toList, List.nil_append, List.cons_append, true_and, and_true, if_true, if_false, ne_eq, not_true, not_false_eq_true, and_self, true_or, or_true, false_or, or_false, false_and, and_false, b_2 hc, b_3 hc, b_9 hc, b_12 hc, b_26 hc, b_40 hc, b_46 hc, b_47 hc, b_60 hc, b_62 hc, b_63 hc, b_76 hc, b_77 hc, b_90 hc, b_91 hc, b_104 hc, b_107 hc, b_114 hc, b_115 hc, b_122 hc, b_123 hc, b_131 hc, b_2 hc, r_2_0 hc, r_2_1 hc, r_2_2 hc, r_2_3 hc, r_2_4 hc, r_2_5 hc, x_61 hc, n_61 hc, r_2_6 hc, r_2_7 hc, r_2_8 hc, r_2_9 hc, b_46 hc, r_46_0 hc, r_46_1 hc, x_54 hc, r_46_2 hc, x_55 hc, r_46_3 hc, x_56 hc, r_46_4 hc, x_57 hc, r_46_5 hc, x_58 hc, r_46_6 hc, x_59 hc, hd0, hd1, cIsTile _ h.1, cIsWay, q0]
    exact hno (by omega)
theorem rGoes {d : Nat} {t w b : Int} {x90 : zV} (h : MS θ σ s μ) (hd : 11 ≤ d) (hb : b = 0 ∨ b = 1) (hQ : ∀ μ', ML2 μ μ' → MS θ σ s μ' → Q (some (vi (vGoes σ t w b))) θ μ') : Ex d 229 0 [vr 138, vi t, vi w, vi b, x90] [] θ μ Q := by
  have hm := h.1.1
  have hd0 : 0 < d := by omega
  have hd1 : 0 < d - 1 := by omega
  have hn := tn_b h.1.2.1
  have hno : ¬ ((0 ≤ t ∧ t < (tn (sT σ) : Int)) ∧ (0 ≤ w ∧ w ≤ 3)) → Q (some (vi (-1))) θ μ := fun hn => by
    have := hQ μ (fun _ _ => rfl) h
    unfold vGoes at this
    rwa [if_neg hn] at this
  have hyes : ((0 ≤ t ∧ t < (tn (sT σ) : Int)) ∧ (0 ≤ w ∧ w ≤ 3)) → ∀ {μ'}, ML2 μ μ' → MS θ σ s μ' → Q (some (vi (if (gR (sG σ)).1 0 t.toNat = 0 then -2 else fsG (fun g => wgO (sT σ) (gR (sG σ)) t.toNat g w b)))) θ μ' := fun hp μ' a b => by
    have := hQ μ' a b
    unfold vGoes at this
    rwa [if_pos hp] at this
  by_cases q0 : 0 ≤ t ∧ t < (tn (sT σ) : Int)
  · by_cases q1 : 0 ≤ w ∧ w ≤ 3
    · obtain ⟨N, rfl⟩ : ∃ N : Nat, t = (N : Int) := ⟨t.toNat, by omega⟩
      have hN : N < tn (sT σ) := by omega
      have e0 : μ 172 N = 1 - (gR (sG σ)).1 0 N := h.2.2.1.1.2 N hN
      have hz := (h.2.1.2.1.1.1 N hN).1
      have hy := fun {μ'} => hyes ⟨q0, q1⟩ (μ' := μ')
      rw [Int.toNat_natCast] at hy
      by_cases q2 : (gR (sG σ)).1 0 N = 0
      · rw [if_pos q2] at hy
        rw [q2] at e0
        simp (disch := omega) only [x229_0, x229_1, x229_2, x229_5, x229_8, x229_9, x229_10, x229_11, x229_14, x229_17, x229_18, x229_19, x229_20, x229_23, x229_24, x229_25, x229_28, x229_30, x229_31, x229_32, x229_36, x229_38, x229_41, x229_42, x229_43, x229_45, x229_46, x229_47, x229_50, x229_53, x229_55, x229_56, x229_59, x229_62, x229_64, ↓reduceIte, Bool.false_eq_true, Nat.reduceAdd, Nat.reduceLT, Nat.reduceLeDiff, Nat.reduceSub, Nat.reduceEqDiff, Int.reduceToNat, Int.reduceEq, Int.reduceLT, Int.reduceLE, Int.reduceAdd, Int.reduceSub, zg, zI, zJ, zR, zst, zkl, zn, zcat, zok, zraw, List.length_cons, List.length_nil, Option.toList, List.nil_append, List.cons_append, true_and, and_true, if_true, if_false, ne_eq, not_true, not_false_eq_true, and_self, true_or, or_true, false_or, or_false, false_and, and_false, b_138 hm, r_138_51 hm, x_172 hm, n_172 hm, hd0, hd1, mIsTile (d := d - 1) h.1 (by omega), mIn, q0, q1, Int.toNat_natCast, e0]
        exact hy (fun _ _ => rfl) h
      · rw [if_neg q2] at hy
        have e0' : μ 172 N = 0 := by omega
        have key : ∀ i L μ1, i ≤ 100 → (L = [vr 138, vi (N : Nat), vi w, vi b, vi (i : Nat)] ∧ Fr GF μ μ1 ∧ J5 μ μ1 ∧ ∀ j, j < i → wgO (sT σ) (gR (sG σ)) N (j : Nat) w b = false) → Ex d 229 34 L [] θ μ1 Q := by
          refine Ex_loop (I := fun i L μ1 => L = [vr 138, vi (N : Nat), vi w, vi b, vi (i : Nat)] ∧ Fr GF μ μ1 ∧ J5 μ μ1 ∧ ∀ j, j < i → wgO (sT σ) (gR (sG σ)) N (j : Nat) w b = false) 100 ?_ ?_
          · rintro i L μ1 hi ⟨rfl, hf, hj5, hj⟩ hk
            have h1 := MS_fr h hf (by decide) hj5.nine
            have i1 : ¬ (100 : Int) ≤ (i : Int) := by omega
            rw [x229_34]
            simp (disch := omega) only [x229_0, x229_1, x229_2, x229_5, x229_8, x229_9, x229_10, x229_11, x229_14, x229_17, x229_18, x229_19, x229_20, x229_23, x229_24, x229_25, x229_28, x229_30, x229_31, x229_32, x229_36, x229_38, x229_41, x229_42, x229_43, x229_45, x229_46, x229_47, x229_50, x229_53, x229_55, x229_56, x229_59, x229_62, x229_64, ↓reduceIte, Bool.false_eq_true, Nat.reduceAdd, Nat.reduceLT, Nat.reduceLeDiff, Nat.reduceSub, Nat.reduceEqDiff, Int.reduceToNat, Int.reduceEq, Int.reduceLT, Int.reduceLE, Int.reduceAdd, Int.reduceSub, zg, zI, zJ, zR, zst, zkl, zn, zcat, zok, zraw, List.length_cons, List.length_nil, Option.toList, List.nil_append, List.cons_append, true_and, and_true, if_true, if_false, ne_eq, not_true, not_false_eq_true, and_self, true_or, or_true, false_or, or_false, false_and, and_false, b_138 hm, hd0, i1]
            refine rGoesAt (d := d - 1) h1 (by omega) hN (by omega) q1 hb ?_
            intro μ2 hf2 hj52
            have hj6 : J5 μ μ2 := fun j a b => by rw [hj52 j a b, hj5 j a b]
            cases hP : wgO (sT σ) (gR (sG σ)) N (i : Nat) w b with
            | true =>
              simp (disch := omega) only [x229_0, x229_1, x229_2, x229_5, x229_8, x229_9, x229_10, x229_11, x229_14, x229_17, x229_18, x229_19, x229_20, x229_23, x229_24, x229_25, x229_28, x229_30, x229_31, x229_32, x229_36, x229_38, x229_41, x229_42, x229_43, x229_45, x229_46, x229_47, x229_50, x229_53, x229_55, x229_56, x229_59, x229_62, x229_64, ↓reduceIte, Bool.false_eq_true, Nat.reduceAdd, Nat.reduceLT, Nat.reduceLeDiff, Nat.reduceSub, Nat.reduceEqDiff, Int.reduceToNat, Int.reduceEq, Int.reduceLT, Int.reduceLE, Int.reduceAdd, Int.reduceSub, zg, zI, zJ, zR, zst, zkl, zn, zcat, zok, zraw, List.length_cons, List.length_nil, Option.toList, List.nil_append, List.cons_append, true_and, and_true, if_true, if_false, ne_eq, not_true, not_false_eq_true, and_self, true_or, or_true, false_or, or_false, false_and, and_false, b2]
              have := hy (MLe_fr (hf.trans hf2) (by decide)) (MS_fr h (hf.trans hf2) (by decide) hj6.nine)
              rwa [fsG_at hi hj hP] at this
            | false =>
              simp (disch := omega) only [x229_0, x229_1, x229_2, x229_5, x229_8, x229_9, x229_10, x229_11, x229_14, x229_17, x229_18, x229_19, x229_20, x229_23, x229_24, x229_25, x229_28, x229_30, x229_31, x229_32, x229_36, x229_38, x229_41, x229_42, x229_43, x229_45, x229_46, x229_47, x229_50, x229_53, x229_55, x229_56, x229_59, x229_62, x229_64, ↓reduceIte, Bool.false_eq_true, Nat.reduceAdd, Nat.reduceLT, Nat.reduceLeDiff, Nat.reduceSub, Nat.reduceEqDiff, Int.reduceToNat, Int.reduceEq, Int.reduceLT, Int.reduceLE, Int.reduceAdd, Int.reduceSub, zg, zI, zJ, zR, zst, zkl, zn, zcat, zok, zraw, List.length_cons, List.length_nil, Option.toList, List.nil_append, List.cons_append, true_and, and_true, if_true, if_false, ne_eq, not_true, not_false_eq_true, and_self, true_or, or_true, false_or, or_false, false_and, and_false, b2, w32_s]
              exact hk _ _ ⟨rfl, hf.trans hf2, hj6, fun j hjj => by
                by_cases hji : j < i
                · exact hj j hji
                · have : j = i := by omega
                  subst this; exact hP⟩
          · rintro L μ1 ⟨rfl, hf, hj5, hj⟩
            rw [x229_34]
            simp (disch := omega) only [x229_0, x229_1, x229_2, x229_5, x229_8, x229_9, x229_10, x229_11, x229_14, x229_17, x229_18, x229_19, x229_20, x229_23, x229_24, x229_25, x229_28, x229_30, x229_31, x229_32, x229_36, x229_38, x229_41, x229_42, x229_43, x229_45, x229_46, x229_47, x229_50, x229_53, x229_55, x229_56, x229_59, x229_62, x229_64, ↓reduceIte, Bool.false_eq_true, Nat.reduceAdd, Nat.reduceLT, Nat.reduceLeDiff, Nat.reduceSub, Nat.reduceEqDiff, Int.reduceToNat, Int.reduceEq, Int.reduceLT, Int.reduceLE, Int.reduceAdd, Int.reduceSub, zg, zI, zJ, zR, zst, zkl, zn, zcat, zok, zraw, List.length_cons, List.length_nil, Option.toList, List.nil_append, List.cons_append, true_and, and_true, if_true, if_false, ne_eq, not_true, not_false_eq_true, and_self, true_or, or_true, false_or, or_false, false_and, and_false, Int.le_refl]
            have := hy (MLe_fr hf (by decide)) (MS_fr h hf (by decide) hj5.nine)
            rwa [fsG_no hj] at this
        simp (disch := omega) only [x229_0, x229_1, x229_2, x229_5, x229_8, x229_9, x229_10, x229_11, x229_14, x229_17, x229_18, x229_19, x229_20, x229_23, x229_24, x229_25, x229_28, x229_30, x229_31, x229_32, x229_36, x229_38, x229_41, x229_42, x229_43, x229_45, x229_46, x229_47, x229_50, x229_53, x229_55, x229_56, x229_59, x229_62, x229_64, ↓reduceIte, Bool.false_eq_true, Nat.reduceAdd, Nat.reduceLT, Nat.reduceLeDiff, Nat.reduceSub, Nat.reduceEqDiff, Int.reduceToNat, Int.reduceEq, Int.reduceLT, Int.reduceLE, Int.reduceAdd, Int.reduceSub, zg, zI, zJ, zR, zst, zkl, zn, zcat, zok, zraw, List.length_cons, List.length_nil, Option.toList, List.nil_append, List.cons_append, true_and, and_true, if_true, if_false, ne_eq, not_true, not_false_eq_true, and_self, true_or, or_true, false_or, or_false, false_and, and_false, b_138 hm, r_138_51 hm, x_172 hm, n_172 hm, hd0, hd1, mIsTile (d := d - 1) h.1 (by omega), mIn, q0, q1, Int.toNat_natCast, e0']
        exact key 0 _ _ (by omega) ⟨rfl, Fr.refl, fun _ _ _ => rfl, fun j hj => by omega⟩
    · simp (disch := omega) only [x229_0, x229_1, x229_2, x229_5, x229_8, x229_9, x229_10, x229_11, x229_14, x229_17, x229_18, x229_19, x229_20, x229_23, x229_24, x229_25, x229_28, x229_30, x229_31, x229_32, x229_36, x229_38, x229_41, x229_42, x229_43, x229_45, x229_46, x229_47, x229_50, x229_53, x229_55, x229_56, x229_59, x229_62, x229_64, ↓reduceIte, Bool.false_eq_true, Nat.reduceAdd, Nat.reduceLT, Nat.reduceLeDiff, Nat.reduceSub, Nat.reduceEqDiff, Int.reduceToNat, Int.reduceEq, Int.reduceLT, Int.reduceLE, Int.reduceAdd, Int.reduceSub, zg, zI, zJ, zR, zst, zkl, zn, zcat, zok, zraw, List.length_cons, List.length_nil, Option.toList, List.nil_append, List.cons_append, true_and, and_true, if_true, if_false, ne_eq, not_true, not_false_eq_true, and_self, true_or, or_true, false_or, or_false, false_and, and_false, b_138 hm, hd0, hd1, mIsTile (d := d - 1) h.1 (by omega), mIn, q0, q1]
      exact hno (by omega)
  · simp (disch := omega) only [x229_0, x229_1, x229_2, x229_5, x229_8, x229_9, x229_10, x229_11, x229_14, x229_17, x229_18, x229_19, x229_20, x229_23, x229_24, x229_25, x229_28, x229_30, x229_31, x229_32, x229_36, x229_38, x229_41, x229_42, x229_43, x229_45, x229_46, x229_47, x229_50, x229_53, x229_55, x229_56, x229_59, x229_62, x229_64, ↓reduceIte, Bool.false_eq_true, Nat.reduceAdd, Nat.reduceLT, Nat.reduceLeDiff, Nat.reduceSub, Nat.reduceEqDiff, Int.reduceToNat, Int.reduceEq, Int.reduceLT, Int.reduceLE, Int.reduceAdd, Int.reduceSub, zg, zI, zJ, zR, zst, zkl, zn, zcat, zok, zraw, List.length_cons, List.length_nil, Option.toList, List.nil_append, List.cons_append, true_and, and_true, if_true, if_false, ne_eq, not_true, not_false_eq_true, and_self, true_or, or_true, false_or, or_false, false_and, and_false, b_138 hm, hd0, hd1, mIsTile (d := d - 1) h.1 (by omega), mIn, q0]
    exact hno (by omega)
end CC
