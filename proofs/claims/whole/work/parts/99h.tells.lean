/-! CALLS: yardTells, of the class -/
section TL
variable {θ : zS} {T U : Nat} {σ : zSt} {Q : Option zV → zS → zM → Prop} {μ : zM} {s : Nat} {τ : zT} {ρ : zF} {g w : Int}
theorem whF_w (h : wfF τ ρ) : wfF τ (whF ρ) := by
  refine ⟨fun t ht => ?_, h.2.1, h.2.2⟩
  have := h.1 t ht
  unfold whF
  refine ⟨Or.inr rfl, ?_, ?_, ?_, ?_⟩
  · simp; exact this.2.1
  · simp; exact this.2.2.1
  · simp; exact this.2.2.2.1
  · simp; exact this.2.2.2.2
/-- how much further apart by m that land where y lie -/
def gAp (m y : Int) : Int := (if y < m then m - y else y - m) - y
theorem gAp_s (m y : Int) : gAp (m + 1) y = gAp m y + (if m + 1 ≤ y then -1 else 1) := by unfold gAp; omega
def apS (n : Nat) (c Y : Nat → Int) : Int := sm (fun k => gAp (lyC n c k) (Y k)) 480
theorem apS_0 {c Y : Nat → Int} (h : ∀ k, k < 480 → 0 ≤ Y k) : apS 0 c Y = 0 := by
  unfold apS
  rw [sm_congr (g := fun _ => 0) (fun k hk => ?_), sm_zero]
  have := h k hk
  show gAp 0 (Y k) = 0
  unfold gAp; omega
theorem apS_s {n : Nat} {c Y : Nat → Int} (hc : ixO (c n) < 480) : apS (n + 1) c Y = apS n c Y + (if lyC n c (ixO (c n)) + 1 ≤ Y (ixO (c n)) then -1 else 1) := by
  have e : (fun k => gAp (lyC (n + 1) c k) (Y k)) = zup (fun k => gAp (lyC n c k) (Y k)) (ixO (c n)) (gAp (lyC n c (ixO (c n)) + 1) (Y (ixO (c n)))) := by
    funext k
    have es : lyC (n + 1) c k = lyC n c k + (if ixO (c n) = k then 1 else 0) := rfl
    rw [es]
    by_cases h : k = ixO (c n)
    · rw [zup_same h, h, if_pos rfl]
    · rw [zup_ne h, if_neg (fun hh => h hh.symm), Int.add_zero]
  unfold apS
  rw [e, sm_upd, if_pos hc, gAp_s]
  omega
theorem apS_b {n : Nat} {c Y : Nat → Int} (hc : ∀ i, i < n → clI (c i)) (hY : ∀ k, k < 480 → 0 ≤ Y k) : ∀ m, m ≤ n → -(m : Int) ≤ apS m c Y ∧ apS m c Y ≤ m := by
  intro m
  induction m with
  | zero => intro _; rw [apS_0 hY]; exact ⟨by decide, by decide⟩
  | succ m ih =>
    intro hm
    have := ih (by omega)
    rw [apS_s (ix_b (hc m (by omega))).1]
    by_cases h : lyC m c (ixO (c m)) + 1 ≤ Y (ixO (c m))
    · rw [if_pos h]; omega
    · rw [if_neg h]; omega
theorem cApart {d n : Nat} {c Y : Nat → Int} {x1 x2 x3 : zV} (hc : Tc θ) (hd : 1 ≤ d) (hL : LD n c μ) (hY : ∀ k, k < 480 → μ 54 k = Y k) (hY0 : ∀ k, k < 480 → 0 ≤ Y k) (h130 : ∀ k, k < 480 → μ 130 k = 0)
    (hQ : ∀ μ', Fr [130] μ μ' → (∀ k, k < 480 → μ' 130 k = 0) → Q (some (vi (apS n c Y))) θ μ') : Ex d 87 0 [vr 122, x1, x2, x3] [] θ μ Q := by
  have hd0 : 0 < d := by omega
  obtain ⟨h36, h3, hi⟩ := hL
  have hcl : ∀ i, i < n → clI (c i) := fun i hh => by obtain ⟨_, _, _, _, h⟩ := hi i hh; exact h
  have second : ∀ t L μ1, t ≤ n → (∃ y3 : zV, L = [vr 122, vi (apS n c Y), vi (t : Nat), y3] ∧ Fr [130] μ μ1 ∧ ∀ k, k < 480 → μ1 130 k = 0 ∨ (μ1 130 k = lyC n c k ∧ ∀ i, i < t → ixO (c i) ≠ k)) → Ex d 87 85 L [] θ μ1 Q := by
    refine Ex_loop (I := fun t L μ1 => ∃ y3 : zV, L = [vr 122, vi (apS n c Y), vi (t : Nat), y3] ∧ Fr [130] μ μ1 ∧ ∀ k, k < 480 → μ1 130 k = 0 ∨ (μ1 130 k = lyC n c k ∧ ∀ i, i < t → ixO (c i) ≠ k)) n ?_ ?_
    · rintro t L μ1 ht ⟨y3, rfl, f, hk0⟩ hk
      obtain ⟨q, q36, e41, e43, ecl⟩ := hi t ht
      have hb := (ix_b ecl).1
      have e3 : μ1 40 3 = (n : Nat) := by rw [f 40 (by decide)]; exact h3
      have e41' : μ1 41 t = (q : Nat) := by rw [f 41 (by decide)]; exact e41
      have e43' : μ1 43 q = c t := by rw [f 43 (by decide)]; exact e43
      have eci : ciO (c t) = ((ixO (c t) : Nat) : Int) := if_pos ecl
      have c1 : ¬ ((n : Nat) : Int) ≤ (t : Int) := by omega
      have i1 : (0 : Int) ≤ (t : Int) := by omega
      have i2 : (t : Int) < 36 := by omega
      have j1 : (0 : Int) ≤ (q : Int) := by omega
      have j2 : (q : Int) < 36 := by omega
      have k1 : (0 : Int) ≤ ((ixO (c t) : Nat) : Int) := by omega
      have k2 : ((ixO (c t) : Nat) : Int) < 480 := by omega
      have n1 : ¬ ((ixO (c t) : Nat) : Int) = -1 := by omega
      have w1 : t < 2147483647 := by omega
      rw [x87_85]
      simp only [x87_0, x87_1, x87_2, x87_3, x87_5, x87_6, x87_9, x87_12, x87_15, x87_16, x87_19, x87_22, x87_23, x87_26, x87_29, x87_30, x87_31, x87_32, x87_35, x87_36, x87_37, x87_38, x87_41, x87_42, x87_45, x87_46, x87_47, x87_48, x87_49, x87_50, x87_51, x87_52, x87_53, x87_56, x87_57, x87_58, x87_59, x87_62, x87_65, x87_66, x87_67, x87_70, x87_71, x87_74, x87_75, x87_76, x87_77, x87_80, x87_83, x87_84, x87_86, x87_87, x87_90, x87_93, x87_96, x87_97, x87_100, x87_103, x87_104, x87_107, x87_110, x87_111, x87_112, x87_113, x87_116, x87_117, x87_118, x87_119, x87_122, x87_123, x87_126, x87_127, x87_128, x87_129, x87_132, x87_135, x87_136, ↓reduceIte, Bool.false_eq_true, Nat.reduceAdd, Nat.reduceLT, Nat.reduceLeDiff, Nat.reduceSub, Nat.reduceEqDiff, Int.reduceToNat, Int.reduceEq, Int.reduceLT, Int.reduceLE, Int.reduceAdd, Int.reduceSub, zg, zI, zJ, zR, zst, zkl, zn, zcat, zok, zraw, List.length_cons, List.length_nil, Option.toList, List.nil_append, List.cons_append, true_and, and_true, if_true, if_false, ne_eq, not_true, not_false_eq_true, and_self, true_or, or_true, false_or, or_false, false_and, and_false, b_122 hc, r_122_5 hc, b_40 hc, r_40_2 hc, r_40_0 hc, x_41 hc i1 i2, x_43 hc j1 j2, e3, c1, Int.toNat_natCast, e41', e43', cCellIx, eci, n1, r_122_8 hc, x_130 hc k1 k2, hd0, ua_eq, w32_s w1]
      refine hk _ _ ⟨_, rfl, f.trans (Fr.us (by simp) Fr.refl), fun k hk480 => ?_⟩
      rw [us_same]
      by_cases e : k = ixO (c t)
      · rw [zup_same e]; exact Or.inl rfl
      · rw [zup_ne e]
        rcases hk0 k hk480 with h | h
        · exact Or.inl h
        · exact Or.inr ⟨h.1, all_s h.2 (fun hh => e hh.symm)⟩
    · rintro L μ1 ⟨y3, rfl, f, hk0⟩
      have e3 : μ1 40 3 = (n : Nat) := by rw [f 40 (by decide)]; exact h3
      rw [x87_85]
      simp only [x87_0, x87_1, x87_2, x87_3, x87_5, x87_6, x87_9, x87_12, x87_15, x87_16, x87_19, x87_22, x87_23, x87_26, x87_29, x87_30, x87_31, x87_32, x87_35, x87_36, x87_37, x87_38, x87_41, x87_42, x87_45, x87_46, x87_47, x87_48, x87_49, x87_50, x87_51, x87_52, x87_53, x87_56, x87_57, x87_58, x87_59, x87_62, x87_65, x87_66, x87_67, x87_70, x87_71, x87_74, x87_75, x87_76, x87_77, x87_80, x87_83, x87_84, x87_86, x87_87, x87_90, x87_93, x87_96, x87_97, x87_100, x87_103, x87_104, x87_107, x87_110, x87_111, x87_112, x87_113, x87_116, x87_117, x87_118, x87_119, x87_122, x87_123, x87_126, x87_127, x87_128, x87_129, x87_132, x87_135, x87_136, ↓reduceIte, Bool.false_eq_true, Nat.reduceAdd, Nat.reduceLT, Nat.reduceLeDiff, Nat.reduceSub, Nat.reduceEqDiff, Int.reduceToNat, Int.reduceEq, Int.reduceLT, Int.reduceLE, Int.reduceAdd, Int.reduceSub, zg, zI, zJ, zR, zst, zkl, zn, zcat, zok, zraw, List.length_cons, List.length_nil, Option.toList, List.nil_append, List.cons_append, true_and, and_true, if_true, if_false, ne_eq, not_true, not_false_eq_true, and_self, true_or, or_true, false_or, or_false, false_and, and_false, b_122 hc, r_122_5 hc, b_40 hc, e3, Int.le_refl]
      refine hQ μ1 f (fun k hk480 => ?_)
      rcases hk0 k hk480 with h | h
      · exact h
      · rw [h.1]
        unfold lyC
        rw [sm_congr (g := fun _ => 0) (fun i hi2 => if_neg (h.2 i hi2)), sm_zero]
  have first : ∀ t L μ1, t ≤ n → (∃ y3 : zV, L = [vr 122, vi (apS t c Y), vi (t : Nat), y3] ∧ Fr [130] μ μ1 ∧ ∀ k, k < 480 → μ1 130 k = lyC t c k) → Ex d 87 4 L [] θ μ1 Q := by
    refine Ex_loop (I := fun t L μ1 => ∃ y3 : zV, L = [vr 122, vi (apS t c Y), vi (t : Nat), y3] ∧ Fr [130] μ μ1 ∧ ∀ k, k < 480 → μ1 130 k = lyC t c k) n ?_ ?_
    · rintro t L μ1 ht ⟨y3, rfl, f, hk0⟩ hk
      obtain ⟨q, q36, e41, e43, ecl⟩ := hi t ht
      have hb := (ix_b ecl).1
      have e3 : μ1 40 3 = (n : Nat) := by rw [f 40 (by decide)]; exact h3
      have e41' : μ1 41 t = (q : Nat) := by rw [f 41 (by decide)]; exact e41
      have e43' : μ1 43 q = c t := by rw [f 43 (by decide)]; exact e43
      have eci : ciO (c t) = ((ixO (c t) : Nat) : Int) := if_pos ecl
      have e54 : μ1 54 (ixO (c t)) = Y (ixO (c t)) := by rw [f 54 (by decide)]; exact hY _ hb
      have e130 := hk0 _ hb
      have c1 : ¬ ((n : Nat) : Int) ≤ (t : Int) := by omega
      have i1 : (0 : Int) ≤ (t : Int) := by omega
      have i2 : (t : Int) < 36 := by omega
      have j1 : (0 : Int) ≤ (q : Int) := by omega
      have j2 : (q : Int) < 36 := by omega
      have k1 : (0 : Int) ≤ ((ixO (c t) : Nat) : Int) := by omega
      have k2 : ((ixO (c t) : Nat) : Int) < 480 := by omega
      have n1 : ¬ ((ixO (c t) : Nat) : Int) = -1 := by omega
      have w1 : t < 2147483647 := by omega
      have lb := ly_b (n := n) (m := t) (c := c) (k := ixO (c t))
      have ll : lyC t c (ixO (c t)) = sm (fun i => if ixO (c i) = ixO (c t) then 1 else 0) t := rfl
      rw [← ll] at lb
      have l1 : -2147483648 ≤ lyC t c (ixO (c t)) + 1 := by omega
      have l2 : lyC t c (ixO (c t)) + 1 ≤ 2147483647 := by omega
      have ab := apS_b hcl hY0 t (by omega)
      have as := apS_s (n := t) (c := c) (Y := Y) hb
      have ely : ∀ k, lyC (t + 1) c k = lyC t c k + (if ixO (c t) = k then 1 else 0) := fun k => rfl
      have fin : ∀ (μ2 : zM), μ2 = us μ1 130 (zup (μ1 130) (ixO (c t)) (lyC t c (ixO (c t)) + 1)) → Fr [130] μ μ2 ∧ (∀ k, k < 480 → μ2 130 k = lyC (t + 1) c k) ∧ μ2 130 (ixO (c t)) = lyC t c (ixO (c t)) + 1 ∧ μ2 54 = μ1 54 := fun μ2 e => by
        subst e
        refine ⟨f.trans (Fr.us (by simp) Fr.refl), fun k hk480 => ?_, ?_, us_ne (by decide)⟩
        · rw [us_same, ely]
          by_cases ek : k = ixO (c t)
          · rw [zup_same ek, ek, if_pos rfl]
          · rw [zup_ne ek, if_neg (fun hh => ek hh.symm), Int.add_zero]; exact hk0 k hk480
        · rw [us_same, zup_same rfl]
      obtain ⟨μ2, hμ2⟩ : ∃ μ2, μ2 = us μ1 130 (zup (μ1 130) (ixO (c t)) (lyC t c (ixO (c t)) + 1)) := ⟨_, rfl⟩
      obtain ⟨g1, g2, g3, g4⟩ := fin μ2 hμ2
      have e54' : μ2 54 (ixO (c t)) = Y (ixO (c t)) := by rw [g4]; exact e54
      rw [x87_4]
      by_cases p : lyC t c (ixO (c t)) + 1 ≤ Y (ixO (c t))
      · rw [if_pos p] at as
        have p' : ¬ Y (ixO (c t)) < lyC t c (ixO (c t)) + 1 := by omega
        have m1 : -2147483648 ≤ apS t c Y + -1 := by omega
        have m2 : apS t c Y + -1 ≤ 2147483647 := by omega
        simp only [x87_0, x87_1, x87_2, x87_3, x87_5, x87_6, x87_9, x87_12, x87_15, x87_16, x87_19, x87_22, x87_23, x87_26, x87_29, x87_30, x87_31, x87_32, x87_35, x87_36, x87_37, x87_38, x87_41, x87_42, x87_45, x87_46, x87_47, x87_48, x87_49, x87_50, x87_51, x87_52, x87_53, x87_56, x87_57, x87_58, x87_59, x87_62, x87_65, x87_66, x87_67, x87_70, x87_71, x87_74, x87_75, x87_76, x87_77, x87_80, x87_83, x87_84, x87_86, x87_87, x87_90, x87_93, x87_96, x87_97, x87_100, x87_103, x87_104, x87_107, x87_110, x87_111, x87_112, x87_113, x87_116, x87_117, x87_118, x87_119, x87_122, x87_123, x87_126, x87_127, x87_128, x87_129, x87_132, x87_135, x87_136, ↓reduceIte, Bool.false_eq_true, Nat.reduceAdd, Nat.reduceLT, Nat.reduceLeDiff, Nat.reduceSub, Nat.reduceEqDiff, Int.reduceToNat, Int.reduceEq, Int.reduceLT, Int.reduceLE, Int.reduceAdd, Int.reduceSub, zg, zI, zJ, zR, zst, zkl, zn, zcat, zok, zraw, List.length_cons, List.length_nil, Option.toList, List.nil_append, List.cons_append, true_and, and_true, if_true, if_false, ne_eq, not_true, not_false_eq_true, and_self, true_or, or_true, false_or, or_false, false_and, and_false, b_122 hc, r_122_5 hc, b_40 hc, r_40_2 hc, r_40_0 hc, x_41 hc i1 i2, x_43 hc j1 j2, e3, c1, Int.toNat_natCast, e41', e43', cCellIx, eci, n1, r_122_8 hc, x_130 hc k1 k2, hd0, ua_eq, e130, w32_i l1 l2, ← hμ2, g3, r_122_6 hc, b_46 hc, r_46_1 hc, x_54 hc k1 k2, e54', p', w32_i m1 m2, w32_s w1, zkl]
        exact hk _ _ ⟨_, by rw [as], g1, g2⟩
      · rw [if_neg p] at as
        have p' : Y (ixO (c t)) < lyC t c (ixO (c t)) + 1 := by omega
        have m1 : -2147483648 ≤ apS t c Y + 1 := by omega
        have m2 : apS t c Y + 1 ≤ 2147483647 := by omega
        simp only [x87_0, x87_1, x87_2, x87_3, x87_5, x87_6, x87_9, x87_12, x87_15, x87_16, x87_19, x87_22, x87_23, x87_26, x87_29, x87_30, x87_31, x87_32, x87_35, x87_36, x87_37, x87_38, x87_41, x87_42, x87_45, x87_46, x87_47, x87_48, x87_49, x87_50, x87_51, x87_52, x87_53, x87_56, x87_57, x87_58, x87_59, x87_62, x87_65, x87_66, x87_67, x87_70, x87_71, x87_74, x87_75, x87_76, x87_77, x87_80, x87_83, x87_84, x87_86, x87_87, x87_90, x87_93, x87_96, x87_97, x87_100, x87_103, x87_104, x87_107, x87_110, x87_111, x87_112, x87_113, x87_116, x87_117, x87_118, x87_119, x87_122, x87_123, x87_126, x87_127, x87_128, x87_129, x87_132, x87_135, x87_136, ↓reduceIte, Bool.false_eq_true, Nat.reduceAdd, Nat.reduceLT, Nat.reduceLeDiff, Nat.reduceSub, Nat.reduceEqDiff, Int.reduceToNat, Int.reduceEq, Int.reduceLT, Int.reduceLE, Int.reduceAdd, Int.reduceSub, zg, zI, zJ, zR, zst, zkl, zn, zcat, zok, zraw, List.length_cons, List.length_nil, Option.toList, List.nil_append, List.cons_append, true_and, and_true, if_true, if_false, ne_eq, not_true, not_false_eq_true, and_self, true_or, or_true, false_or, or_false, false_and, and_false, b_122 hc, r_122_5 hc, b_40 hc, r_40_2 hc, r_40_0 hc, x_41 hc i1 i2, x_43 hc j1 j2, e3, c1, Int.toNat_natCast, e41', e43', cCellIx, eci, n1, r_122_8 hc, x_130 hc k1 k2, hd0, ua_eq, e130, w32_i l1 l2, ← hμ2, g3, r_122_6 hc, b_46 hc, r_46_1 hc, x_54 hc k1 k2, e54', p', w32_i m1 m2, w32_s w1, zkl]
        exact hk _ _ ⟨_, by rw [as], g1, g2⟩
    · rintro L μ1 ⟨y3, rfl, f, hk0⟩
      have e3 : μ1 40 3 = (n : Nat) := by rw [f 40 (by decide)]; exact h3
      rw [x87_4]
      simp only [x87_0, x87_1, x87_2, x87_3, x87_5, x87_6, x87_9, x87_12, x87_15, x87_16, x87_19, x87_22, x87_23, x87_26, x87_29, x87_30, x87_31, x87_32, x87_35, x87_36, x87_37, x87_38, x87_41, x87_42, x87_45, x87_46, x87_47, x87_48, x87_49, x87_50, x87_51, x87_52, x87_53, x87_56, x87_57, x87_58, x87_59, x87_62, x87_65, x87_66, x87_67, x87_70, x87_71, x87_74, x87_75, x87_76, x87_77, x87_80, x87_83, x87_84, x87_86, x87_87, x87_90, x87_93, x87_96, x87_97, x87_100, x87_103, x87_104, x87_107, x87_110, x87_111, x87_112, x87_113, x87_116, x87_117, x87_118, x87_119, x87_122, x87_123, x87_126, x87_127, x87_128, x87_129, x87_132, x87_135, x87_136, ↓reduceIte, Bool.false_eq_true, Nat.reduceAdd, Nat.reduceLT, Nat.reduceLeDiff, Nat.reduceSub, Nat.reduceEqDiff, Int.reduceToNat, Int.reduceEq, Int.reduceLT, Int.reduceLE, Int.reduceAdd, Int.reduceSub, zg, zI, zJ, zR, zst, zkl, zn, zcat, zok, zraw, List.length_cons, List.length_nil, Option.toList, List.nil_append, List.cons_append, true_and, and_true, if_true, if_false, ne_eq, not_true, not_false_eq_true, and_self, true_or, or_true, false_or, or_false, false_and, and_false, b_122 hc, r_122_5 hc, b_40 hc, e3, Int.le_refl, zkl]
      exact second 0 _ _ (Nat.zero_le _) ⟨_, rfl, f, fun k hk480 => Or.inr ⟨hk0 k hk480, fun i hi2 => absurd hi2 (Nat.not_lt_zero _)⟩⟩
  simp only [x87_0, x87_1, x87_2, x87_3, x87_5, x87_6, x87_9, x87_12, x87_15, x87_16, x87_19, x87_22, x87_23, x87_26, x87_29, x87_30, x87_31, x87_32, x87_35, x87_36, x87_37, x87_38, x87_41, x87_42, x87_45, x87_46, x87_47, x87_48, x87_49, x87_50, x87_51, x87_52, x87_53, x87_56, x87_57, x87_58, x87_59, x87_62, x87_65, x87_66, x87_67, x87_70, x87_71, x87_74, x87_75, x87_76, x87_77, x87_80, x87_83, x87_84, x87_86, x87_87, x87_90, x87_93, x87_96, x87_97, x87_100, x87_103, x87_104, x87_107, x87_110, x87_111, x87_112, x87_113, x87_116, x87_117, x87_118, x87_119, x87_122, x87_123, x87_126, x87_127, x87_128, x87_129, x87_132, x87_135, x87_136, ↓reduceIte, Bool.false_eq_true, Nat.reduceAdd, Nat.reduceLT, Nat.reduceLeDiff, Nat.reduceSub, Nat.reduceEqDiff, Int.reduceToNat, Int.reduceEq, Int.reduceLT, Int.reduceLE, Int.reduceAdd, Int.reduceSub, zg, zI, zJ, zR, zst, zkl, zn, zcat, zok, zraw, List.length_cons, List.length_nil, Option.toList, List.nil_append, List.cons_append, true_and, and_true, if_true, if_false, ne_eq, not_true, not_false_eq_true, and_self, true_or, or_true, false_or, or_false, false_and, and_false]
  refine first 0 _ _ (Nat.zero_le _) ⟨x3, by rw [apS_0 hY0]; rfl, Fr.refl, fun k hk480 => ?_⟩
  rw [h130 k hk480]; rfl
/-- what that says of apart -/
theorem ap_eq {γ : zG} (hw : wfT τ) : sm (gY γ) 480 + apS (foO τ (whF (gR γ)) g w (gnO τ (whF (gR γ)))) (cAt2 τ (whF (gR γ)) g w) (gY γ) = apO τ γ g w := by
  have e1 : ∀ k, lyO τ (whF (gR γ)) g w k = lyC (foO τ (whF (gR γ)) g w (gnO τ (whF (gR γ)))) (cAt2 τ (whF (gR γ)) g w) k := ly_eq
  unfold apS apO
  rw [← sm_add]
  refine sm_congr (fun k _ => ?_)
  rw [← e1]
  unfold gAp; omega
theorem ap_b {γ : zG} {B : Nat} (hw : wfT τ) (h : wfG τ γ B) (hB : B ≤ 36 * 600) : 0 ≤ apO τ γ g w ∧ apO τ γ g w ≤ 36 * 601 := by
  obtain ⟨_, ⟨h2, h3⟩, _⟩ := h
  obtain ⟨l1, l2, _⟩ := ly_36 (ρ := whF (gR γ)) (g := g) (w := w) hw
  unfold apO
  refine ⟨sm_nn (fun k hk => ?_), ?_⟩
  · have := h2 k hk; have := (l1 k).1
    by_cases hh : gY γ k < lyO τ (whF (gR γ)) g w k
    · rw [if_pos hh]; omega
    · rw [if_neg hh]; omega
  · have : sm (fun k => if gY γ k < lyO τ (whF (gR γ)) g w k then lyO τ (whF (gR γ)) g w k - gY γ k else gY γ k - lyO τ (whF (gR γ)) g w k) 480 ≤ sm (fun k => gY γ k + lyO τ (whF (gR γ)) g w k) 480 := sm_mn (fun k hk => by
      have := h2 k hk; have := (l1 k).1
      by_cases hh : gY γ k < lyO τ (whF (gR γ)) g w k
      · rw [if_pos hh]; omega
      · rw [if_neg hh]; omega)
    rw [sm_add] at this
    have e : sm (fun i => gY γ i) 480 = sm (gY γ) 480 := rfl
    have e' : sm (fun i => lyO τ (whF (gR γ)) g w i) 480 = sm (lyO τ (whF (gR γ)) g w) 480 := rfl
    rw [e, e'] at this
    omega
end TL
