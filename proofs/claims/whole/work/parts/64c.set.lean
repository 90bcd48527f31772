/-! CALLS that change the roof (64c.set) -/
section CR
variable {θ : zS} {T U : Nat} {σ : zSt} {Q : Option zV → zS → zM → Prop} {μ : zM} {s : Nat}
theorem MS_mark {m N : Nat} {v : Int} (h : MS θ σ s μ) (hm : 1 ≤ m ∧ m ≤ 4) (hN : N < tn (sT σ)) (h0 : m < 3 → v = 0 ∨ v = 1) (h1 : 0 ≤ v ∧ v ≤ 99) : MS θ (stR σ (mkF (gR (sG σ)) m N v)) s (us μ (172 + m) (zup (μ (172 + m)) N v)) := by
  obtain ⟨⟨hw, ha, hb, hc⟩, hd⟩ := h.2.2.1.1
  refine MS_roof h (Fr.us (by simp; omega) Fr.refl) (fun j _ => by rw [us_ne (by omega)]) ⟨⟨mkF_w hw h0 h1, ?_, ?_, ?_⟩, ?_⟩
  · intro t ht
    have := ha t ht
    have key : ∀ a, 1 ≤ a → a ≤ 4 → μ (172 + a) t = (gR (sG σ)).1 a t → us μ (172 + m) (zup (μ (172 + m)) N v) (172 + a) t = (mkF (gR (sG σ)) m N v).1 a t := fun a _ _ e => by
      unfold mkF
      simp only
      by_cases q : a = m
      · subst q; rw [us_same, zup_ap, e]; simp
      · rw [us_ne (by omega), e]; simp [q]
    exact ⟨key 1 (by omega) (by omega) this.1, key 2 (by omega) (by omega) this.2.1, key 3 (by omega) (by omega) this.2.2.1, key 4 (by omega) (by omega) this.2.2.2⟩
  · rw [us_ne (by omega)]; exact hb
  · rw [us_ne (by omega)]; exact hc
  · rw [us_ne (by omega)]
    intro t ht
    have q : ¬ (0 = m) := by omega
    unfold mkF
    simp [q]
    exact hd t ht
theorem rSet {d : Nat} {t k v : Int} (h : MS θ σ s μ) (hd : 11 ≤ d) (hQ : ∀ μ', ML2 μ μ' → MS θ (sSet σ t k v) s μ' → Q (some (vi (vSet σ t k v))) θ μ') : Ex d 208 0 [vr 138, vi t, vi k, vi v] [] θ μ Q := by
  have hm := h.1.1
  have hd0 : 0 < d := by omega
  have hn := tn_b h.1.2.1
  have hno : ¬ okSet σ t k v → Q (some (vi 0)) θ μ := fun hn => by
    have := hQ μ (fun _ _ => rfl) (by unfold sSet; rw [if_neg hn]; exact h)
    unfold vSet at this
    rwa [if_neg hn] at this
  by_cases q0 : 0 ≤ t ∧ t < (tn (sT σ) : Int)
  · by_cases q1 : 1 ≤ k ∧ k ≤ 4
    · obtain ⟨N, rfl⟩ : ∃ N : Nat, t = (N : Int) := ⟨t.toNat, by omega⟩
      have hN : N < tn (sT σ) := by omega
      have hok : ∀ (m : Nat), k = (m : Int) → okSet σ N k v → MS θ (stR σ (mkF (gR (sG σ)) m N v)) s (us μ (172 + m) (zup (μ (172 + m)) N v)) → Q (some (vi 1)) θ (us μ (172 + m) (zup (μ (172 + m)) N v)) := fun m hm ok h2 => by
        have := hQ (us μ (172 + m) (zup (μ (172 + m)) N v)) (fun a ha => us_ne (by omega)) (by unfold sSet; rw [if_pos ok, hm]; exact h2)
        unfold vSet at this
        rwa [if_pos ok] at this
      obtain hk | hk | hk | hk : k = 1 ∨ k = 2 ∨ k = 3 ∨ k = 4 := by omega
      · by_cases q5 : 0 ≤ v ∧ v ≤ 1
        · have ok : okSet σ N k v := ⟨q0, q1, q5.1, by rw [hk]; simp; omega⟩
          have hq := hok 1 hk ok (MS_mark h (by decide) hN (fun _ => by omega) (by omega))
          subst hk
          obtain z | z : v = 0 ∨ v = 1 := by omega
          all_goals
            subst z
            simp (disch := omega) only [x208_0, x208_1, x208_2, x208_5, x208_8, x208_9, x208_10, x208_11, x208_14, x208_17, x208_18, x208_19, x208_20, x208_21, x208_24, x208_25, x208_28, x208_30, x208_33, x208_36, x208_37, x208_38, x208_39, x208_40, x208_43, x208_44, x208_47, x208_48, x208_49, x208_50, x208_53, x208_54, x208_57, x208_58, x208_59, x208_62, x208_63, x208_64, x208_67, x208_68, x208_71, x208_72, x208_73, x208_74, x208_77, x208_78, x208_81, x208_82, x208_83, x208_86, x208_87, x208_88, x208_91, x208_92, x208_95, x208_96, x208_97, x208_98, x208_101, x208_102, x208_105, x208_106, x208_107, x208_108, x208_109, ↓reduceIte, Bool.false_eq_true, Nat.reduceAdd, Nat.reduceLT, Nat.reduceLeDiff, Nat.reduceSub, Nat.reduceEqDiff, Int.reduceToNat, Int.reduceEq, Int.reduceLT, Int.reduceLE, Int.reduceAdd, Int.reduceSub, zg, zI, zJ, zR, zst, zkl, zn, zcat, zok, zraw, List.length_cons, List.length_nil, Option.toList, List.nil_append, List.cons_append, true_and, and_true, if_true, if_false, ne_eq, not_true, not_false_eq_true, and_self, true_or, or_true, false_or, or_false, false_and, and_false, b_138 hm, r_138_51 hm, x_172 hm, n_172 hm, r_138_52 hm, x_173 hm, n_173 hm, r_138_53 hm, x_174 hm, n_174 hm, r_138_54 hm, x_175 hm, r_138_55 hm, x_176 hm, b_138 hm, mIsTile (d := d - 1) h.1 (by omega), mIn, hd0, q0, q1, Int.toNat_natCast, ua_eq]
            exact hq
        · have nok : ¬ okSet σ N k v := fun hh => q5 ⟨hh.2.2.1, by have := hh.2.2.2; rw [hk] at this; simpa using this⟩
          have hno' := hno nok
          subst hk
          simp (disch := omega) only [x208_0, x208_1, x208_2, x208_5, x208_8, x208_9, x208_10, x208_11, x208_14, x208_17, x208_18, x208_19, x208_20, x208_21, x208_24, x208_25, x208_28, x208_30, x208_33, x208_36, x208_37, x208_38, x208_39, x208_40, x208_43, x208_44, x208_47, x208_48, x208_49, x208_50, x208_53, x208_54, x208_57, x208_58, x208_59, x208_62, x208_63, x208_64, x208_67, x208_68, x208_71, x208_72, x208_73, x208_74, x208_77, x208_78, x208_81, x208_82, x208_83, x208_86, x208_87, x208_88, x208_91, x208_92, x208_95, x208_96, x208_97, x208_98, x208_101, x208_102, x208_105, x208_106, x208_107, x208_108, x208_109, ↓reduceIte, Bool.false_eq_true, Nat.reduceAdd, Nat.reduceLT, Nat.reduceLeDiff, Nat.reduceSub, Nat.reduceEqDiff, Int.reduceToNat, Int.reduceEq, Int.reduceLT, Int.reduceLE, Int.reduceAdd, Int.reduceSub, zg, zI, zJ, zR, zst, zkl, zn, zcat, zok, zraw, List.length_cons, List.length_nil, Option.toList, List.nil_append, List.cons_append, true_and, and_true, if_true, if_false, ne_eq, not_true, not_false_eq_true, and_self, true_or, or_true, false_or, or_false, false_and, and_false, b_138 hm, r_138_51 hm, x_172 hm, n_172 hm, r_138_52 hm, x_173 hm, n_173 hm, r_138_53 hm, x_174 hm, n_174 hm, r_138_54 hm, x_175 hm, r_138_55 hm, x_176 hm, b_138 hm, mIsTile (d := d - 1) h.1 (by omega), mIn, hd0, q0, q1, q5]
          exact hno'
      · by_cases q5 : 0 ≤ v ∧ v ≤ 1
        · have ok : okSet σ N k v := ⟨q0, q1, q5.1, by rw [hk]; simp; omega⟩
          have hq := hok 2 hk ok (MS_mark h (by decide) hN (fun _ => by omega) (by omega))
          subst hk
          obtain z | z : v = 0 ∨ v = 1 := by omega
          all_goals
            subst z
            simp (disch := omega) only [x208_0, x208_1, x208_2, x208_5, x208_8, x208_9, x208_10, x208_11, x208_14, x208_17, x208_18, x208_19, x208_20, x208_21, x208_24, x208_25, x208_28, x208_30, x208_33, x208_36, x208_37, x208_38, x208_39, x208_40, x208_43, x208_44, x208_47, x208_48, x208_49, x208_50, x208_53, x208_54, x208_57, x208_58, x208_59, x208_62, x208_63, x208_64, x208_67, x208_68, x208_71, x208_72, x208_73, x208_74, x208_77, x208_78, x208_81, x208_82, x208_83, x208_86, x208_87, x208_88, x208_91, x208_92, x208_95, x208_96, x208_97, x208_98, x208_101, x208_102, x208_105, x208_106, x208_107, x208_108, x208_109, ↓reduceIte, Bool.false_eq_true, Nat.reduceAdd, Nat.reduceLT, Nat.reduceLeDiff, Nat.reduceSub, Nat.reduceEqDiff, Int.reduceToNat, Int.reduceEq, Int.reduceLT, Int.reduceLE, Int.reduceAdd, Int.reduceSub, zg, zI, zJ, zR, zst, zkl, zn, zcat, zok, zraw, List.length_cons, List.length_nil, Option.toList, List.nil_append, List.cons_append, true_and, and_true, if_true, if_false, ne_eq, not_true, not_false_eq_true, and_self, true_or, or_true, false_or, or_false, false_and, and_false, b_138 hm, r_138_51 hm, x_172 hm, n_172 hm, r_138_52 hm, x_173 hm, n_173 hm, r_138_53 hm, x_174 hm, n_174 hm, r_138_54 hm, x_175 hm, r_138_55 hm, x_176 hm, b_138 hm, mIsTile (d := d - 1) h.1 (by omega), mIn, hd0, q0, q1, Int.toNat_natCast, ua_eq]
            exact hq
        · have nok : ¬ okSet σ N k v := fun hh => q5 ⟨hh.2.2.1, by have := hh.2.2.2; rw [hk] at this; simpa using this⟩
          have hno' := hno nok
          subst hk
          simp (disch := omega) only [x208_0, x208_1, x208_2, x208_5, x208_8, x208_9, x208_10, x208_11, x208_14, x208_17, x208_18, x208_19, x208_20, x208_21, x208_24, x208_25, x208_28, x208_30, x208_33, x208_36, x208_37, x208_38, x208_39, x208_40, x208_43, x208_44, x208_47, x208_48, x208_49, x208_50, x208_53, x208_54, x208_57, x208_58, x208_59, x208_62, x208_63, x208_64, x208_67, x208_68, x208_71, x208_72, x208_73, x208_74, x208_77, x208_78, x208_81, x208_82, x208_83, x208_86, x208_87, x208_88, x208_91, x208_92, x208_95, x208_96, x208_97, x208_98, x208_101, x208_102, x208_105, x208_106, x208_107, x208_108, x208_109, ↓reduceIte, Bool.false_eq_true, Nat.reduceAdd, Nat.reduceLT, Nat.reduceLeDiff, Nat.reduceSub, Nat.reduceEqDiff, Int.reduceToNat, Int.reduceEq, Int.reduceLT, Int.reduceLE, Int.reduceAdd, Int.reduceSub, zg, zI, zJ, zR, zst, zkl, zn, zcat, zok, zraw, List.length_cons, List.length_nil, Option.toList, List.nil_append, List.cons_append, true_and, and_true, if_true, if_false, ne_eq, not_true, not_false_eq_true, and_self, true_or, or_true, false_or, or_false, false_and, and_false, b_138 hm, r_138_51 hm, x_172 hm, n_172 hm, r_138_52 hm, x_173 hm, n_173 hm, r_138_53 hm, x_174 hm, n_174 hm, r_138_54 hm, x_175 hm, r_138_55 hm, x_176 hm, b_138 hm, mIsTile (d := d - 1) h.1 (by omega), mIn, hd0, q0, q1, q5]
          exact hno'
      · by_cases q5 : 0 ≤ v ∧ v ≤ 99
        · have ok : okSet σ N k v := ⟨q0, q1, q5.1, by rw [hk]; simp; omega⟩
          have hq := hok 3 hk ok (MS_mark h (by decide) hN (fun _ => by omega) (by omega))
          subst hk
          simp (disch := omega) only [x208_0, x208_1, x208_2, x208_5, x208_8, x208_9, x208_10, x208_11, x208_14, x208_17, x208_18, x208_19, x208_20, x208_21, x208_24, x208_25, x208_28, x208_30, x208_33, x208_36, x208_37, x208_38, x208_39, x208_40, x208_43, x208_44, x208_47, x208_48, x208_49, x208_50, x208_53, x208_54, x208_57, x208_58, x208_59, x208_62, x208_63, x208_64, x208_67, x208_68, x208_71, x208_72, x208_73, x208_74, x208_77, x208_78, x208_81, x208_82, x208_83, x208_86, x208_87, x208_88, x208_91, x208_92, x208_95, x208_96, x208_97, x208_98, x208_101, x208_102, x208_105, x208_106, x208_107, x208_108, x208_109, ↓reduceIte, Bool.false_eq_true, Nat.reduceAdd, Nat.reduceLT, Nat.reduceLeDiff, Nat.reduceSub, Nat.reduceEqDiff, Int.reduceToNat, Int.reduceEq, Int.reduceLT, Int.reduceLE, Int.reduceAdd, Int.reduceSub, zg, zI, zJ, zR, zst, zkl, zn, zcat, zok, zraw, List.length_cons, List.length_nil, Option.toList, List.nil_append, List.cons_append, true_and, and_true, if_true, if_false, ne_eq, not_true, not_false_eq_true, and_self, true_or, or_true, false_or, or_false, false_and, and_false, b_138 hm, r_138_51 hm, x_172 hm, n_172 hm, r_138_52 hm, x_173 hm, n_173 hm, r_138_53 hm, x_174 hm, n_174 hm, r_138_54 hm, x_175 hm, r_138_55 hm, x_176 hm, b_138 hm, mIsTile (d := d - 1) h.1 (by omega), mIn, hd0, q0, q1, q5, Int.toNat_natCast, ua_eq]
          exact hq
        · have nok : ¬ okSet σ N k v := fun hh => q5 ⟨hh.2.2.1, by have := hh.2.2.2; rw [hk] at this; simpa using this⟩
          have hno' := hno nok
          subst hk
          simp (disch := omega) only [x208_0, x208_1, x208_2, x208_5, x208_8, x208_9, x208_10, x208_11, x208_14, x208_17, x208_18, x208_19, x208_20, x208_21, x208_24, x208_25, x208_28, x208_30, x208_33, x208_36, x208_37, x208_38, x208_39, x208_40, x208_43, x208_44, x208_47, x208_48, x208_49, x208_50, x208_53, x208_54, x208_57, x208_58, x208_59, x208_62, x208_63, x208_64, x208_67, x208_68, x208_71, x208_72, x208_73, x208_74, x208_77, x208_78, x208_81, x208_82, x208_83, x208_86, x208_87, x208_88, x208_91, x208_92, x208_95, x208_96, x208_97, x208_98, x208_101, x208_102, x208_105, x208_106, x208_107, x208_108, x208_109, ↓reduceIte, Bool.false_eq_true, Nat.reduceAdd, Nat.reduceLT, Nat.reduceLeDiff, Nat.reduceSub, Nat.reduceEqDiff, Int.reduceToNat, Int.reduceEq, Int.reduceLT, Int.reduceLE, Int.reduceAdd, Int.reduceSub, zg, zI, zJ, zR, zst, zkl, zn, zcat, zok, zraw, List.length_cons, List.length_nil, Option.toList, List.nil_append, List.cons_append, true_and, and_true, if_true, if_false, ne_eq, not_true, not_false_eq_true, and_self, true_or, or_true, false_or, or_false, false_and, and_false, b_138 hm, r_138_51 hm, x_172 hm, n_172 hm, r_138_52 hm, x_173 hm, n_173 hm, r_138_53 hm, x_174 hm, n_174 hm, r_138_54 hm, x_175 hm, r_138_55 hm, x_176 hm, b_138 hm, mIsTile (d := d - 1) h.1 (by omega), mIn, hd0, q0, q1, q5]
          exact hno'
      · by_cases q5 : 0 ≤ v ∧ v ≤ 99
        · have ok : okSet σ N k v := ⟨q0, q1, q5.1, by rw [hk]; simp; omega⟩
          have hq := hok 4 hk ok (MS_mark h (by decide) hN (fun _ => by omega) (by omega))
          subst hk
          simp (disch := omega) only [x208_0, x208_1, x208_2, x208_5, x208_8, x208_9, x208_10, x208_11, x208_14, x208_17, x208_18, x208_19, x208_20, x208_21, x208_24, x208_25, x208_28, x208_30, x208_33, x208_36, x208_37, x208_38, x208_39, x208_40, x208_43, x208_44, x208_47, x208_48, x208_49, x208_50, x208_53, x208_54, x208_57, x208_58, x208_59, x208_62, x208_63, x208_64, x208_67, x208_68, x208_71, x208_72, x208_73, x208_74, x208_77, x208_78, x208_81, x208_82, x208_83, x208_86, x208_87, x208_88, x208_91, x208_92, x208_95, x208_96, x208_97, x208_98, x208_101, x208_102, x208_105, x208_106, x208_107, x208_108, x208_109, ↓reduceIte, Bool.false_eq_true, Nat.reduceAdd, Nat.reduceLT, Nat.reduceLeDiff, Nat.reduceSub, Nat.reduceEqDiff, Int.reduceToNat, Int.reduceEq, Int.reduceLT, Int.reduceLE, Int.reduceAdd, Int.reduceSub, zg, zI, zJ, zR, zst, zkl, zn, zcat, zok, zraw, List.length_cons, List.length_nil, Option.toList, List.nil_append, List.cons_append, true_and, and_true, if_true, if_false, ne_eq, not_true, not_false_eq_true, and_self, true_or, or_true, false_or, or_false, false_and, and_false, b_138 hm, r_138_51 hm, x_172 hm, n_172 hm, r_138_52 hm, x_173 hm, n_173 hm, r_138_53 hm, x_174 hm, n_174 hm, r_138_54 hm, x_175 hm, r_138_55 hm, x_176 hm, b_138 hm, mIsTile (d := d - 1) h.1 (by omega), mIn, hd0, q0, q1, q5, Int.toNat_natCast, ua_eq]
          exact hq
        · have nok : ¬ okSet σ N k v := fun hh => q5 ⟨hh.2.2.1, by have := hh.2.2.2; rw [hk] at this; simpa using this⟩
          have hno' := hno nok
          subst hk
          simp (disch := omega) only [x208_0, x208_1, x208_2, x208_5, x208_8, x208_9, x208_10, x208_11, x208_14, x208_17, x208_18, x208_19, x208_20, x208_21, x208_24, x208_25, x208_28, x208_30, x208_33, x208_36, x208_37, x208_38, x208_39, x208_40, x208_43, x208_44, x208_47, x208_48, x208_49, x208_50, x208_53, x208_54, x208_57, x208_58, x208_59, x208_62, x208_63, x208_64, x208_67, x208_68, x208_71, x208_72, x208_73, x208_74, x208_77, x208_78, x208_81, x208_82, x208_83, x208_86, x208_87, x208_88, x208_91, x208_92, x208_95, x208_96, x208_97, x208_98, x208_101, x208_102, x208_105, x208_106, x208_107, x208_108, x208_109, ↓reduceIte, Bool.false_eq_true, Nat.reduceAdd, Nat.reduceLT, Nat.reduceLeDiff, Nat.reduceSub, Nat.reduceEqDiff, Int.reduceToNat, Int.reduceEq, Int.reduceLT, Int.reduceLE, Int.reduceAdd, Int.reduceSub, zg, zI, zJ, zR, zst, zkl, zn, zcat, zok, zraw, List.length_cons, List.length_nil, Option.toList, List.nil_append, List.cons_append, true_and, and_true, if_true, if_false, ne_eq, not_true, not_false_eq_true, and_self, true_or, or_true, false_or, or_false, false_and, and_false, b_138 hm, r_138_51 hm, x_172 hm, n_172 hm, r_138_52 hm, x_173 hm, n_173 hm, r_138_53 hm, x_174 hm, n_174 hm, r_138_54 hm, x_175 hm, r_138_55 hm, x_176 hm, b_138 hm, mIsTile (d := d - 1) h.1 (by omega), mIn, hd0, q0, q1, q5]
          exact hno'
    · simp (disch := omega) only [x208_0, x208_1, x208_2, x208_5, x208_8, x208_9, x208_10, x208_11, x208_14, x208_17, x208_18, x208_19, x208_20, x208_21, x208_24, x208_25, x208_28, x208_30, x208_33, x208_36, x208_37, x208_38, x208_39, x208_40, x208_43, x208_44, x208_47, x208_48, x208_49, x208_50, x208_53, x208_54, x208_57, x208_58, x208_59, x208_62, x208_63, x208_64, x208_67, x208_68, x208_71, x208_72, x208_73, x208_74, x208_77, x208_78, x208_81, x208_82, x208_83, x208_86, x208_87, x208_88, x208_91, x208_92, x208_95, x208_96, x208_97, x208_98, x208_101, x208_102, x208_105, x208_106, x208_107, x208_108, x208_109, ↓reduceIte, Bool.false_eq_true, Nat.reduceAdd, Nat.reduceLT, Nat.reduceLeDiff, Nat.reduceSub, Nat.reduceEqDiff, Int.reduceToNat, Int.reduceEq, Int.reduceLT, Int.reduceLE, Int.reduceAdd, Int.reduceSub, zg, zI, zJ, zR, zst, zkl, zn, zcat, zok, zraw, List.length_cons, List.length_nil, Option.toList, List.nil_append, List.cons_append, true_and, and_true, if_true, if_false, ne_eq, not_true, not_false_eq_true, and_self, true_or, or_true, false_or, or_false, false_and, and_false, b_138 hm, mIsTile (d := d - 1) h.1 (by omega), mIn, hd0, q0, q1]
      exact hno (by unfold okSet; omega)
  · simp (disch := omega) only [x208_0, x208_1, x208_2, x208_5, x208_8, x208_9, x208_10, x208_11, x208_14, x208_17, x208_18, x208_19, x208_20, x208_21, x208_24, x208_25, x208_28, x208_30, x208_33, x208_36, x208_37, x208_38, x208_39, x208_40, x208_43, x208_44, x208_47, x208_48, x208_49, x208_50, x208_53, x208_54, x208_57, x208_58, x208_59, x208_62, x208_63, x208_64, x208_67, x208_68, x208_71, x208_72, x208_73, x208_74, x208_77, x208_78, x208_81, x208_82, x208_83, x208_86, x208_87, x208_88, x208_91, x208_92, x208_95, x208_96, x208_97, x208_98, x208_101, x208_102, x208_105, x208_106, x208_107, x208_108, x208_109, ↓reduceIte, Bool.false_eq_true, Nat.reduceAdd, Nat.reduceLT, Nat.reduceLeDiff, Nat.reduceSub, Nat.reduceEqDiff, Int.reduceToNat, Int.reduceEq, Int.reduceLT, Int.reduceLE, Int.reduceAdd, Int.reduceSub, zg, zI, zJ, zR, zst, zkl, zn, zcat, zok, zraw, List.length_cons, List.length_nil, Option.toList, List.nil_append, List.cons_append, true_and, and_true, if_true, if_false, ne_eq, not_true, not_false_eq_true, and_self, true_or, or_true, false_or, or_false, false_and, and_false, b_138 hm, mIsTile (d := d - 1) h.1 (by omega), mIn, hd0, q0]
    exact hno (by unfold okSet; omega)
end CR
