/-! THE REFERENCE: falls -/
section MG
variable {θ : zS} {τ : zT} {s : Nat} {Q : Option zV → zS → zM → Prop} {μ : zM} {ρ : zF} {lost l0 : Nat → Int} {g w : Int}
def rnM : Option Nat → Int
  | none => -1
  | some q => (q : Int)
def GF : List Nat := [138, 170, 171, 184, 185, 186]
/-- what falls leaves -/
def FU (τ : zT) (ρ : zF) (g w : Int) (l0 : Nat → Int) (μ : zM) : Prop := μ 138 69 = (RO τ ρ g w l0 : Nat) ∧ (∀ t, t < tn τ → μ 185 t = rnM (rnO τ ρ g w l0 36 t)) ∧ (∀ t, t < tn τ → ∀ q, rnO τ ρ g w l0 36 t = some q → μ 186 t = ceO τ ρ (loO τ ρ g w l0 q) t g w)
  ∧ ∀ t, t < tn τ → μ 184 t = loO τ ρ g w l0 36 t
theorem rnM_b {r : Nat} {o : Option Nat} (h : ∀ q, o = some q → q < r) : -1 ≤ rnM o ∧ rnM o < r := by
  cases o with
  | none => simp [rnM]; omega
  | some q => have := h q rfl; simp [rnM]; omega
theorem mFalls {d : Nat} {x3 x4 x5 : zV} (hd : 5 ≤ d) (h : MX θ τ s μ) (hL : ML τ ρ μ) (hO : MO τ l0 μ) (hg : 0 ≤ g ∧ g ≤ 99) (hwy : 0 ≤ w ∧ w ≤ 3)
    (hQ : ∀ μ', Fr GF μ μ' → (∀ j, j ≠ 50 → j ≠ 69 → μ' 138 j = μ 138 j) → FU τ ρ g w l0 μ' → Q (some (vi (foO τ ρ g w l0 : Nat))) θ μ') : Ex d 226 0 [vr 138, vi g, vi w, x3, x4, x5] [] θ μ Q := by
  have hX := h
  have hm := h.1
  have hw := h.2.1
  have hn := tn_b hw
  have hd0 : 0 < d := by omega
  have hz0 := hO.1
  have fr : ∀ {μ2}, Fr GF μ μ2 → (∀ j, j ≠ 50 → j ≠ 69 → μ2 138 j = μ 138 j) → MX θ τ s μ2 ∧ ML τ ρ μ2 := fun {μ2} hf hj => ⟨MX_fr hX hf (by decide) (hj 18 (by decide) (by decide)), ML_fr hL hf (by decide) (hj 57 (by decide) (by decide))⟩
  -- marking a round's TILES as lost
  have mark : ∀ (q : Nat) (b : Int) (x4 : zV), q ≤ 36 → (b = 0 ∨ b = 1) → (∀ μ1 x5, Fr GF μ μ1 → (∀ j, j ≠ 50 → j ≠ 69 → μ1 138 j = μ 138 j) → μ1 138 69 = (q : Int) → (∀ t, t < tn τ → μ1 185 t = rnM (rnO τ ρ g w l0 (q + 1) t)) → (∀ t, t < tn τ → ∀ q', rnO τ ρ g w l0 (q + 1) t = some q' → μ1 186 t = ceO τ ρ (loO τ ρ g w l0 q') t g w) → (∀ t, t < tn τ → μ1 184 t = loO τ ρ g w l0 (q + 1) t) →
        Ex d 226 161 [vr 138, vi g, vi w, vi ((orO τ ρ g w l0 (q + 1)).length : Nat), vi b, x5] [] θ μ1 Q) →
      ∀ t L μ1, t ≤ tn τ → (L = [vr 138, vi g, vi w, vi ((prO2 τ ρ g w l0 q t).length : Nat), vi b, vi (t : Nat)] ∧ Fr GF μ μ1 ∧ (∀ j, j ≠ 50 → j ≠ 69 → μ1 138 j = μ 138 j) ∧ μ1 138 69 = (q : Int) ∧ (∀ t, t < tn τ → μ1 185 t = rnM (rnO τ ρ g w l0 (q + 1) t)) ∧ (∀ t, t < tn τ → ∀ q', rnO τ ρ g w l0 (q + 1) t = some q' → μ1 186 t = ceO τ ρ (loO τ ρ g w l0 q') t g w)
        ∧ ∀ t', t' < tn τ → μ1 184 t' = if t' < t then loO τ ρ g w l0 (q + 1) t' else loO τ ρ g w l0 q t') → Ex d 226 118 L [] θ μ1 Q := by
    intro q b x4 hq hb hend
    refine Ex_loop (I := fun t L μ1 => L = [vr 138, vi g, vi w, vi ((prO2 τ ρ g w l0 q t).length : Nat), vi b, vi (t : Nat)] ∧ Fr GF μ μ1 ∧ (∀ j, j ≠ 50 → j ≠ 69 → μ1 138 j = μ 138 j) ∧ μ1 138 69 = (q : Int) ∧ (∀ t, t < tn τ → μ1 185 t = rnM (rnO τ ρ g w l0 (q + 1) t)) ∧ (∀ t, t < tn τ → ∀ q', rnO τ ρ g w l0 (q + 1) t = some q' → μ1 186 t = ceO τ ρ (loO τ ρ g w l0 q') t g w)
        ∧ ∀ t', t' < tn τ → μ1 184 t' = if t' < t then loO τ ρ g w l0 (q + 1) t' else loO τ ρ g w l0 q t') (tn τ) ?_ ?_
    · rintro t L μ1 ht ⟨rfl, hf, hj, h69, h185, h186, h184⟩ hk
      obtain ⟨X1, L1⟩ := fr hf hj
      have i1 : ¬ ((tn τ : Int) ≤ (t : Int)) := by omega
      have e185 := h185 t ht
      have hpl := pr_len (ρ := ρ) (g := g) (w := w) (r := q) hn.2 hz0 (show t + 1 ≤ tn τ by omega)
      rw [x226_118]
      by_cases hp : giO τ ρ g w l0 q t = true
      · have er : rnO τ ρ g w l0 (q + 1) t = some q := by rw [rn_s, (rn_none ht hz0 hp).1, if_pos hp]; rfl
        rw [er] at e185
        have e185' : μ1 185 t = (q : Int) := e185
        have ep : prO2 τ ρ g w l0 q (t + 1) = prO2 τ ρ g w l0 q t ++ [t] := by rw [pr_s, if_pos hp]
        rw [ep, List.length_append] at hpl
        simp only [List.length_cons, List.length_nil] at hpl
        have hlen : w32 (((prO2 τ ρ g w l0 q t).length : Nat) + 1) = ((prO2 τ ρ g w l0 q (t + 1)).length : Nat) := by rw [ep, List.length_append]; exact w32_s (by omega)
        simp (disch := omega) only [x226_0, x226_1, x226_2, x226_3, x226_4, x226_7, x226_8, x226_12, x226_13, x226_16, x226_19, x226_20, x226_23, x226_25, x226_26, x226_27, x226_30, x226_33, x226_34, x226_38, x226_41, x226_42, x226_44, x226_45, x226_49, x226_50, x226_53, x226_56, x226_57, x226_60, x226_62, x226_63, x226_66, x226_67, x226_69, x226_70, x226_71, x226_74, x226_77, x226_80, x226_81, x226_84, x226_86, x226_87, x226_90, x226_91, x226_92, x226_95, x226_97, x226_98, x226_100, x226_101, x226_102, x226_105, x226_106, x226_107, x226_109, x226_112, x226_115, x226_116, x226_120, x226_121, x226_124, x226_127, x226_128, x226_131, x226_133, x226_134, x226_135, x226_138, x226_141, x226_144, x226_145, x226_148, x226_150, x226_151, x226_152, x226_155, x226_158, x226_161, x226_163, x226_166, x226_167, x226_168, x226_171, x226_172, x226_173, x226_176, x226_179, x226_180, ↓reduceIte, Bool.false_eq_true, Nat.reduceAdd, Nat.reduceLT, Nat.reduceLeDiff, Nat.reduceSub, Nat.reduceEqDiff, Int.reduceToNat, Int.reduceEq, Int.reduceLT, Int.reduceLE, Int.reduceAdd, Int.reduceSub, zg, zI, zJ, zR, zst, zkl, zn, zcat, zok, zraw, List.length_cons, List.length_nil, Option.toList, List.nil_append, List.cons_append, true_and, and_true, if_true, if_false, ne_eq, not_true, not_false_eq_true, and_self, true_or, or_true, false_or, or_false, false_and, and_false, b_138 hm, r_138_66 hm, x_184 hm, n_184 hm, r_138_67 hm, x_185 hm, hd0, mTiles _ X1, i1, e185', h69, Int.toNat_natCast, w32_s, ua_eq, hlen]
        apply hk
        refine ⟨rfl, Fr.us (by decide) hf, ?_, ?_, ?_, ?_, ?_⟩
        · intro j h1 h2; rw [us_ne (by decide)]; exact hj j h1 h2
        · rw [us_ne (by decide)]; exact h69
        · rw [us_ne (by decide)]; exact h185
        · rw [us_ne (by decide)]; exact h186
        · intro t' ht'
          rw [us_same, zup_ap]
          by_cases h1 : t' = t
          · subst h1; rw [if_pos rfl, if_pos (Nat.lt_succ_self _), lo_s, if_pos hp]
          · rw [if_neg h1, h184 t' ht']
            by_cases h2 : t' < t
            · rw [if_pos h2, if_pos (Nat.lt_succ_of_lt h2)]
            · rw [if_neg h2, if_neg (by omega)]
      · have ep : prO2 τ ρ g w l0 q (t + 1) = prO2 τ ρ g w l0 q t := by rw [pr_s, if_neg hp, List.append_nil]
        have hne : ¬ (μ1 185 t = (q : Int)) := by
          rw [e185, rn_s, if_neg hp, Option.or_none]
          have := rnM_b (r := q) (o := rnO τ ρ g w l0 q t) (fun q' hq' => (rn_gi hq').1)
          omega
        simp (disch := omega) only [x226_0, x226_1, x226_2, x226_3, x226_4, x226_7, x226_8, x226_12, x226_13, x226_16, x226_19, x226_20, x226_23, x226_25, x226_26, x226_27, x226_30, x226_33, x226_34, x226_38, x226_41, x226_42, x226_44, x226_45, x226_49, x226_50, x226_53, x226_56, x226_57, x226_60, x226_62, x226_63, x226_66, x226_67, x226_69, x226_70, x226_71, x226_74, x226_77, x226_80, x226_81, x226_84, x226_86, x226_87, x226_90, x226_91, x226_92, x226_95, x226_97, x226_98, x226_100, x226_101, x226_102, x226_105, x226_106, x226_107, x226_109, x226_112, x226_115, x226_116, x226_120, x226_121, x226_124, x226_127, x226_128, x226_131, x226_133, x226_134, x226_135, x226_138, x226_141, x226_144, x226_145, x226_148, x226_150, x226_151, x226_152, x226_155, x226_158, x226_161, x226_163, x226_166, x226_167, x226_168, x226_171, x226_172, x226_173, x226_176, x226_179, x226_180, ↓reduceIte, Bool.false_eq_true, Nat.reduceAdd, Nat.reduceLT, Nat.reduceLeDiff, Nat.reduceSub, Nat.reduceEqDiff, Int.reduceToNat, Int.reduceEq, Int.reduceLT, Int.reduceLE, Int.reduceAdd, Int.reduceSub, zg, zI, zJ, zR, zst, zkl, zn, zcat, zok, zraw, List.length_cons, List.length_nil, Option.toList, List.nil_append, List.cons_append, true_and, and_true, if_true, if_false, ne_eq, not_true, not_false_eq_true, and_self, true_or, or_true, false_or, or_false, false_and, and_false, b_138 hm, r_138_66 hm, x_184 hm, n_184 hm, r_138_67 hm, x_185 hm, hd0, mTiles _ X1, i1, h69, hne, Int.toNat_natCast, w32_s]
        apply hk
        refine ⟨by rw [ep], hf, hj, h69, h185, h186, ?_⟩
        intro t' ht'
        rw [h184 t' ht']
        by_cases h1 : t' = t
        · subst h1; rw [if_neg (Nat.lt_irrefl _), if_pos (Nat.lt_succ_self _), lo_s, if_neg hp]
        · by_cases h2 : t' < t
          · rw [if_pos h2, if_pos (Nat.lt_succ_of_lt h2)]
          · rw [if_neg h2, if_neg (by omega)]
    · rintro L μ1 ⟨rfl, hf, hj, h69, h185, h186, h184⟩
      obtain ⟨X1, L1⟩ := fr hf hj
      rw [x226_118]
      simp (disch := omega) only [x226_0, x226_1, x226_2, x226_3, x226_4, x226_7, x226_8, x226_12, x226_13, x226_16, x226_19, x226_20, x226_23, x226_25, x226_26, x226_27, x226_30, x226_33, x226_34, x226_38, x226_41, x226_42, x226_44, x226_45, x226_49, x226_50, x226_53, x226_56, x226_57, x226_60, x226_62, x226_63, x226_66, x226_67, x226_69, x226_70, x226_71, x226_74, x226_77, x226_80, x226_81, x226_84, x226_86, x226_87, x226_90, x226_91, x226_92, x226_95, x226_97, x226_98, x226_100, x226_101, x226_102, x226_105, x226_106, x226_107, x226_109, x226_112, x226_115, x226_116, x226_120, x226_121, x226_124, x226_127, x226_128, x226_131, x226_133, x226_134, x226_135, x226_138, x226_141, x226_144, x226_145, x226_148, x226_150, x226_151, x226_152, x226_155, x226_158, x226_163, x226_166, x226_167, x226_168, x226_171, x226_172, x226_173, x226_176, x226_179, x226_180, ↓reduceIte, Bool.false_eq_true, Nat.reduceAdd, Nat.reduceLT, Nat.reduceLeDiff, Nat.reduceSub, Nat.reduceEqDiff, Int.reduceToNat, Int.reduceEq, Int.reduceLT, Int.reduceLE, Int.reduceAdd, Int.reduceSub, zg, zI, zJ, zR, zst, zkl, zn, zcat, zok, zraw, List.length_cons, List.length_nil, Option.toList, List.nil_append, List.cons_append, true_and, and_true, if_true, if_false, ne_eq, not_true, not_false_eq_true, and_self, true_or, or_true, false_or, or_false, false_and, and_false, b_138 hm, hd0, mTiles _ X1, Int.le_refl]
      refine hend μ1 _ hf hj h69 h185 h186 ?_
      intro t ht; rw [h184 t ht, if_pos ht]
  -- a round
  have round : ∀ (q : Nat) (n : Int), q ≤ 36 → n = ((orO τ ρ g w l0 q).length : Nat) → (∀ b μ1 x5, (b = 0 ∨ b = 1) → (b = 0 ↔ rdO τ ρ g w l0 q = []) → Fr GF μ μ1 → (∀ j, j ≠ 50 → j ≠ 69 → μ1 138 j = μ 138 j) → μ1 138 69 = (q : Int) → (∀ t, t < tn τ → μ1 185 t = rnM (rnO τ ρ g w l0 (q + 1) t)) → (∀ t, t < tn τ → ∀ q', rnO τ ρ g w l0 (q + 1) t = some q' → μ1 186 t = ceO τ ρ (loO τ ρ g w l0 q') t g w) → (∀ t, t < tn τ → μ1 184 t = loO τ ρ g w l0 (q + 1) t) →
        Ex d 226 161 [vr 138, vi g, vi w, vi ((orO τ ρ g w l0 (q + 1)).length : Nat), vi b, x5] [] θ μ1 Q) →
      ∀ t L μ1, t ≤ tn τ → (∃ b, L = [vr 138, vi g, vi w, vi n, vi b, vi (t : Nat)] ∧ (b = 0 ∨ b = 1) ∧ (b = 0 ↔ (List.range t).filter (fun t => giO τ ρ g w l0 q t) = []) ∧ Fr GF μ μ1 ∧ (∀ j, j ≠ 50 → j ≠ 69 → μ1 138 j = μ 138 j) ∧ μ1 138 69 = (q : Int) ∧ (∀ t', t' < tn τ → μ1 185 t' = rnM (rnK τ ρ g w l0 q t t')) ∧ (∀ t', t' < tn τ → ∀ q', rnK τ ρ g w l0 q t t' = some q' → μ1 186 t' = ceO τ ρ (loO τ ρ g w l0 q') t' g w)
        ∧ ∀ t', t' < tn τ → μ1 184 t' = loO τ ρ g w l0 q t') → Ex d 226 47 L [] θ μ1 Q := by
    intro q n hq hnn hend
    refine Ex_loop (I := fun t L μ1 => ∃ b, L = [vr 138, vi g, vi w, vi n, vi b, vi (t : Nat)] ∧ (b = 0 ∨ b = 1) ∧ (b = 0 ↔ (List.range t).filter (fun t => giO τ ρ g w l0 q t) = []) ∧ Fr GF μ μ1 ∧ (∀ j, j ≠ 50 → j ≠ 69 → μ1 138 j = μ 138 j) ∧ μ1 138 69 = (q : Int) ∧ (∀ t', t' < tn τ → μ1 185 t' = rnM (rnK τ ρ g w l0 q t t')) ∧ (∀ t', t' < tn τ → ∀ q', rnK τ ρ g w l0 q t t' = some q' → μ1 186 t' = ceO τ ρ (loO τ ρ g w l0 q') t' g w)
        ∧ ∀ t', t' < tn τ → μ1 184 t' = loO τ ρ g w l0 q t') (tn τ) ?_ ?_
    · rintro t L μ1 ht ⟨b, rfl, hb, hbi, hf, hj, h69, h185, h186, h184⟩ hk
      obtain ⟨X1, L1⟩ := fr hf hj
      have i1 : ¬ ((tn τ : Int) ≤ (t : Int)) := by omega
      have hzq : lz (loO τ ρ g w l0 q) := lo_z hz0
      have O1 : MO τ (loO τ ρ g w l0 q) μ1 := ⟨hzq, h184⟩
      have e184 := h184 t ht
      have hfl : (List.range (t + 1)).filter (fun t => giO τ ρ g w l0 q t) = (List.range t).filter (fun t => giO τ ρ g w l0 q t) ++ (if giO τ ρ g w l0 q t = true then [t] else []) := by
        rw [List.range_succ, List.filter_append]
        congr 1
        by_cases hp : giO τ ρ g w l0 q t = true <;> simp [hp]
      rw [x226_47]
      have no : ∀ μ2, ¬ giO τ ρ g w l0 q t = true → Fr GF μ μ2 → (∀ j, j ≠ 50 → j ≠ 69 → μ2 138 j = μ 138 j) → μ2 138 69 = (q : Int) → μ2 184 = μ1 184 → μ2 185 = μ1 185 → μ2 186 = μ1 186 → Ex d 226 47 [vr 138, vi g, vi w, vi n, vi b, vi ((t + 1 : Nat) : Int)] [] θ μ2 Q := by
        intro μ2 hp hf2 hj2 h692 m184 m185 m186
        apply hk
        refine ⟨b, rfl, hb, by rw [hfl, if_neg hp, List.append_nil]; exact hbi, hf2, hj2, h692, ?_, ?_, by rw [m184]; exact h184⟩
        · intro t' ht'; rw [m185, rnK_no hp]; exact h185 t' ht'
        · intro t' ht' q' hq'; rw [rnK_no hp] at hq'; rw [m186]; exact h186 t' ht' q' hq'
      by_cases hlt : loO τ ρ g w l0 q t = 0
      · simp (disch := omega) only [x226_0, x226_1, x226_2, x226_3, x226_4, x226_7, x226_8, x226_12, x226_13, x226_16, x226_19, x226_20, x226_23, x226_25, x226_26, x226_27, x226_30, x226_33, x226_34, x226_38, x226_41, x226_42, x226_44, x226_45, x226_49, x226_50, x226_53, x226_56, x226_57, x226_60, x226_62, x226_63, x226_66, x226_67, x226_69, x226_70, x226_71, x226_74, x226_77, x226_80, x226_81, x226_84, x226_86, x226_87, x226_90, x226_91, x226_92, x226_95, x226_97, x226_98, x226_100, x226_101, x226_102, x226_105, x226_106, x226_107, x226_109, x226_112, x226_115, x226_116, x226_120, x226_121, x226_124, x226_127, x226_128, x226_131, x226_133, x226_134, x226_135, x226_138, x226_141, x226_144, x226_145, x226_148, x226_150, x226_151, x226_152, x226_155, x226_158, x226_161, x226_163, x226_166, x226_167, x226_168, x226_171, x226_172, x226_173, x226_176, x226_179, x226_180, ↓reduceIte, Bool.false_eq_true, Nat.reduceAdd, Nat.reduceLT, Nat.reduceLeDiff, Nat.reduceSub, Nat.reduceEqDiff, Int.reduceToNat, Int.reduceEq, Int.reduceLT, Int.reduceLE, Int.reduceAdd, Int.reduceSub, zg, zI, zJ, zR, zst, zkl, zn, zcat, zok, zraw, List.length_cons, List.length_nil, Option.toList, List.nil_append, List.cons_append, true_and, and_true, if_true, if_false, ne_eq, not_true, not_false_eq_true, and_self, true_or, or_true, false_or, or_false, false_and, and_false, b_138 hm, r_138_66 hm, x_184 hm, n_184 hm, r_138_67 hm, x_185 hm, r_138_68 hm, x_186 hm, hd0, mTiles _ X1, i1, e184, hlt, Int.toNat_natCast]
        refine mLift (by omega) X1 L1 O1 rfl ht hg ?_
        intro μ2 hf2 hj2
        have hff : Fr GF μ μ2 := hf.trans (hf2.mono (by decide))
        have hjj : ∀ j, j ≠ 50 → j ≠ 69 → μ2 138 j = μ 138 j := fun j h1 h2 => by rw [hj2 j h1, hj j h1 h2]
        have h692 : μ2 138 69 = (q : Int) := by rw [hj2 69 (by decide), h69]
        by_cases hgo : liO τ ρ (loO τ ρ g w l0 q) t g w ≤ 0
        · have hp : ¬ giO τ ρ g w l0 q t = true := fun hh => by have := (gi_iff.mp hh).2.2; omega
          have hg2 : ¬ 0 < liO τ ρ (loO τ ρ g w l0 q) t g w := by omega
          simp (disch := omega) only [x226_0, x226_1, x226_2, x226_3, x226_4, x226_7, x226_8, x226_12, x226_13, x226_16, x226_19, x226_20, x226_23, x226_25, x226_26, x226_27, x226_30, x226_33, x226_34, x226_38, x226_41, x226_42, x226_44, x226_45, x226_49, x226_50, x226_53, x226_56, x226_57, x226_60, x226_62, x226_63, x226_66, x226_67, x226_69, x226_70, x226_71, x226_74, x226_77, x226_80, x226_81, x226_84, x226_86, x226_87, x226_90, x226_91, x226_92, x226_95, x226_97, x226_98, x226_100, x226_101, x226_102, x226_105, x226_106, x226_107, x226_109, x226_112, x226_115, x226_116, x226_120, x226_121, x226_124, x226_127, x226_128, x226_131, x226_133, x226_134, x226_135, x226_138, x226_141, x226_144, x226_145, x226_148, x226_150, x226_151, x226_152, x226_155, x226_158, x226_161, x226_163, x226_166, x226_167, x226_168, x226_171, x226_172, x226_173, x226_176, x226_179, x226_180, ↓reduceIte, Bool.false_eq_true, Nat.reduceAdd, Nat.reduceLT, Nat.reduceLeDiff, Nat.reduceSub, Nat.reduceEqDiff, Int.reduceToNat, Int.reduceEq, Int.reduceLT, Int.reduceLE, Int.reduceAdd, Int.reduceSub, zg, zI, zJ, zR, zst, zkl, zn, zcat, zok, zraw, List.length_cons, List.length_nil, Option.toList, List.nil_append, List.cons_append, true_and, and_true, if_true, if_false, ne_eq, not_true, not_false_eq_true, and_self, true_or, or_true, false_or, or_false, false_and, and_false, hg2, w32_s]
          exact no μ2 hp hff hjj h692 (hf2 184 (by decide)) (hf2 185 (by decide)) (hf2 186 (by decide))
        · have hp : giO τ ρ g w l0 q t = true := gi_iff.mpr ⟨ht, hlt, by omega⟩
          have hg2 : 0 < liO τ ρ (loO τ ρ g w l0 q) t g w := by omega
          have hf3 : Fr GF μ (us μ2 185 (zup (μ2 185) t (q : Nat))) := Fr.us (by decide) hff
          have hj3 : ∀ j, j ≠ 50 → j ≠ 69 → (us μ2 185 (zup (μ2 185) t (q : Nat))) 138 j = μ 138 j := fun j h1 h2 => by rw [us_ne (by decide)]; exact hjj j h1 h2
          obtain ⟨X3, L3⟩ := fr hf3 hj3
          simp (disch := omega) only [x226_0, x226_1, x226_2, x226_3, x226_4, x226_7, x226_8, x226_12, x226_13, x226_16, x226_19, x226_20, x226_23, x226_25, x226_26, x226_27, x226_30, x226_33, x226_34, x226_38, x226_41, x226_42, x226_44, x226_45, x226_49, x226_50, x226_53, x226_56, x226_57, x226_60, x226_62, x226_63, x226_66, x226_67, x226_69, x226_70, x226_71, x226_74, x226_77, x226_80, x226_81, x226_84, x226_86, x226_87, x226_90, x226_91, x226_92, x226_95, x226_97, x226_98, x226_100, x226_101, x226_102, x226_105, x226_106, x226_107, x226_109, x226_112, x226_115, x226_116, x226_120, x226_121, x226_124, x226_127, x226_128, x226_131, x226_133, x226_134, x226_135, x226_138, x226_141, x226_144, x226_145, x226_148, x226_150, x226_151, x226_152, x226_155, x226_158, x226_161, x226_163, x226_166, x226_167, x226_168, x226_171, x226_172, x226_173, x226_176, x226_179, x226_180, ↓reduceIte, Bool.false_eq_true, Nat.reduceAdd, Nat.reduceLT, Nat.reduceLeDiff, Nat.reduceSub, Nat.reduceEqDiff, Int.reduceToNat, Int.reduceEq, Int.reduceLT, Int.reduceLE, Int.reduceAdd, Int.reduceSub, zg, zI, zJ, zR, zst, zkl, zn, zcat, zok, zraw, List.length_cons, List.length_nil, Option.toList, List.nil_append, List.cons_append, true_and, and_true, if_true, if_false, ne_eq, not_true, not_false_eq_true, and_self, true_or, or_true, false_or, or_false, false_and, and_false, b_138 hm, r_138_66 hm, x_184 hm, n_184 hm, r_138_67 hm, x_185 hm, r_138_68 hm, x_186 hm, hd0, hg2, h692, ua_eq, Int.toNat_natCast]
          refine mLanding (lost := loO τ ρ g w l0 q) (by omega) X3 L3 ⟨hzq, by rw [us_ne (by decide), hf2 184 (by decide)]; exact h184⟩ rfl ht hg hwy ?_
          intro μ4 hf4 hj4
          simp (disch := omega) only [x226_0, x226_1, x226_2, x226_3, x226_4, x226_7, x226_8, x226_12, x226_13, x226_16, x226_19, x226_20, x226_23, x226_25, x226_26, x226_27, x226_30, x226_33, x226_34, x226_38, x226_41, x226_42, x226_44, x226_45, x226_49, x226_50, x226_53, x226_56, x226_57, x226_60, x226_62, x226_63, x226_66, x226_67, x226_69, x226_70, x226_71, x226_74, x226_77, x226_80, x226_81, x226_84, x226_86, x226_87, x226_90, x226_91, x226_92, x226_95, x226_97, x226_98, x226_100, x226_101, x226_102, x226_105, x226_106, x226_107, x226_109, x226_112, x226_115, x226_116, x226_120, x226_121, x226_124, x226_127, x226_128, x226_131, x226_133, x226_134, x226_135, x226_138, x226_141, x226_144, x226_145, x226_148, x226_150, x226_151, x226_152, x226_155, x226_158, x226_161, x226_163, x226_166, x226_167, x226_168, x226_171, x226_172, x226_173, x226_176, x226_179, x226_180, ↓reduceIte, Bool.false_eq_true, Nat.reduceAdd, Nat.reduceLT, Nat.reduceLeDiff, Nat.reduceSub, Nat.reduceEqDiff, Int.reduceToNat, Int.reduceEq, Int.reduceLT, Int.reduceLE, Int.reduceAdd, Int.reduceSub, zg, zI, zJ, zR, zst, zkl, zn, zcat, zok, zraw, List.length_cons, List.length_nil, Option.toList, List.nil_append, List.cons_append, true_and, and_true, if_true, if_false, ne_eq, not_true, not_false_eq_true, and_self, true_or, or_true, false_or, or_false, false_and, and_false, b_138 hm, r_138_66 hm, x_184 hm, n_184 hm, r_138_67 hm, x_185 hm, r_138_68 hm, x_186 hm, ua_eq, Int.toNat_natCast, w32_s]
          have m185 := hf4 185 (by decide); have m186 := hf4 186 (by decide); have m184 := hf4 184 (by decide)
          rw [us_same] at m185
          rw [us_ne (by decide)] at m186 m184
          apply hk
          refine ⟨1, rfl, Or.inr rfl, ?_, Fr.us (by decide) (hf3.trans (hf4.mono (by decide))), ?_, ?_, ?_, ?_, ?_⟩
          · rw [hfl, if_pos hp]; simp
          · intro j h1 h2; rw [us_ne (by decide), hj4 j h1]; exact hj3 j h1 h2
          · rw [us_ne (by decide), hj4 69 (by decide), us_ne (by decide)]; exact h692
          · intro t' ht'
            rw [us_ne (by decide), m185, zup_ap, rnK_yes ht hz0 hp]
            by_cases h1 : t' = t
            · rw [if_pos h1, if_pos h1]; rfl
            · rw [if_neg h1, if_neg h1, hf2 185 (by decide)]; exact h185 t' ht'
          · intro t' ht' q' hq'
            rw [us_same, zup_ap]
            rw [rnK_yes ht hz0 hp] at hq'
            by_cases h1 : t' = t
            · rw [if_pos h1] at hq' ⊢
              cases hq'
              rw [h1]
            · rw [if_neg h1] at hq' ⊢
              rw [m186, hf2 186 (by decide)]; exact h186 t' ht' q' hq'
          · intro t' ht'
            rw [us_ne (by decide), m184, hf2 184 (by decide)]; exact h184 t' ht'
      · have hp : ¬ giO τ ρ g w l0 q t = true := fun hh => hlt (gi_iff.mp hh).2.1
        simp (disch := omega) only [x226_0, x226_1, x226_2, x226_3, x226_4, x226_7, x226_8, x226_12, x226_13, x226_16, x226_19, x226_20, x226_23, x226_25, x226_26, x226_27, x226_30, x226_33, x226_34, x226_38, x226_41, x226_42, x226_44, x226_45, x226_49, x226_50, x226_53, x226_56, x226_57, x226_60, x226_62, x226_63, x226_66, x226_67, x226_69, x226_70, x226_71, x226_74, x226_77, x226_80, x226_81, x226_84, x226_86, x226_87, x226_90, x226_91, x226_92, x226_95, x226_97, x226_98, x226_100, x226_101, x226_102, x226_105, x226_106, x226_107, x226_109, x226_112, x226_115, x226_116, x226_120, x226_121, x226_124, x226_127, x226_128, x226_131, x226_133, x226_134, x226_135, x226_138, x226_141, x226_144, x226_145, x226_148, x226_150, x226_151, x226_152, x226_155, x226_158, x226_161, x226_163, x226_166, x226_167, x226_168, x226_171, x226_172, x226_173, x226_176, x226_179, x226_180, ↓reduceIte, Bool.false_eq_true, Nat.reduceAdd, Nat.reduceLT, Nat.reduceLeDiff, Nat.reduceSub, Nat.reduceEqDiff, Int.reduceToNat, Int.reduceEq, Int.reduceLT, Int.reduceLE, Int.reduceAdd, Int.reduceSub, zg, zI, zJ, zR, zst, zkl, zn, zcat, zok, zraw, List.length_cons, List.length_nil, Option.toList, List.nil_append, List.cons_append, true_and, and_true, if_true, if_false, ne_eq, not_true, not_false_eq_true, and_self, true_or, or_true, false_or, or_false, false_and, and_false, b_138 hm, r_138_66 hm, x_184 hm, n_184 hm, r_138_67 hm, x_185 hm, r_138_68 hm, x_186 hm, hd0, mTiles _ X1, i1, e184, hlt, Int.toNat_natCast, w32_s]
        exact no μ1 hp hf hj h69 rfl rfl rfl
    · rintro L μ1 ⟨b, rfl, hb, hbi, hf, hj, h69, h185, h186, h184⟩
      obtain ⟨X1, L1⟩ := fr hf hj
      rw [x226_47]
      simp (disch := omega) only [x226_0, x226_1, x226_2, x226_3, x226_4, x226_7, x226_8, x226_12, x226_13, x226_16, x226_19, x226_20, x226_23, x226_25, x226_26, x226_27, x226_30, x226_33, x226_34, x226_38, x226_41, x226_42, x226_44, x226_45, x226_49, x226_50, x226_53, x226_56, x226_57, x226_60, x226_62, x226_63, x226_66, x226_67, x226_69, x226_70, x226_71, x226_74, x226_77, x226_80, x226_81, x226_84, x226_86, x226_87, x226_90, x226_91, x226_92, x226_95, x226_97, x226_98, x226_100, x226_101, x226_102, x226_105, x226_106, x226_107, x226_109, x226_112, x226_115, x226_116, x226_120, x226_121, x226_124, x226_127, x226_128, x226_131, x226_133, x226_134, x226_135, x226_138, x226_141, x226_144, x226_145, x226_148, x226_150, x226_151, x226_152, x226_155, x226_158, x226_161, x226_163, x226_166, x226_167, x226_168, x226_171, x226_172, x226_173, x226_176, x226_179, x226_180, ↓reduceIte, Bool.false_eq_true, Nat.reduceAdd, Nat.reduceLT, Nat.reduceLeDiff, Nat.reduceSub, Nat.reduceEqDiff, Int.reduceToNat, Int.reduceEq, Int.reduceLT, Int.reduceLE, Int.reduceAdd, Int.reduceSub, zg, zI, zJ, zR, zst, zkl, zn, zcat, zok, zraw, List.length_cons, List.length_nil, Option.toList, List.nil_append, List.cons_append, true_and, and_true, if_true, if_false, ne_eq, not_true, not_false_eq_true, and_self, true_or, or_true, false_or, or_false, false_and, and_false, b_138 hm, hd0, mTiles _ X1, Int.le_refl]
      have e185 : ∀ t, t < tn τ → μ1 185 t = rnM (rnO τ ρ g w l0 (q + 1) t) := fun t ht => by rw [h185 t ht]; unfold rnK; rw [if_pos ht]
      have e186 : ∀ t, t < tn τ → ∀ q', rnO τ ρ g w l0 (q + 1) t = some q' → μ1 186 t = ceO τ ρ (loO τ ρ g w l0 q') t g w := fun t ht q' hq' => h186 t ht q' (by unfold rnK; rw [if_pos ht]; exact hq')
      refine mark q b (vi 0) hq hb (fun μ2 x5 hf2 hj2 a1 a2 a3 a4 => hend b μ2 x5 hb hbi hf2 hj2 a1 a2 a3 a4) 0 _ μ1 (by omega) ⟨?_, hf, hj, h69, e185, e186, ?_⟩
      · rw [pr_0, hnn]; rfl
      · intro t' ht'; rw [if_neg (Nat.not_lt_zero _)]; exact h184 t' ht'
  obtain ⟨R, hR1, hen⟩ := en_ex (τ := τ) (ρ := ρ) (g := g) (w := w) hz0
  -- round by round
  have outer : ∀ q L μ1, q ≤ R → (∃ x5, L = [vr 138, vi g, vi w, vi ((orO τ ρ g w l0 q).length : Nat), vi 1, x5] ∧ Fr GF μ μ1 ∧ (∀ j, j ≠ 50 → j ≠ 69 → μ1 138 j = μ 138 j) ∧ μ1 138 69 = (q : Int) ∧ (∀ t', t' < tn τ → μ1 185 t' = rnM (rnO τ ρ g w l0 q t')) ∧ (∀ t', t' < tn τ → ∀ q', rnO τ ρ g w l0 q t' = some q' → μ1 186 t' = ceO τ ρ (loO τ ρ g w l0 q') t' g w)
        ∧ ∀ t', t' < tn τ → μ1 184 t' = loO τ ρ g w l0 q t') → Ex d 226 36 L [] θ μ1 Q := by
    have one : ∀ q μ1 x5, q ≤ R → Fr GF μ μ1 → (∀ j, j ≠ 50 → j ≠ 69 → μ1 138 j = μ 138 j) → μ1 138 69 = (q : Int) → (∀ t', t' < tn τ → μ1 185 t' = rnM (rnO τ ρ g w l0 q t')) → (∀ t', t' < tn τ → ∀ q', rnO τ ρ g w l0 q t' = some q' → μ1 186 t' = ceO τ ρ (loO τ ρ g w l0 q') t' g w) → (∀ t', t' < tn τ → μ1 184 t' = loO τ ρ g w l0 q t') →
        (∀ b μ1 x5, (b = 0 ∨ b = 1) → (b = 0 ↔ rdO τ ρ g w l0 q = []) → Fr GF μ μ1 → (∀ j, j ≠ 50 → j ≠ 69 → μ1 138 j = μ 138 j) → μ1 138 69 = (q : Int) → (∀ t, t < tn τ → μ1 185 t = rnM (rnO τ ρ g w l0 (q + 1) t)) → (∀ t, t < tn τ → ∀ q', rnO τ ρ g w l0 (q + 1) t = some q' → μ1 186 t = ceO τ ρ (loO τ ρ g w l0 q') t g w) → (∀ t, t < tn τ → μ1 184 t = loO τ ρ g w l0 (q + 1) t) →
        Ex d 226 161 [vr 138, vi g, vi w, vi ((orO τ ρ g w l0 (q + 1)).length : Nat), vi b, x5] [] θ μ1 Q) → Ex d 226 36 [vr 138, vi g, vi w, vi ((orO τ ρ g w l0 q).length : Nat), vi 1, x5] [] θ μ1 Q := by
      intro q μ1 x5 hq hf hj h69 h185 h186 h184 hend
      rw [x226_36]
      simp (disch := omega) only [x226_0, x226_1, x226_2, x226_3, x226_4, x226_7, x226_8, x226_12, x226_13, x226_16, x226_19, x226_20, x226_23, x226_25, x226_26, x226_27, x226_30, x226_33, x226_34, x226_38, x226_41, x226_42, x226_44, x226_45, x226_49, x226_50, x226_53, x226_56, x226_57, x226_60, x226_62, x226_63, x226_66, x226_67, x226_69, x226_70, x226_71, x226_74, x226_77, x226_80, x226_81, x226_84, x226_86, x226_87, x226_90, x226_91, x226_92, x226_95, x226_97, x226_98, x226_100, x226_101, x226_102, x226_105, x226_106, x226_107, x226_109, x226_112, x226_115, x226_116, x226_120, x226_121, x226_124, x226_127, x226_128, x226_131, x226_133, x226_134, x226_135, x226_138, x226_141, x226_144, x226_145, x226_148, x226_150, x226_151, x226_152, x226_155, x226_158, x226_161, x226_163, x226_166, x226_167, x226_168, x226_171, x226_172, x226_173, x226_176, x226_179, x226_180, ↓reduceIte, Bool.false_eq_true, Nat.reduceAdd, Nat.reduceLT, Nat.reduceLeDiff, Nat.reduceSub, Nat.reduceEqDiff, Int.reduceToNat, Int.reduceEq, Int.reduceLT, Int.reduceLE, Int.reduceAdd, Int.reduceSub, zg, zI, zJ, zR, zst, zkl, zn, zcat, zok, zraw, List.length_cons, List.length_nil, Option.toList, List.nil_append, List.cons_append, true_and, and_true, if_true, if_false, ne_eq, not_true, not_false_eq_true, and_self, true_or, or_true, false_or, or_false, false_and, and_false]
      refine round q _ (by omega) rfl hend 0 _ μ1 (by omega) ⟨0, rfl, Or.inl rfl, by simp, hf, hj, h69, ?_, ?_, h184⟩
      · intro t' ht'; unfold rnK; rw [if_neg (Nat.not_lt_zero _)]; exact h185 t' ht'
      · intro t' ht' q' hq'; unfold rnK at hq'; rw [if_neg (Nat.not_lt_zero _)] at hq'; exact h186 t' ht' q' hq'
    refine Ex_loop (I := fun q L μ1 => ∃ x5, L = [vr 138, vi g, vi w, vi ((orO τ ρ g w l0 q).length : Nat), vi 1, x5] ∧ Fr GF μ μ1 ∧ (∀ j, j ≠ 50 → j ≠ 69 → μ1 138 j = μ 138 j) ∧ μ1 138 69 = (q : Int) ∧ (∀ t', t' < tn τ → μ1 185 t' = rnM (rnO τ ρ g w l0 q t')) ∧ (∀ t', t' < tn τ → ∀ q', rnO τ ρ g w l0 q t' = some q' → μ1 186 t' = ceO τ ρ (loO τ ρ g w l0 q') t' g w)
        ∧ ∀ t', t' < tn τ → μ1 184 t' = loO τ ρ g w l0 q t') R ?_ ?_
    · rintro q L μ1 hq ⟨x5, rfl, hf, hj, h69, h185, h186, h184⟩ hk
      refine one q μ1 x5 (by omega) hf hj h69 h185 h186 h184 ?_
      intro b μ2 x5' hb hbi hf2 hj2 h692 a185 a186 a184
      have hb1 : b = 1 := by
        rcases hb with hb | hb
        · exact absurd (hbi.mp hb) (hen.1 q hq)
        · exact hb
      subst hb1
      simp (disch := omega) only [x226_0, x226_1, x226_2, x226_3, x226_4, x226_7, x226_8, x226_12, x226_13, x226_16, x226_19, x226_20, x226_23, x226_25, x226_26, x226_27, x226_30, x226_33, x226_34, x226_38, x226_41, x226_42, x226_44, x226_45, x226_49, x226_50, x226_53, x226_56, x226_57, x226_60, x226_62, x226_63, x226_66, x226_67, x226_69, x226_70, x226_71, x226_74, x226_77, x226_80, x226_81, x226_84, x226_86, x226_87, x226_90, x226_91, x226_92, x226_95, x226_97, x226_98, x226_100, x226_101, x226_102, x226_105, x226_106, x226_107, x226_109, x226_112, x226_115, x226_116, x226_120, x226_121, x226_124, x226_127, x226_128, x226_131, x226_133, x226_134, x226_135, x226_138, x226_141, x226_144, x226_145, x226_148, x226_150, x226_151, x226_152, x226_155, x226_158, x226_161, x226_163, x226_166, x226_167, x226_168, x226_171, x226_172, x226_173, x226_176, x226_179, x226_180, ↓reduceIte, Bool.false_eq_true, Nat.reduceAdd, Nat.reduceLT, Nat.reduceLeDiff, Nat.reduceSub, Nat.reduceEqDiff, Int.reduceToNat, Int.reduceEq, Int.reduceLT, Int.reduceLE, Int.reduceAdd, Int.reduceSub, zg, zI, zJ, zR, zst, zkl, zn, zcat, zok, zraw, List.length_cons, List.length_nil, Option.toList, List.nil_append, List.cons_append, true_and, and_true, if_true, if_false, ne_eq, not_true, not_false_eq_true, and_self, true_or, or_true, false_or, or_false, false_and, and_false, b_138 hm, h692, w32_s, ua_eq]
      apply hk
      refine ⟨_, rfl, Fr.us (by decide) hf2, ?_, ?_, ?_, ?_, ?_⟩
      · intro j h1 h2; rw [us_same, zup_ne h2]; exact hj2 j h1 h2
      · rw [us_same, zup_same rfl]
      · rw [us_ne (by decide)]; exact a185
      · rw [us_ne (by decide)]; exact a186
      · rw [us_ne (by decide)]; exact a184
    · rintro L μ1 ⟨x5, rfl, hf, hj, h69, h185, h186, h184⟩
      refine one R μ1 x5 (Nat.le_refl _) hf hj h69 h185 h186 h184 ?_
      intro b μ2 x5' hb hbi hf2 hj2 h692 a185 a186 a184
      have hb0 : b = 0 := hbi.mpr hen.2
      subst hb0
      simp (disch := omega) only [x226_0, x226_1, x226_2, x226_3, x226_4, x226_7, x226_8, x226_12, x226_13, x226_16, x226_19, x226_20, x226_23, x226_25, x226_26, x226_27, x226_30, x226_33, x226_34, x226_36, x226_38, x226_41, x226_42, x226_44, x226_45, x226_49, x226_50, x226_53, x226_56, x226_57, x226_60, x226_62, x226_63, x226_66, x226_67, x226_69, x226_70, x226_71, x226_74, x226_77, x226_80, x226_81, x226_84, x226_86, x226_87, x226_90, x226_91, x226_92, x226_95, x226_97, x226_98, x226_100, x226_101, x226_102, x226_105, x226_106, x226_107, x226_109, x226_112, x226_115, x226_116, x226_120, x226_121, x226_124, x226_127, x226_128, x226_131, x226_133, x226_134, x226_135, x226_138, x226_141, x226_144, x226_145, x226_148, x226_150, x226_151, x226_152, x226_155, x226_158, x226_161, x226_163, x226_166, x226_167, x226_168, x226_171, x226_172, x226_173, x226_176, x226_179, x226_180, ↓reduceIte, Bool.false_eq_true, Nat.reduceAdd, Nat.reduceLT, Nat.reduceLeDiff, Nat.reduceSub, Nat.reduceEqDiff, Int.reduceToNat, Int.reduceEq, Int.reduceLT, Int.reduceLE, Int.reduceAdd, Int.reduceSub, zg, zI, zJ, zR, zst, zkl, zn, zcat, zok, zraw, List.length_cons, List.length_nil, Option.toList, List.nil_append, List.cons_append, true_and, and_true, if_true, if_false, ne_eq, not_true, not_false_eq_true, and_self, true_or, or_true, false_or, or_false, false_and, and_false]
      have e1 : (orO τ ρ g w l0 (R + 1)).length = foO τ ρ g w l0 := by
        unfold foO alO
        rw [or_36 hen (by omega), or_stay hen 1]
      rw [e1]
      refine hQ μ2 hf2 hj2 ⟨by rw [h692, RO_en hen (by omega)], ?_, ?_, ?_⟩
      · intro t ht; rw [a185 t ht, rn_36 hen (by omega), rn_stay hen 1]
      · intro t ht q' hq'; exact a186 t ht q' (by rw [rn_stay hen 1, ← rn_36 hen (by omega)]; exact hq')
      · intro t ht; rw [a184 t ht, lo_36 hen (by omega), (en_stay hen 1).1]
  -- the start
  have start : ∀ t L μ1, t ≤ tn τ → (∃ x5, L = [vr 138, vi g, vi w, vi 0, vi (t : Nat), x5] ∧ Fr GF μ μ1 ∧ (∀ j, j ≠ 50 → j ≠ 69 → μ1 138 j = μ 138 j) ∧ μ1 138 69 = 0 ∧ (∀ t', t' < t → μ1 185 t' = -1) ∧ μ1 184 = μ 184) → Ex d 226 10 L [] θ μ1 Q := by
    refine Ex_loop (I := fun t L μ1 => ∃ x5, L = [vr 138, vi g, vi w, vi 0, vi (t : Nat), x5] ∧ Fr GF μ μ1 ∧ (∀ j, j ≠ 50 → j ≠ 69 → μ1 138 j = μ 138 j) ∧ μ1 138 69 = 0 ∧ (∀ t', t' < t → μ1 185 t' = -1) ∧ μ1 184 = μ 184) (tn τ) ?_ ?_
    · rintro t L μ1 ht ⟨x5, rfl, hf, hj, h69, h185, h184⟩ hk
      obtain ⟨X1, L1⟩ := fr hf hj
      have i1 : ¬ ((tn τ : Int) ≤ (t : Int)) := by omega
      rw [x226_10]
      simp (disch := omega) only [x226_0, x226_1, x226_2, x226_3, x226_4, x226_7, x226_8, x226_12, x226_13, x226_16, x226_19, x226_20, x226_23, x226_25, x226_26, x226_27, x226_30, x226_33, x226_34, x226_38, x226_41, x226_42, x226_44, x226_45, x226_49, x226_50, x226_53, x226_56, x226_57, x226_60, x226_62, x226_63, x226_66, x226_67, x226_69, x226_70, x226_71, x226_74, x226_77, x226_80, x226_81, x226_84, x226_86, x226_87, x226_90, x226_91, x226_92, x226_95, x226_97, x226_98, x226_100, x226_101, x226_102, x226_105, x226_106, x226_107, x226_109, x226_112, x226_115, x226_116, x226_120, x226_121, x226_124, x226_127, x226_128, x226_131, x226_133, x226_134, x226_135, x226_138, x226_141, x226_144, x226_145, x226_148, x226_150, x226_151, x226_152, x226_155, x226_158, x226_161, x226_163, x226_166, x226_167, x226_168, x226_171, x226_172, x226_173, x226_176, x226_179, x226_180, ↓reduceIte, Bool.false_eq_true, Nat.reduceAdd, Nat.reduceLT, Nat.reduceLeDiff, Nat.reduceSub, Nat.reduceEqDiff, Int.reduceToNat, Int.reduceEq, Int.reduceLT, Int.reduceLE, Int.reduceAdd, Int.reduceSub, zg, zI, zJ, zR, zst, zkl, zn, zcat, zok, zraw, List.length_cons, List.length_nil, Option.toList, List.nil_append, List.cons_append, true_and, and_true, if_true, if_false, ne_eq, not_true, not_false_eq_true, and_self, true_or, or_true, false_or, or_false, false_and, and_false, b_138 hm, r_138_67 hm, x_185 hm, hd0, mTiles _ X1, i1, Int.toNat_natCast, w32_s, ua_eq]
      apply hk
      refine ⟨_, rfl, Fr.us (by decide) hf, ?_, by rw [us_ne (by decide)]; exact h69, ?_, by rw [us_ne (by decide)]; exact h184⟩
      · intro j h1 h2; rw [us_ne (by decide)]; exact hj j h1 h2
      · intro t' ht'
        rw [us_same, zup_ap]
        by_cases h1 : t' = t
        · rw [if_pos h1]
        · rw [if_neg h1]; exact h185 t' (by omega)
    · rintro L μ1 ⟨x5, rfl, hf, hj, h69, h185, h184⟩
      obtain ⟨X1, L1⟩ := fr hf hj
      rw [x226_10]
      simp (disch := omega) only [x226_0, x226_1, x226_2, x226_3, x226_4, x226_7, x226_8, x226_12, x226_13, x226_16, x226_19, x226_20, x226_23, x226_25, x226_26, x226_27, x226_30, x226_33, x226_34, x226_38, x226_41, x226_42, x226_44, x226_45, x226_49, x226_50, x226_53, x226_56, x226_57, x226_60, x226_62, x226_63, x226_66, x226_67, x226_69, x226_70, x226_71, x226_74, x226_77, x226_80, x226_81, x226_84, x226_86, x226_87, x226_90, x226_91, x226_92, x226_95, x226_97, x226_98, x226_100, x226_101, x226_102, x226_105, x226_106, x226_107, x226_109, x226_112, x226_115, x226_116, x226_120, x226_121, x226_124, x226_127, x226_128, x226_131, x226_133, x226_134, x226_135, x226_138, x226_141, x226_144, x226_145, x226_148, x226_150, x226_151, x226_152, x226_155, x226_158, x226_161, x226_163, x226_166, x226_167, x226_168, x226_171, x226_172, x226_173, x226_176, x226_179, x226_180, ↓reduceIte, Bool.false_eq_true, Nat.reduceAdd, Nat.reduceLT, Nat.reduceLeDiff, Nat.reduceSub, Nat.reduceEqDiff, Int.reduceToNat, Int.reduceEq, Int.reduceLT, Int.reduceLE, Int.reduceAdd, Int.reduceSub, zg, zI, zJ, zR, zst, zkl, zn, zcat, zok, zraw, List.length_cons, List.length_nil, Option.toList, List.nil_append, List.cons_append, true_and, and_true, if_true, if_false, ne_eq, not_true, not_false_eq_true, and_self, true_or, or_true, false_or, or_false, false_and, and_false, b_138 hm, hd0, mTiles _ X1, Int.le_refl]
      refine outer 0 _ μ1 (by omega) ⟨_, rfl, hf, hj, h69, ?_, ?_, ?_⟩
      · intro t' ht'; rw [h185 t' ht']; rfl
      · intro t' ht' q' hq'; simp [rnO] at hq'
      · intro t' ht'; rw [h184]; exact hO.2 t' ht'
  simp (disch := omega) only [x226_0, x226_1, x226_2, x226_3, x226_4, x226_7, x226_8, x226_12, x226_13, x226_16, x226_19, x226_20, x226_23, x226_25, x226_26, x226_27, x226_30, x226_33, x226_34, x226_38, x226_41, x226_42, x226_44, x226_45, x226_49, x226_50, x226_53, x226_56, x226_57, x226_60, x226_62, x226_63, x226_66, x226_67, x226_69, x226_70, x226_71, x226_74, x226_77, x226_80, x226_81, x226_84, x226_86, x226_87, x226_90, x226_91, x226_92, x226_95, x226_97, x226_98, x226_100, x226_101, x226_102, x226_105, x226_106, x226_107, x226_109, x226_112, x226_115, x226_116, x226_120, x226_121, x226_124, x226_127, x226_128, x226_131, x226_133, x226_134, x226_135, x226_138, x226_141, x226_144, x226_145, x226_148, x226_150, x226_151, x226_152, x226_155, x226_158, x226_161, x226_163, x226_166, x226_167, x226_168, x226_171, x226_172, x226_173, x226_176, x226_179, x226_180, ↓reduceIte, Bool.false_eq_true, Nat.reduceAdd, Nat.reduceLT, Nat.reduceLeDiff, Nat.reduceSub, Nat.reduceEqDiff, Int.reduceToNat, Int.reduceEq, Int.reduceLT, Int.reduceLE, Int.reduceAdd, Int.reduceSub, zg, zI, zJ, zR, zst, zkl, zn, zcat, zok, zraw, List.length_cons, List.length_nil, Option.toList, List.nil_append, List.cons_append, true_and, and_true, if_true, if_false, ne_eq, not_true, not_false_eq_true, and_self, true_or, or_true, false_or, or_false, false_and, and_false, b_138 hm, ua_eq]
  refine start 0 _ _ (by omega) ⟨x5, rfl, Fr.us (by decide) Fr.refl, ?_, by rw [us_same, zup_same rfl], fun t' ht' => absurd ht' (by omega), by rw [us_ne (by decide)]⟩
  intro j h1 h2; rw [us_same, zup_ne h2]
theorem mFallsNow {d : Nat} {x : Int} {y : Int} (hd : 6 ≤ d) (h : MX θ τ s μ) (hL : ML τ ρ μ) (hG : ∀ t, t < tn τ → μ 172 t = 1 - ρ.1 0 t) (hg : 0 ≤ g ∧ g ≤ 99) (hwy : 0 ≤ w ∧ w ≤ 3) (hx : x = g) (hy : y = w)
    (hQ : ∀ μ', Fr GF μ μ' → (∀ j, j ≠ 50 → j ≠ 69 → μ' 138 j = μ 138 j) → FU τ ρ g w (gnO τ ρ) μ' → Q (some (vi (foO τ ρ g w (gnO τ ρ) : Nat))) θ μ') : Ex d 227 0 [vr 138, vi x, vi y] [] θ μ Q := by
  subst hx
  subst hy
  have hd0 : 0 < d := by omega
  have hm := h.1
  simp (disch := omega) only [x227_0, x227_1, x227_4, x227_5, x227_6, x227_7, x227_10, ↓reduceIte, Bool.false_eq_true, Nat.reduceAdd, Nat.reduceLT, Nat.reduceLeDiff, Nat.reduceSub, Nat.reduceEqDiff, Int.reduceToNat, Int.reduceEq, Int.reduceLT, Int.reduceLE, Int.reduceAdd, Int.reduceSub, zg, zI, zJ, zR, zst, zkl, zn, zcat, zok, zraw, List.length_cons, List.length_nil, Option.toList, List.nil_append, List.cons_append, true_and, and_true, if_true, if_false, ne_eq, not_true, not_false_eq_true, and_self, true_or, or_true, false_or, or_false, false_and, and_false, b_138 hm, hd0]
  refine mAsItIs (by omega) h ?_ ?_
  · intro t ht; rw [hG t ht]; have := (hL.1.1 t ht).1; omega
  intro μ1 hf1 h1
  have k1 : μ1 138 = μ 138 := hf1 138 (by decide)
  simp (disch := omega) only [x227_0, x227_1, x227_4, x227_5, x227_6, x227_7, x227_10, ↓reduceIte, Bool.false_eq_true, Nat.reduceAdd, Nat.reduceLT, Nat.reduceLeDiff, Nat.reduceSub, Nat.reduceEqDiff, Int.reduceToNat, Int.reduceEq, Int.reduceLT, Int.reduceLE, Int.reduceAdd, Int.reduceSub, zg, zI, zJ, zR, zst, zkl, zn, zcat, zok, zraw, List.length_cons, List.length_nil, Option.toList, List.nil_append, List.cons_append, true_and, and_true, if_true, if_false, ne_eq, not_true, not_false_eq_true, and_self, true_or, or_true, false_or, or_false, false_and, and_false, b_138 hm, hd0]
  refine mFalls (l0 := gnO τ ρ) (by omega) (MX_fr h hf1 (by decide) (by rw [k1])) (ML_fr hL hf1 (by decide) (by rw [k1])) ⟨gn_z τ ρ, ?_⟩ hg hwy ?_
  · intro t ht
    rw [h1 t ht, hG t ht]
    unfold gnO
    have := (hL.1.1 t ht).1
    by_cases h0 : ρ.1 0 t = 0
    · rw [if_pos ⟨ht, h0⟩]; omega
    · rw [if_neg (fun q => h0 q.2)]; omega
  · intro μ2 hf2 hj2 hF
    simp (disch := omega) only [x227_0, x227_1, x227_4, x227_5, x227_6, x227_7, x227_10, ↓reduceIte, Bool.false_eq_true, Nat.reduceAdd, Nat.reduceLT, Nat.reduceLeDiff, Nat.reduceSub, Nat.reduceEqDiff, Int.reduceToNat, Int.reduceEq, Int.reduceLT, Int.reduceLE, Int.reduceAdd, Int.reduceSub, zg, zI, zJ, zR, zst, zkl, zn, zcat, zok, zraw, List.length_cons, List.length_nil, Option.toList, List.nil_append, List.cons_append, true_and, and_true, if_true, if_false, ne_eq, not_true, not_false_eq_true, and_self, true_or, or_true, false_or, or_false, false_and, and_false]
    exact hQ μ2 ((hf1.mono (by decide)).trans hf2) (fun j a b => by rw [hj2 j a b, k1]) hF
end MG
