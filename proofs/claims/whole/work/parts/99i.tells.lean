/-! CALLS: yardTells, of the class: the whole of it -/
section TM2
variable {θ : zS} {T U : Nat} {σ : zSt} {Q : Option zV → zS → zM → Prop} {μ : zM}
def TLA : List Nat := [10, 11, 40, 41, 42, 43, 44, 45, 122, 123, 125, 126, 127, 128, 129, 130]
theorem CS_ct {μ' : zM} (h : CS θ T U σ μ) (f : Fr TLA μ μ') (ht : CT (sT σ) (sG σ) μ') : CS θ T U σ μ' := by
  obtain ⟨hX, hw, hn, hk, _, hl, hv, htp, hp⟩ := h
  have e : ∀ a, a ∉ TLA → μ' a = μ a := fun a ha => f a ha
  refine ⟨CX_fr hX f (by decide), hw, CSn_fr (s := 46) (Or.inl rfl) hn (fun a h1 h2 => e a (by unfold TLA; simp; omega)), ?_, ht, CSl_fr (σ := σ) hl (fun a h1 h2 => e a (by unfold TLA; simp; omega)), ?_, ?_, ?_⟩
  · unfold CK CP CQ; rw [e 104 (by decide), e 105 (by decide), e 106 (by decide)]; exact hk
  · unfold CV; rw [e 131 (by decide), e 132 (by decide), e 133 (by decide), e 134 (by decide), e 135 (by decide), e 136 (by decide)]; exact hv
  · rw [e 3 (by decide), e 7 (by decide)]; exact htp
  · rw [e 2 (by decide)]; unfold CWd; rw [e 8 (by decide)]; exact hp
/-- the answers, as the teller keeps them behind i steps -/
def YT (Y : Nat → Int × Int × Int × Int) (i : Nat) (μ : zM) : Prop := μ 122 2 = (Y i).2.2.1 ∧ (i = 0 ∨ (μ 122 0 = (Y i).1 ∧ μ 122 1 = (Y i).2.1 ∧ μ 122 3 = (Y i).2.2.2))
theorem fs_run {τ : zT} {ρ : zF} {g w : Int} (hR : RU τ ρ g w (gnO τ ρ) 1 μ) : (μ 40 3 ≤ 0 ∧ fsO τ ρ g w = -2) ∨ (¬ μ 40 3 ≤ 0 ∧ fsO τ ρ g w = μ 41 0) := by
  obtain ⟨h1, _, h3, _⟩ := hR
  unfold foO at h1
  unfold fsO
  generalize alO τ ρ g w (gnO τ ρ) = A at h1 h3 ⊢
  cases A with
  | nil => exact Or.inl ⟨by rw [h1]; exact Int.le_refl _, rfl⟩
  | cons a r =>
    refine Or.inr ⟨by rw [h1]; simp, ?_⟩
    exact (h3 0 (by simp)).symm
theorem cFindGust {d : Nat} {x1 x2 x3 x4 : zV} (h : CS θ T U σ μ) (hd : 6 ≤ d) (h4 : μ 122 4 = 0) (hQ : ∀ μ', Fr TLA μ μ' → μ' 122 4 = 1 → YT (ytO (sT σ) (sG σ)) 400 μ' → (∀ k, k < 480 → μ' 130 k = 0) → Q none θ μ') : Ex d 86 0 [vr 122, x1, x2, x3, x4] [] θ μ Q := by
  have hc := h.1.1.1
  have hd0 : 0 < d := by omega
  have hwT := h.1.2.1
  have hn := tn_b hwT
  have hM := h.2.1.2.2.2.2.2
  have hwG := h.2.1.2.1
  obtain ⟨y1, y2⟩ := hwG.2.1
  obtain ⟨hCF, _, hY, _⟩ := h.2.2.1
  have h130 := h.2.2.2.2.1.2
  obtain ⟨a1, a2, aR⟩ := hCF
  have hg3 : μ 47 3 = 0 ∨ μ 47 3 = 1 := by have := aR.2.2.2; rw [show (46 + 1 : Nat) = 47 from rfl] at this; rw [this]; exact a2.2.2
  obtain ⟨μ1, hμ1⟩ : ∃ μ1, μ1 = us μ 122 (zup (μ 122) 4 1) := ⟨_, rfl⟩
  have f1 : Fr [122] μ μ1 := by rw [hμ1]; exact Fr.us (by simp) Fr.refl
  have z1 : (1 : Int) = 0 ∨ (1 : Int) = 1 := Or.inr rfl
  have R1 : RC (sT σ) (gR (sG σ)) 47 μ1 := by
    obtain ⟨b1, b2, b3, b4⟩ := aR
    exact ⟨by rw [f1 47 (by decide)]; exact b1, fun m t hm ht => by rw [f1 (47 + (m + 2)) (by simp; omega)]; exact b2 m t hm ht, by rw [f1 47 (by decide)]; exact b3, by rw [f1 47 (by decide)]; exact b4⟩
  simp only [x86_0, x86_1, x86_4, x86_7, x86_8, x86_9, x86_10, x86_13, x86_14, x86_17, x86_18, x86_21, x86_24, x86_27, x86_28, x86_31, x86_34, x86_35, x86_36, x86_37, x86_40, x86_41, x86_44, x86_47, x86_48, x86_49, x86_51, x86_54, x86_55, x86_57, x86_59, x86_62, x86_63, x86_65, x86_66, x86_69, x86_70, x86_73, x86_74, x86_77, x86_78, x86_79, x86_80, x86_83, x86_84, x86_85, x86_88, x86_89, x86_91, x86_93, x86_94, x86_97, x86_100, x86_101, x86_103, x86_106, x86_107, x86_108, x86_111, x86_112, x86_113, x86_116, x86_117, x86_118, x86_121, x86_124, x86_127, x86_128, x86_131, x86_134, x86_135, x86_136, x86_139, x86_141, x86_144, x86_147, x86_150, x86_153, x86_156, ↓reduceIte, Bool.false_eq_true, Nat.reduceAdd, Nat.reduceLT, Nat.reduceLeDiff, Nat.reduceSub, Nat.reduceEqDiff, Int.reduceToNat, Int.reduceEq, Int.reduceLT, Int.reduceLE, Int.reduceAdd, Int.reduceSub, zg, zI, zJ, zR, zst, zkl, zn, zcat, zok, zraw, List.length_cons, List.length_nil, Option.toList, List.nil_append, List.cons_append, true_and, and_true, if_true, if_false, ne_eq, not_true, not_false_eq_true, and_self, true_or, or_true, false_or, or_false, false_and, and_false, b_122 hc, h4, z1, ua_eq, ← hμ1, r_122_7 hc, r_122_6 hc, b_46 hc, r_46_0 hc, b_123 hc, b_47 hc, hd0]
  refine cCopy (d := d - 1) (r := 123) (q := 47) hc rf123 rf47 (by decide) R1 hn.2 (by rw [f1 47 (by decide)]; exact hg3) (fun μ2 f2 R2 _ _ => ?_)
  simp only [x86_0, x86_1, x86_4, x86_7, x86_8, x86_9, x86_10, x86_13, x86_14, x86_17, x86_18, x86_21, x86_24, x86_27, x86_28, x86_31, x86_34, x86_35, x86_36, x86_37, x86_40, x86_41, x86_44, x86_47, x86_48, x86_49, x86_51, x86_54, x86_55, x86_57, x86_59, x86_62, x86_63, x86_65, x86_66, x86_69, x86_70, x86_73, x86_74, x86_77, x86_78, x86_79, x86_80, x86_83, x86_84, x86_85, x86_88, x86_89, x86_91, x86_93, x86_94, x86_97, x86_100, x86_101, x86_103, x86_106, x86_107, x86_108, x86_111, x86_112, x86_113, x86_116, x86_117, x86_118, x86_121, x86_124, x86_127, x86_128, x86_131, x86_134, x86_135, x86_136, x86_139, x86_141, x86_144, x86_147, x86_150, x86_153, x86_156, ↓reduceIte, Bool.false_eq_true, Nat.reduceAdd, Nat.reduceLT, Nat.reduceLeDiff, Nat.reduceSub, Nat.reduceEqDiff, Int.reduceToNat, Int.reduceEq, Int.reduceLT, Int.reduceLE, Int.reduceAdd, Int.reduceSub, zg, zI, zJ, zR, zst, zkl, zn, zcat, zok, zraw, List.length_cons, List.length_nil, Option.toList, List.nil_append, List.cons_append, true_and, and_true, if_true, if_false, ne_eq, not_true, not_false_eq_true, and_self, true_or, or_true, false_or, or_false, false_and, and_false, b_122 hc, r_122_7 hc, b_123 hc, r_123_0 hc, x_124 hc (show (0 : Int) ≤ 0 by decide) (show (0 : Int) < 5 by decide), n_124 hc, r_124_0 hc, Int.toNat_zero, hd0]
  refine eFill (d := d - 1) (by decide) (s_125 hc) (by decide) ?_
  obtain ⟨μ3, hμ3⟩ : ∃ μ3, μ3 = us μ2 125 (fun j => if j < 36 then 1 else μ2 125 j) := ⟨_, rfl⟩
  have f3 : Fr [125] μ2 μ3 := by rw [hμ3]; exact Fr.us (by simp) Fr.refl
  rw [← hμ3]
  have F3 : Fr TLA μ μ3 := ((f1.mono (by decide)).trans (f2.mono (by decide))).trans (f3.mono (by decide))
  have C3 : CF (sT σ) (whF (gR (sG σ))) 123 μ3 := by
    obtain ⟨b1, b2, b3, b4⟩ := R2
    refine ⟨rf123, whF_w a2, ?_, fun m t hm ht => ?_, ?_, ?_⟩
    · rw [f3 123 (by decide)]; exact b1
    · by_cases m0 : m = 0
      · subst m0
        show μ3 125 t = 1
        rw [hμ3, us_same, if_pos (by omega)]
      · rw [f3 (123 + (m + 2)) (by simp; omega)]
        show _ = (if m = 0 then 1 else (gR (sG σ)).1 m t)
        rw [if_neg m0]; exact b2 m t hm ht
    · rw [f3 123 (by decide)]; exact b3
    · rw [f3 123 (by decide)]; exact b4
  simp only [x86_0, x86_1, x86_4, x86_7, x86_8, x86_9, x86_10, x86_13, x86_14, x86_17, x86_18, x86_21, x86_24, x86_27, x86_28, x86_31, x86_34, x86_35, x86_36, x86_37, x86_40, x86_41, x86_44, x86_47, x86_48, x86_49, x86_51, x86_54, x86_55, x86_57, x86_59, x86_62, x86_63, x86_65, x86_66, x86_69, x86_70, x86_73, x86_74, x86_77, x86_78, x86_79, x86_80, x86_83, x86_84, x86_85, x86_88, x86_89, x86_91, x86_93, x86_94, x86_97, x86_100, x86_101, x86_103, x86_106, x86_107, x86_108, x86_111, x86_112, x86_113, x86_116, x86_117, x86_118, x86_121, x86_124, x86_127, x86_128, x86_131, x86_134, x86_135, x86_136, x86_139, x86_141, x86_144, x86_147, x86_150, x86_153, x86_156, ↓reduceIte, Bool.false_eq_true, Nat.reduceAdd, Nat.reduceLT, Nat.reduceLeDiff, Nat.reduceSub, Nat.reduceEqDiff, Int.reduceToNat, Int.reduceEq, Int.reduceLT, Int.reduceLE, Int.reduceAdd, Int.reduceSub, zg, zI, zJ, zR, zst, zkl, zn, zcat, zok, zraw, List.length_cons, List.length_nil, Option.toList, List.nil_append, List.cons_append, true_and, and_true, if_true, if_false, ne_eq, not_true, not_false_eq_true, and_self, true_or, or_true, false_or, or_false, false_and, and_false, b_122 hc, r_122_6 hc, b_46 hc, hd0]
  refine cLying (d := d - 1) (f := gY (sG σ)) (B := sM σ) hc (fun k hk => by rw [F3 54 (by decide)]; exact hY k hk) y1 ⟨y2, by omega⟩ ?_
  obtain ⟨μ4, hμ4⟩ : ∃ μ4, μ4 = us μ3 122 (zup (μ3 122) 2 2147483647) := ⟨_, rfl⟩
  have f4 : Fr [122] μ3 μ4 := by rw [hμ4]; exact Fr.us (by simp) Fr.refl
  simp only [x86_0, x86_1, x86_4, x86_7, x86_8, x86_9, x86_10, x86_13, x86_14, x86_17, x86_18, x86_21, x86_24, x86_27, x86_28, x86_31, x86_34, x86_35, x86_36, x86_37, x86_40, x86_41, x86_44, x86_47, x86_48, x86_49, x86_51, x86_54, x86_55, x86_57, x86_59, x86_62, x86_63, x86_65, x86_66, x86_69, x86_70, x86_73, x86_74, x86_77, x86_78, x86_79, x86_80, x86_83, x86_84, x86_85, x86_88, x86_89, x86_91, x86_93, x86_94, x86_97, x86_100, x86_101, x86_103, x86_106, x86_107, x86_108, x86_111, x86_112, x86_113, x86_116, x86_117, x86_118, x86_121, x86_124, x86_127, x86_128, x86_131, x86_134, x86_135, x86_136, x86_139, x86_141, x86_144, x86_147, x86_150, x86_153, x86_156, ↓reduceIte, Bool.false_eq_true, Nat.reduceAdd, Nat.reduceLT, Nat.reduceLeDiff, Nat.reduceSub, Nat.reduceEqDiff, Int.reduceToNat, Int.reduceEq, Int.reduceLT, Int.reduceLE, Int.reduceAdd, Int.reduceSub, zg, zI, zJ, zR, zst, zkl, zn, zcat, zok, zraw, List.length_cons, List.length_nil, Option.toList, List.nil_append, List.cons_append, true_and, and_true, if_true, if_false, ne_eq, not_true, not_false_eq_true, and_self, true_or, or_true, false_or, or_false, false_and, and_false, b_122 hc, ua_eq, ← hμ4]
  have F4 : Fr TLA μ μ4 := F3.trans (f4.mono (by decide))
  have C4 : CF (sT σ) (whF (gR (sG σ))) 123 μ4 := CF_fr C3 f4 (by decide)
  have e44 : μ4 122 4 = 1 := by rw [hμ4, us_same, zup_ne (by decide), f3 122 (by decide), f2 122 (by decide), hμ1, us_same, zup_same rfl]
  have e42 : μ4 122 2 = 2147483647 := by rw [hμ4, us_same, zup_same rfl]
  have e130 : ∀ k, k < 480 → μ4 130 k = 0 := fun k hk => by rw [f4 130 (by decide), f3 130 (by decide), f2 130 (by decide), f1 130 (by decide)]; exact h130 k hk
  obtain ⟨Y, hYd⟩ : ∃ Y, Y = ytO (sT σ) (sG σ) := ⟨_, rfl⟩
  have Y0 : Y 0 = (-1, -1, 2147483647, -2) := by rw [hYd]; rfl
  obtain ⟨AP, hAP⟩ : ∃ AP : Int → Int → Int, AP = fun g w => apO (sT σ) (sG σ) g w := ⟨_, rfl⟩
  obtain ⟨FS, hFS⟩ : ∃ FS : Int → Int → Int, FS = fun g w => fsO (sT σ) (whF (gR (sG σ))) g w := ⟨_, rfl⟩
  obtain ⟨AS, hAS⟩ : ∃ AS : Int → Int → Int, ∀ g w, AS g w = apS (foO (sT σ) (whF (gR (sG σ))) g w (gnO (sT σ) (whF (gR (sG σ))))) (cAt2 (sT σ) (whF (gR (sG σ))) g w) (gY (sG σ)) := ⟨fun g w => _, fun g w => rfl⟩
  have Ys : ∀ i, Y (i + 1) = if AP ((i / 4 : Nat) : Int) ((i % 4 : Nat) : Int) < (Y i).2.2.1 then (((i / 4 : Nat) : Int), ((i % 4 : Nat) : Int), AP ((i / 4 : Nat) : Int) ((i % 4 : Nat) : Int), FS ((i / 4 : Nat) : Int) ((i % 4 : Nat) : Int)) else Y i := fun i => by rw [hYd, hAP, hFS]; rfl
  rw [← hYd] at hQ
  clear hYd
  obtain ⟨ly, hly⟩ : ∃ ly, ly = sm (gY (sG σ)) 480 := ⟨_, rfl⟩
  have hap : ∀ g w, ly + AS g w = AP g w := fun g w => by rw [hly, hAS, hAP]; exact ap_eq hwT
  have hapb : ∀ g w, 0 ≤ AP g w ∧ AP g w ≤ 36 * 601 := fun g w => by rw [hAP]; exact ap_b hwT hwG hM
  have hfs : ∀ g w μ', RU (sT σ) (whF (gR (sG σ))) g w (gnO (sT σ) (whF (gR (sG σ)))) 1 μ' → (μ' 40 3 ≤ 0 ∧ FS g w = -2) ∨ (¬ μ' 40 3 ≤ 0 ∧ FS g w = μ' 41 0) := fun g w μ' hR => by rw [hFS]; exact fs_run hR
  rw [← hly]
  clear hly hAP hFS
  -- of one GUST: the WAYS
  have inner : ∀ (gq : Nat), gq < 100 → (∀ μ5 y3 y4, Fr TLA μ μ5 → CF (sT σ) (whF (gR (sG σ))) 123 μ5 → μ5 122 4 = 1 → YT Y (4 * gq + 4) μ5 → (∀ k, k < 480 → μ5 130 k = 0) → Ex d 86 150 [vr 122, vi ly, vi (gq : Nat), y3, y4] [] θ μ5 Q) →
      ∀ t L μ5, t ≤ 4 → (∃ y4 : zV, L = [vr 122, vi ly, vi (gq : Nat), vi (t : Nat), y4] ∧ Fr TLA μ μ5 ∧ CF (sT σ) (whF (gR (sG σ))) 123 μ5 ∧ μ5 122 4 = 1 ∧ YT Y (4 * gq + t) μ5 ∧ ∀ k, k < 480 → μ5 130 k = 0) → Ex d 86 64 L [] θ μ5 Q := by
    intro gq hgq hend
    refine Ex_loop (I := fun t L μ5 => ∃ y4 : zV, L = [vr 122, vi ly, vi (gq : Nat), vi (t : Nat), y4] ∧ Fr TLA μ μ5 ∧ CF (sT σ) (whF (gR (sG σ))) 123 μ5 ∧ μ5 122 4 = 1 ∧ YT Y (4 * gq + t) μ5 ∧ ∀ k, k < 480 → μ5 130 k = 0) 4 ?_ ?_
    · rintro t L μ5 ht ⟨y4, rfl, f, hC, e4, hYT, h0⟩ hk
      have X5 : CX θ T U (sT σ) μ5 := CX_fr h.1 f (by decide)
      have c1 : ¬ (4 : Int) ≤ (t : Int) := by omega
      have w1 : t < 2147483647 := by omega
      have q0 : (0 : Int) ≤ (gq : Int) ∧ (gq : Int) ≤ 99 := by omega
      have q1 : (0 : Int) ≤ (t : Int) ∧ (t : Int) ≤ 3 := by omega
      have ed : (4 * gq + t) / 4 = gq := by omega
      have em : (4 * gq + t) % 4 = t := by omega
      have es := Ys (4 * gq + t)
      rw [ed, em] at es
      have hb := hapb (gq : Int) (t : Int)
      have ha := hap (gq : Int) (t : Int)
      have hS := hAS (gq : Int) (t : Int)
      have hF0 := hfs (gq : Int) (t : Int)
      generalize AP (gq : Int) (t : Int) = ap at es hb ha
      generalize AS (gq : Int) (t : Int) = as at hS ha
      generalize FS (gq : Int) (t : Int) = fs at es hF0
      rw [x86_64]
      simp only [x86_0, x86_1, x86_4, x86_7, x86_8, x86_9, x86_10, x86_13, x86_14, x86_17, x86_18, x86_21, x86_24, x86_27, x86_28, x86_31, x86_34, x86_35, x86_36, x86_37, x86_40, x86_41, x86_44, x86_47, x86_48, x86_49, x86_51, x86_54, x86_55, x86_57, x86_59, x86_62, x86_63, x86_65, x86_66, x86_69, x86_70, x86_73, x86_74, x86_77, x86_78, x86_79, x86_80, x86_83, x86_84, x86_85, x86_88, x86_89, x86_91, x86_93, x86_94, x86_97, x86_100, x86_101, x86_103, x86_106, x86_107, x86_108, x86_111, x86_112, x86_113, x86_116, x86_117, x86_118, x86_121, x86_124, x86_127, x86_128, x86_131, x86_134, x86_135, x86_136, x86_139, x86_141, x86_144, x86_147, x86_150, x86_153, x86_156, ↓reduceIte, Bool.false_eq_true, Nat.reduceAdd, Nat.reduceLT, Nat.reduceLeDiff, Nat.reduceSub, Nat.reduceEqDiff, Int.reduceToNat, Int.reduceEq, Int.reduceLT, Int.reduceLE, Int.reduceAdd, Int.reduceSub, zg, zI, zJ, zR, zst, zkl, zn, zcat, zok, zraw, List.length_cons, List.length_nil, Option.toList, List.nil_append, List.cons_append, true_and, and_true, if_true, if_false, ne_eq, not_true, not_false_eq_true, and_self, true_or, or_true, false_or, or_false, false_and, and_false, c1, b_122 hc, r_122_5 hc, r_122_7 hc, b_40 hc, b_123 hc, hd0]
      refine cRun (d := d - 1) (ρ := whF (gR (sG σ))) X5 hC (by omega) q0 q1 (Or.inr rfl) (fun μ6 f6 hR => ?_)
      have hLD := LD_of hwT q1 hR
      have hF1 := hF0 μ6 hR
      clear hF0 hR
      have e54 : ∀ k, k < 480 → μ6 54 k = gY (sG σ) k := fun k hk2 => by rw [f6 54 (by decide), f 54 (by decide)]; exact hY k hk2
      simp only [x86_0, x86_1, x86_4, x86_7, x86_8, x86_9, x86_10, x86_13, x86_14, x86_17, x86_18, x86_21, x86_24, x86_27, x86_28, x86_31, x86_34, x86_35, x86_36, x86_37, x86_40, x86_41, x86_44, x86_47, x86_48, x86_49, x86_51, x86_54, x86_55, x86_57, x86_59, x86_62, x86_63, x86_65, x86_66, x86_69, x86_70, x86_73, x86_74, x86_77, x86_78, x86_79, x86_80, x86_83, x86_84, x86_85, x86_88, x86_89, x86_91, x86_93, x86_94, x86_97, x86_100, x86_101, x86_103, x86_106, x86_107, x86_108, x86_111, x86_112, x86_113, x86_116, x86_117, x86_118, x86_121, x86_124, x86_127, x86_128, x86_131, x86_134, x86_135, x86_136, x86_139, x86_141, x86_144, x86_147, x86_150, x86_153, x86_156, ↓reduceIte, Bool.false_eq_true, Nat.reduceAdd, Nat.reduceLT, Nat.reduceLeDiff, Nat.reduceSub, Nat.reduceEqDiff, Int.reduceToNat, Int.reduceEq, Int.reduceLT, Int.reduceLE, Int.reduceAdd, Int.reduceSub, zg, zI, zJ, zR, zst, zkl, zn, zcat, zok, zraw, List.length_cons, List.length_nil, Option.toList, List.nil_append, List.cons_append, true_and, and_true, if_true, if_false, ne_eq, not_true, not_false_eq_true, and_self, true_or, or_true, false_or, or_false, false_and, and_false, b_122 hc, hd0]
      refine cApart (d := d - 1) hc (by omega) hLD e54 y1 (fun k hk2 => by rw [f6 130 (by decide)]; exact h0 k hk2) (fun μ7 f7 h07 => ?_)
      rw [← hS]
      clear hLD e54 hS
      have F7 : Fr TLA μ μ7 := (f.trans (f6.mono (by decide))).trans (f7.mono (by decide))
      have C7 : CF (sT σ) (whF (gR (sG σ))) 123 μ7 := CF_fr (CF_fr hC f6 (by decide)) f7 (by decide)
      have e122 : μ7 122 = μ5 122 := by rw [f7 122 (by decide), f6 122 (by decide)]
      rw [← f7 40 (by decide), ← f7 41 (by decide)] at hF1
      have wl : w32 (ly + as) = ap := by rw [ha]; exact w32_i (by omega) (by omega)
      have e2 : μ7 122 2 = (Y (4 * gq + t)).2.2.1 := by rw [e122]; exact hYT.1
      by_cases p : ap < (Y (4 * gq + t)).2.2.1
      · rw [if_pos p] at es
        have p' : ¬ (Y (4 * gq + t)).2.2.1 ≤ ap := Int.not_le.mpr p
        obtain ⟨μ8, hμ8⟩ : ∃ μ8, μ8 = us μ7 122 (zup (zup (zup (zup (μ7 122) 2 ap) 0 (gq : Int)) 1 (t : Int)) 3 fs) := ⟨_, rfl⟩
        have f8 : Fr [122] μ7 μ8 := by rw [hμ8]; exact Fr.us (by simp) Fr.refl
        have last := hk [vr 122, vi ly, vi (gq : Nat), vi ((t + 1 : Nat) : Int), vi ap] μ8 ⟨vi ap, rfl, F7.trans (f8.mono (by decide)), CF_fr C7 f8 (by decide), ?_, ⟨?_, Or.inr ⟨?_, ?_, ?_⟩⟩, fun k hk2 => by rw [f8 130 (by decide)]; exact h07 k hk2⟩
        · rcases hF1 with ⟨e0, ef⟩ | ⟨e0, ef⟩
          · rw [ef] at hμ8
            simp only [x86_0, x86_1, x86_4, x86_7, x86_8, x86_9, x86_10, x86_13, x86_14, x86_17, x86_18, x86_21, x86_24, x86_27, x86_28, x86_31, x86_34, x86_35, x86_36, x86_37, x86_40, x86_41, x86_44, x86_47, x86_48, x86_49, x86_51, x86_54, x86_55, x86_57, x86_59, x86_62, x86_63, x86_65, x86_66, x86_69, x86_70, x86_73, x86_74, x86_77, x86_78, x86_79, x86_80, x86_83, x86_84, x86_85, x86_88, x86_89, x86_91, x86_93, x86_94, x86_97, x86_100, x86_101, x86_103, x86_106, x86_107, x86_108, x86_111, x86_112, x86_113, x86_116, x86_117, x86_118, x86_121, x86_124, x86_127, x86_128, x86_131, x86_134, x86_135, x86_136, x86_139, x86_141, x86_144, x86_147, x86_150, x86_153, x86_156, ↓reduceIte, Bool.false_eq_true, Nat.reduceAdd, Nat.reduceLT, Nat.reduceLeDiff, Nat.reduceSub, Nat.reduceEqDiff, Int.reduceToNat, Int.reduceEq, Int.reduceLT, Int.reduceLE, Int.reduceAdd, Int.reduceSub, zg, zI, zJ, zR, zst, zkl, zn, zcat, zok, zraw, List.length_cons, List.length_nil, Option.toList, List.nil_append, List.cons_append, true_and, and_true, if_true, if_false, ne_eq, not_true, not_false_eq_true, and_self, true_or, or_true, false_or, or_false, false_and, and_false, b_122 hc, r_122_5 hc, b_40 hc, wl, e2, p', ua_eq, us_same, us_us, us_ne (show (40 : Nat) ≠ 122 by decide), e0, ← hμ8, w32_s w1, zkl]
            exact last
          · rw [ef] at hμ8
            simp only [x86_0, x86_1, x86_4, x86_7, x86_8, x86_9, x86_10, x86_13, x86_14, x86_17, x86_18, x86_21, x86_24, x86_27, x86_28, x86_31, x86_34, x86_35, x86_36, x86_37, x86_40, x86_41, x86_44, x86_47, x86_48, x86_49, x86_51, x86_54, x86_55, x86_57, x86_59, x86_62, x86_63, x86_65, x86_66, x86_69, x86_70, x86_73, x86_74, x86_77, x86_78, x86_79, x86_80, x86_83, x86_84, x86_85, x86_88, x86_89, x86_91, x86_93, x86_94, x86_97, x86_100, x86_101, x86_103, x86_106, x86_107, x86_108, x86_111, x86_112, x86_113, x86_116, x86_117, x86_118, x86_121, x86_124, x86_127, x86_128, x86_131, x86_134, x86_135, x86_136, x86_139, x86_141, x86_144, x86_147, x86_150, x86_153, x86_156, ↓reduceIte, Bool.false_eq_true, Nat.reduceAdd, Nat.reduceLT, Nat.reduceLeDiff, Nat.reduceSub, Nat.reduceEqDiff, Int.reduceToNat, Int.reduceEq, Int.reduceLT, Int.reduceLE, Int.reduceAdd, Int.reduceSub, zg, zI, zJ, zR, zst, zkl, zn, zcat, zok, zraw, List.length_cons, List.length_nil, Option.toList, List.nil_append, List.cons_append, true_and, and_true, if_true, if_false, ne_eq, not_true, not_false_eq_true, and_self, true_or, or_true, false_or, or_false, false_and, and_false, b_122 hc, r_122_5 hc, b_40 hc, r_40_0 hc, wl, e2, p', ua_eq, us_same, us_us, us_ne (show (40 : Nat) ≠ 122 by decide), us_ne (show (41 : Nat) ≠ 122 by decide), e0, x_41 hc (show (0 : Int) ≤ 0 by decide) (show (0 : Int) < 36 by decide), Int.toNat_zero, ← hμ8, w32_s w1, zkl]
            exact last
        · rw [hμ8, us_same, zup_ne (by decide), zup_ne (by decide), zup_ne (by decide), zup_ne (by decide), e122]; exact e4
        · rw [← Nat.add_assoc, es, hμ8, us_same, zup_ne (by decide), zup_ne (by decide), zup_ne (by decide), zup_same rfl]
        · rw [← Nat.add_assoc, es, hμ8, us_same, zup_ne (by decide), zup_ne (by decide), zup_same rfl]
        · rw [← Nat.add_assoc, es, hμ8, us_same, zup_ne (by decide), zup_same rfl]
        · rw [← Nat.add_assoc, es, hμ8, us_same, zup_same rfl]
      · rw [if_neg p] at es
        have p' : (Y (4 * gq + t)).2.2.1 ≤ ap := Int.not_lt.mp p
        have hne : 4 * gq + t ≠ 0 := fun hz => by
          rw [hz, Y0] at p'
          have p2 : (2147483647 : Int) ≤ ap := p'
          omega
        simp only [x86_0, x86_1, x86_4, x86_7, x86_8, x86_9, x86_10, x86_13, x86_14, x86_17, x86_18, x86_21, x86_24, x86_27, x86_28, x86_31, x86_34, x86_35, x86_36, x86_37, x86_40, x86_41, x86_44, x86_47, x86_48, x86_49, x86_51, x86_54, x86_55, x86_57, x86_59, x86_62, x86_63, x86_65, x86_66, x86_69, x86_70, x86_73, x86_74, x86_77, x86_78, x86_79, x86_80, x86_83, x86_84, x86_85, x86_88, x86_89, x86_91, x86_93, x86_94, x86_97, x86_100, x86_101, x86_103, x86_106, x86_107, x86_108, x86_111, x86_112, x86_113, x86_116, x86_117, x86_118, x86_121, x86_124, x86_127, x86_128, x86_131, x86_134, x86_135, x86_136, x86_139, x86_141, x86_144, x86_147, x86_150, x86_153, x86_156, ↓reduceIte, Bool.false_eq_true, Nat.reduceAdd, Nat.reduceLT, Nat.reduceLeDiff, Nat.reduceSub, Nat.reduceEqDiff, Int.reduceToNat, Int.reduceEq, Int.reduceLT, Int.reduceLE, Int.reduceAdd, Int.reduceSub, zg, zI, zJ, zR, zst, zkl, zn, zcat, zok, zraw, List.length_cons, List.length_nil, Option.toList, List.nil_append, List.cons_append, true_and, and_true, if_true, if_false, ne_eq, not_true, not_false_eq_true, and_self, true_or, or_true, false_or, or_false, false_and, and_false, b_122 hc, wl, e2, p', w32_s w1, zkl]
        refine hk _ _ ⟨_, rfl, F7, C7, by rw [e122]; exact e4, ?_, h07⟩
        unfold YT
        rw [← Nat.add_assoc, es, e122]
        refine ⟨hYT.1, Or.inr ?_⟩
        rcases hYT.2 with hh | hh
        · exact absurd hh hne
        · exact hh
    · rintro L μ5 ⟨y4, rfl, f, hC, e4, hYT, h0⟩
      have := hend μ5 (vi 4) y4 f hC e4 hYT h0
      rw [x86_64]
      simp only [x86_0, x86_1, x86_4, x86_7, x86_8, x86_9, x86_10, x86_13, x86_14, x86_17, x86_18, x86_21, x86_24, x86_27, x86_28, x86_31, x86_34, x86_35, x86_36, x86_37, x86_40, x86_41, x86_44, x86_47, x86_48, x86_49, x86_51, x86_54, x86_55, x86_57, x86_59, x86_62, x86_63, x86_65, x86_66, x86_69, x86_70, x86_73, x86_74, x86_77, x86_78, x86_79, x86_80, x86_83, x86_84, x86_85, x86_88, x86_89, x86_91, x86_93, x86_94, x86_97, x86_100, x86_101, x86_103, x86_106, x86_107, x86_108, x86_111, x86_112, x86_113, x86_116, x86_117, x86_118, x86_121, x86_124, x86_127, x86_128, x86_131, x86_134, x86_135, x86_136, x86_139, x86_141, x86_144, x86_147, x86_153, x86_156, ↓reduceIte, Bool.false_eq_true, Nat.reduceAdd, Nat.reduceLT, Nat.reduceLeDiff, Nat.reduceSub, Nat.reduceEqDiff, Int.reduceToNat, Int.reduceEq, Int.reduceLT, Int.reduceLE, Int.reduceAdd, Int.reduceSub, zg, zI, zJ, zR, zst, zkl, zn, zcat, zok, zraw, List.length_cons, List.length_nil, Option.toList, List.nil_append, List.cons_append, true_and, and_true, if_true, if_false, ne_eq, not_true, not_false_eq_true, and_self, true_or, or_true, false_or, or_false, false_and, and_false, show ((4 : Nat) : Int) = 4 from rfl, Int.le_refl]
      exact this
  have key : ∀ t L μ5, t ≤ 100 → (∃ y3 y4 : zV, L = [vr 122, vi ly, vi (t : Nat), y3, y4] ∧ Fr TLA μ μ5 ∧ CF (sT σ) (whF (gR (sG σ))) 123 μ5 ∧ μ5 122 4 = 1 ∧ YT Y (4 * t) μ5 ∧ ∀ k, k < 480 → μ5 130 k = 0) → Ex d 86 56 L [] θ μ5 Q := by
    refine Ex_loop (I := fun t L μ5 => ∃ y3 y4 : zV, L = [vr 122, vi ly, vi (t : Nat), y3, y4] ∧ Fr TLA μ μ5 ∧ CF (sT σ) (whF (gR (sG σ))) 123 μ5 ∧ μ5 122 4 = 1 ∧ YT Y (4 * t) μ5 ∧ ∀ k, k < 480 → μ5 130 k = 0) 100 ?_ ?_
    · rintro t L μ5 ht ⟨y3, y4, rfl, f, hC, e4, hYT, h0⟩ hk
      have c1 : ¬ (100 : Int) ≤ (t : Int) := by omega
      have w1 : t < 2147483647 := by omega
      have := inner t ht (fun μ6 z3 z4 g1 g2 g3 g4 g5 => by
        simp only [x86_0, x86_1, x86_4, x86_7, x86_8, x86_9, x86_10, x86_13, x86_14, x86_17, x86_18, x86_21, x86_24, x86_27, x86_28, x86_31, x86_34, x86_35, x86_36, x86_37, x86_40, x86_41, x86_44, x86_47, x86_48, x86_49, x86_51, x86_54, x86_55, x86_57, x86_59, x86_62, x86_63, x86_65, x86_66, x86_69, x86_70, x86_73, x86_74, x86_77, x86_78, x86_79, x86_80, x86_83, x86_84, x86_85, x86_88, x86_89, x86_91, x86_93, x86_94, x86_97, x86_100, x86_101, x86_103, x86_106, x86_107, x86_108, x86_111, x86_112, x86_113, x86_116, x86_117, x86_118, x86_121, x86_124, x86_127, x86_128, x86_131, x86_134, x86_135, x86_136, x86_139, x86_141, x86_144, x86_147, x86_150, x86_153, x86_156, ↓reduceIte, Bool.false_eq_true, Nat.reduceAdd, Nat.reduceLT, Nat.reduceLeDiff, Nat.reduceSub, Nat.reduceEqDiff, Int.reduceToNat, Int.reduceEq, Int.reduceLT, Int.reduceLE, Int.reduceAdd, Int.reduceSub, zg, zI, zJ, zR, zst, zkl, zn, zcat, zok, zraw, List.length_cons, List.length_nil, Option.toList, List.nil_append, List.cons_append, true_and, and_true, if_true, if_false, ne_eq, not_true, not_false_eq_true, and_self, true_or, or_true, false_or, or_false, false_and, and_false, zkl, w32_s w1]
        exact hk _ _ ⟨_, _, rfl, g1, g2, g3, by rw [show 4 * (t + 1) = 4 * t + 4 by omega]; exact g4, g5⟩) 0 _ μ5 (Nat.zero_le _) ⟨y4, rfl, f, hC, e4, hYT, h0⟩
      rw [x86_56]
      simp only [x86_0, x86_1, x86_4, x86_7, x86_8, x86_9, x86_10, x86_13, x86_14, x86_17, x86_18, x86_21, x86_24, x86_27, x86_28, x86_31, x86_34, x86_35, x86_36, x86_37, x86_40, x86_41, x86_44, x86_47, x86_48, x86_49, x86_51, x86_54, x86_55, x86_57, x86_59, x86_62, x86_63, x86_65, x86_66, x86_69, x86_70, x86_73, x86_74, x86_77, x86_78, x86_79, x86_80, x86_83, x86_84, x86_85, x86_88, x86_89, x86_91, x86_93, x86_94, x86_97, x86_100, x86_101, x86_103, x86_106, x86_107, x86_108, x86_111, x86_112, x86_113, x86_116, x86_117, x86_118, x86_121, x86_124, x86_127, x86_128, x86_131, x86_134, x86_135, x86_136, x86_139, x86_141, x86_144, x86_147, x86_150, x86_153, x86_156, ↓reduceIte, Bool.false_eq_true, Nat.reduceAdd, Nat.reduceLT, Nat.reduceLeDiff, Nat.reduceSub, Nat.reduceEqDiff, Int.reduceToNat, Int.reduceEq, Int.reduceLT, Int.reduceLE, Int.reduceAdd, Int.reduceSub, zg, zI, zJ, zR, zst, zkl, zn, zcat, zok, zraw, List.length_cons, List.length_nil, Option.toList, List.nil_append, List.cons_append, true_and, and_true, if_true, if_false, ne_eq, not_true, not_false_eq_true, and_self, true_or, or_true, false_or, or_false, false_and, and_false, c1, zkl]
      exact this
    · rintro L μ5 ⟨y3, y4, rfl, f, hC, e4, hYT, h0⟩
      rw [x86_56]
      simp only [x86_0, x86_1, x86_4, x86_7, x86_8, x86_9, x86_10, x86_13, x86_14, x86_17, x86_18, x86_21, x86_24, x86_27, x86_28, x86_31, x86_34, x86_35, x86_36, x86_37, x86_40, x86_41, x86_44, x86_47, x86_48, x86_49, x86_51, x86_54, x86_55, x86_57, x86_59, x86_62, x86_63, x86_65, x86_66, x86_69, x86_70, x86_73, x86_74, x86_77, x86_78, x86_79, x86_80, x86_83, x86_84, x86_85, x86_88, x86_89, x86_91, x86_93, x86_94, x86_97, x86_100, x86_101, x86_103, x86_106, x86_107, x86_108, x86_111, x86_112, x86_113, x86_116, x86_117, x86_118, x86_121, x86_124, x86_127, x86_128, x86_131, x86_134, x86_135, x86_136, x86_139, x86_141, x86_144, x86_147, x86_150, x86_153, x86_156, ↓reduceIte, Bool.false_eq_true, Nat.reduceAdd, Nat.reduceLT, Nat.reduceLeDiff, Nat.reduceSub, Nat.reduceEqDiff, Int.reduceToNat, Int.reduceEq, Int.reduceLT, Int.reduceLE, Int.reduceAdd, Int.reduceSub, zg, zI, zJ, zR, zst, zkl, zn, zcat, zok, zraw, List.length_cons, List.length_nil, Option.toList, List.nil_append, List.cons_append, true_and, and_true, if_true, if_false, ne_eq, not_true, not_false_eq_true, and_self, true_or, or_true, false_or, or_false, false_and, and_false, show ((100 : Nat) : Int) = 100 from rfl, Int.le_refl]
      exact hQ μ5 f e4 hYT h0
  exact key 0 _ _ (Nat.zero_le _) ⟨x3, x4, rfl, F4, C4, e44, ⟨by rw [e42, Y0], Or.inl rfl⟩, e130⟩
/-- yardTells -/
def ytV (y : Int × Int × Int × Int) (k : Int) : Int := if k = 0 then y.1 else if k = 1 then y.2.1 else if k = 2 then y.2.2.1 else y.2.2.2
def vTells (σ : zSt) (k : Int) : Int := if 0 ≤ k ∧ k ≤ 3 then ytV (ytO (sT σ) (sG σ) 400) k else -1
theorem kTells {D : Nat} {k : Int} (h : CS θ T U σ μ) (hd : 8 ≤ D) (hQ : ∀ μ', CL μ μ' → CS θ T U σ μ' → Q (some (vi (vTells σ k))) θ μ') : Ex D 142 0 [vr 2, vi k] [] θ μ Q := by
  have hc := h.1.1.1
  have hd0 : 0 < D := by omega
  have hd1 : 0 < D - 1 := by omega
  unfold vTells at hQ
  by_cases k0 : k < 0
  · rw [if_neg (by omega)] at hQ
    simp only [x142_0, x142_1, x142_4, x142_5, x142_6, x142_9, x142_10, x142_11, x142_12, x142_15, x142_18, x142_19, x142_44, x142_45, x142_48, x142_51, x142_52, x142_53, x142_56, x142_59, x142_60, x142_61, x142_64, x142_67, x142_68, x142_69, x142_72, x142_75, ↓reduceIte, Bool.false_eq_true, Nat.reduceAdd, Nat.reduceLT, Nat.reduceLeDiff, Nat.reduceSub, Nat.reduceEqDiff, Int.reduceToNat, Int.reduceEq, Int.reduceLT, Int.reduceLE, Int.reduceAdd, Int.reduceSub, zg, zI, zJ, zR, zst, zkl, zn, zcat, zok, zraw, List.length_cons, List.length_nil, Option.toList, List.nil_append, List.cons_append, true_and, and_true, if_true, if_false, ne_eq, not_true, not_false_eq_true, and_self, true_or, or_true, false_or, or_false, false_and, and_false, k0]
    exact hQ μ (fun _ _ => rfl) h
  · by_cases k3 : k ≤ 3
    · rw [if_pos ⟨by omega, k3⟩] at hQ
      have ht := h.2.2.2.2.1
      unfold CT at ht
      generalize hY : ytO (sT σ) (sG σ) 400 = y at hQ ht
      have fin : ∀ μ1, CL μ μ1 → CS θ T U σ μ1 → μ1 122 0 = y.1 → μ1 122 1 = y.2.1 → μ1 122 2 = y.2.2.1 → μ1 122 3 = y.2.2.2 → Ex D 142 18 [vr 2, vi k] [] θ μ1 Q := by
        intro μ1 hL hS e0 e1 e2 e3
        have hq := hQ μ1 hL hS
        unfold ytV at hq
        obtain q | q | q | q : k = 0 ∨ k = 1 ∨ k = 2 ∨ k = 3 := by omega
        · subst q
          rw [if_pos rfl] at hq
          simp only [x142_0, x142_1, x142_4, x142_5, x142_6, x142_9, x142_10, x142_11, x142_12, x142_15, x142_18, x142_19, x142_44, x142_45, x142_48, x142_51, x142_52, x142_53, x142_56, x142_59, x142_60, x142_61, x142_64, x142_67, x142_68, x142_69, x142_72, x142_75, ↓reduceIte, Bool.false_eq_true, Nat.reduceAdd, Nat.reduceLT, Nat.reduceLeDiff, Nat.reduceSub, Nat.reduceEqDiff, Int.reduceToNat, Int.reduceEq, Int.reduceLT, Int.reduceLE, Int.reduceAdd, Int.reduceSub, zg, zI, zJ, zR, zst, zkl, zn, zcat, zok, zraw, List.length_cons, List.length_nil, Option.toList, List.nil_append, List.cons_append, true_and, and_true, if_true, if_false, ne_eq, not_true, not_false_eq_true, and_self, true_or, or_true, false_or, or_false, false_and, and_false, b_2 hc, r_2_8 hc, b_122 hc, e0]
          exact hq
        · subst q
          rw [if_neg (by decide), if_pos rfl] at hq
          simp only [x142_0, x142_1, x142_4, x142_5, x142_6, x142_9, x142_10, x142_11, x142_12, x142_15, x142_18, x142_19, x142_44, x142_45, x142_48, x142_51, x142_52, x142_53, x142_56, x142_59, x142_60, x142_61, x142_64, x142_67, x142_68, x142_69, x142_72, x142_75, ↓reduceIte, Bool.false_eq_true, Nat.reduceAdd, Nat.reduceLT, Nat.reduceLeDiff, Nat.reduceSub, Nat.reduceEqDiff, Int.reduceToNat, Int.reduceEq, Int.reduceLT, Int.reduceLE, Int.reduceAdd, Int.reduceSub, zg, zI, zJ, zR, zst, zkl, zn, zcat, zok, zraw, List.length_cons, List.length_nil, Option.toList, List.nil_append, List.cons_append, true_and, and_true, if_true, if_false, ne_eq, not_true, not_false_eq_true, and_self, true_or, or_true, false_or, or_false, false_and, and_false, b_2 hc, r_2_8 hc, b_122 hc, e1]
          exact hq
        · subst q
          rw [if_neg (by decide), if_neg (by decide), if_pos rfl] at hq
          simp only [x142_0, x142_1, x142_4, x142_5, x142_6, x142_9, x142_10, x142_11, x142_12, x142_15, x142_18, x142_19, x142_44, x142_45, x142_48, x142_51, x142_52, x142_53, x142_56, x142_59, x142_60, x142_61, x142_64, x142_67, x142_68, x142_69, x142_72, x142_75, ↓reduceIte, Bool.false_eq_true, Nat.reduceAdd, Nat.reduceLT, Nat.reduceLeDiff, Nat.reduceSub, Nat.reduceEqDiff, Int.reduceToNat, Int.reduceEq, Int.reduceLT, Int.reduceLE, Int.reduceAdd, Int.reduceSub, zg, zI, zJ, zR, zst, zkl, zn, zcat, zok, zraw, List.length_cons, List.length_nil, Option.toList, List.nil_append, List.cons_append, true_and, and_true, if_true, if_false, ne_eq, not_true, not_false_eq_true, and_self, true_or, or_true, false_or, or_false, false_and, and_false, b_2 hc, r_2_8 hc, b_122 hc, e2]
          exact hq
        · subst q
          rw [if_neg (by decide), if_neg (by decide), if_neg (by decide)] at hq
          simp only [x142_0, x142_1, x142_4, x142_5, x142_6, x142_9, x142_10, x142_11, x142_12, x142_15, x142_18, x142_19, x142_44, x142_45, x142_48, x142_51, x142_52, x142_53, x142_56, x142_59, x142_60, x142_61, x142_64, x142_67, x142_68, x142_69, x142_72, x142_75, ↓reduceIte, Bool.false_eq_true, Nat.reduceAdd, Nat.reduceLT, Nat.reduceLeDiff, Nat.reduceSub, Nat.reduceEqDiff, Int.reduceToNat, Int.reduceEq, Int.reduceLT, Int.reduceLE, Int.reduceAdd, Int.reduceSub, zg, zI, zJ, zR, zst, zkl, zn, zcat, zok, zraw, List.length_cons, List.length_nil, Option.toList, List.nil_append, List.cons_append, true_and, and_true, if_true, if_false, ne_eq, not_true, not_false_eq_true, and_self, true_or, or_true, false_or, or_false, false_and, and_false, b_2 hc, r_2_8 hc, b_122 hc, e3]
          exact hq
      simp only [x142_0, x142_1, x142_4, x142_5, x142_6, x142_9, x142_10, x142_11, x142_12, x142_15, x142_19, x142_44, x142_45, x142_48, x142_51, x142_52, x142_53, x142_56, x142_59, x142_60, x142_61, x142_64, x142_67, x142_68, x142_69, x142_72, x142_75, ↓reduceIte, Bool.false_eq_true, Nat.reduceAdd, Nat.reduceLT, Nat.reduceLeDiff, Nat.reduceSub, Nat.reduceEqDiff, Int.reduceToNat, Int.reduceEq, Int.reduceLT, Int.reduceLE, Int.reduceAdd, Int.reduceSub, zg, zI, zJ, zR, zst, zkl, zn, zcat, zok, zraw, List.length_cons, List.length_nil, Option.toList, List.nil_append, List.cons_append, true_and, and_true, if_true, if_false, ne_eq, not_true, not_false_eq_true, and_self, true_or, or_true, false_or, or_false, false_and, and_false, b_2 hc, r_2_8 hc, b_122 hc, k0, k3, hd0]
      rcases ht.1 with h4 | ⟨h4, e0, e1, e2, e3⟩
      · refine cFindGust (d := D - 1) h (by omega) h4 (fun μ1 f g4 hYT h0 => ?_)
        unfold YT at hYT
        rw [hY] at hYT
        obtain ⟨e2, hh⟩ := hYT
        rcases hh with hh | ⟨e0, e1, e3⟩
        · exact absurd hh (by decide)
        · simp only [x142_0, x142_1, x142_4, x142_5, x142_6, x142_9, x142_10, x142_11, x142_12, x142_15, x142_19, x142_44, x142_45, x142_48, x142_51, x142_52, x142_53, x142_56, x142_59, x142_60, x142_61, x142_64, x142_67, x142_68, x142_69, x142_72, x142_75, ↓reduceIte, Bool.false_eq_true, Nat.reduceAdd, Nat.reduceLT, Nat.reduceLeDiff, Nat.reduceSub, Nat.reduceEqDiff, Int.reduceToNat, Int.reduceEq, Int.reduceLT, Int.reduceLE, Int.reduceAdd, Int.reduceSub, zg, zI, zJ, zR, zst, zkl, zn, zcat, zok, zraw, List.length_cons, List.length_nil, Option.toList, List.nil_append, List.cons_append, true_and, and_true, if_true, if_false, ne_eq, not_true, not_false_eq_true, and_self, true_or, or_true, false_or, or_false, false_and, and_false]
          refine fin μ1 (CL_fr f (by decide)) (CS_ct h f ?_) e0 e1 e2 e3
          unfold CT
          rw [hY]
          exact ⟨Or.inr ⟨g4, e0, e1, e2, e3⟩, h0⟩
      · have n4 : ¬ μ 122 4 = 0 := by omega
        simp only [x86_0, x86_1, x86_4, x86_7, x86_8, x86_9, x86_10, x86_13, x86_14, x86_17, x86_18, x86_21, x86_24, x86_27, x86_28, x86_31, x86_34, x86_35, x86_36, x86_37, x86_40, x86_41, x86_44, x86_47, x86_48, x86_49, x86_51, x86_54, x86_55, x86_57, x86_59, x86_62, x86_63, x86_65, x86_66, x86_69, x86_70, x86_73, x86_74, x86_77, x86_78, x86_79, x86_80, x86_83, x86_84, x86_85, x86_88, x86_89, x86_91, x86_93, x86_94, x86_97, x86_100, x86_101, x86_103, x86_106, x86_107, x86_108, x86_111, x86_112, x86_113, x86_116, x86_117, x86_118, x86_121, x86_124, x86_127, x86_128, x86_131, x86_134, x86_135, x86_136, x86_139, x86_141, x86_144, x86_147, x86_150, x86_153, x86_156, x142_0, x142_1, x142_4, x142_5, x142_6, x142_9, x142_10, x142_11, x142_12, x142_15, x142_19, x142_44, x142_45, x142_48, x142_51, x142_52, x142_53, x142_56, x142_59, x142_60, x142_61, x142_64, x142_67, x142_68, x142_69, x142_72, x142_75, ↓reduceIte, Bool.false_eq_true, Nat.reduceAdd, Nat.reduceLT, Nat.reduceLeDiff, Nat.reduceSub, Nat.reduceEqDiff, Int.reduceToNat, Int.reduceEq, Int.reduceLT, Int.reduceLE, Int.reduceAdd, Int.reduceSub, zg, zI, zJ, zR, zst, zkl, zn, zcat, zok, zraw, List.length_cons, List.length_nil, Option.toList, List.nil_append, List.cons_append, true_and, and_true, if_true, if_false, ne_eq, not_true, not_false_eq_true, and_self, true_or, or_true, false_or, or_false, false_and, and_false, b_122 hc, n4]
        exact fin μ (fun _ _ => rfl) h e0 e1 e2 e3
    · rw [if_neg (by omega)] at hQ
      simp only [x142_0, x142_1, x142_4, x142_5, x142_6, x142_9, x142_10, x142_11, x142_12, x142_15, x142_18, x142_19, x142_44, x142_45, x142_48, x142_51, x142_52, x142_53, x142_56, x142_59, x142_60, x142_61, x142_64, x142_67, x142_68, x142_69, x142_72, x142_75, ↓reduceIte, Bool.false_eq_true, Nat.reduceAdd, Nat.reduceLT, Nat.reduceLeDiff, Nat.reduceSub, Nat.reduceEqDiff, Int.reduceToNat, Int.reduceEq, Int.reduceLT, Int.reduceLE, Int.reduceAdd, Int.reduceSub, zg, zI, zJ, zR, zst, zkl, zn, zcat, zok, zraw, List.length_cons, List.length_nil, Option.toList, List.nil_append, List.cons_append, true_and, and_true, if_true, if_false, ne_eq, not_true, not_false_eq_true, and_self, true_or, or_true, false_or, or_false, false_and, and_false, k0, k3]
      exact hQ μ (fun _ _ => rfl) h
end TM2
