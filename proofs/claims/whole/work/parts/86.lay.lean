/-! THE CLASS lays a new ROOF -/
def beF (τ : zT) : zF := (fun m t => if m = 0 then 1 else if m = 1 then b2 (holds τ 0 (v0 τ t)) else if m = 2 then b2 (holds τ 1 (v0 τ t)) else if m = 3 then tN τ 7 else tN τ 8, tO τ, 0)
def beG (τ : zT) : zG := (beF τ, fun _ => 0, (0, fun _ => 0, fun _ => 0), (0, fun _ => 0, fun _ => 0, fun _ => 0))
theorem b2_z (b : Bool) : b2 b = 0 ∨ b2 b = 1 := by cases b <;> simp [b2]
theorem beF_w {τ : zT} (h : wfT τ) : wfF τ (beF τ) := by
  have h3 := h.2.2.2.1
  refine ⟨fun t _ => ⟨Or.inr rfl, b2_z _, b2_z _, ?_, ?_⟩, fun k hk => ((h.2.2.2.2.2.1 k hk).2.2), Or.inl rfl⟩
  · exact h3 7 (by omega) (by omega)
  · exact h3 8 (by omega) (by omega)
section LA
variable {θ : zS} {T U : Nat} {τ : zT} {Q : Option zV → zS → zM → Prop} {μ : zM}
theorem cLayAsTold {d : Nat} {x3 : zV} (h : CX θ T U τ μ) (hd : 3 ≤ d) (hb : ∀ k, k < tD τ → zand (zshr (μ T 15) k) 1 = tO τ k)
    (hQ : ∀ μ', Fr [10, 11, 47, 49, 50, 51, 52, 53] μ μ' → RC τ (beF τ) 47 μ' → μ' 47 2 = μ T 15 → Q none θ μ') : Ex d 60 0 [vr 47, vr T, vr 9, x3] [] θ μ Q := by
  have hX := h
  obtain ⟨⟨hc, hT, hU, hTU, h2T, h2U, hgT⟩, hw, hC, hCc⟩ := h
  have hd0 : 0 < d := by omega
  have hn := tn_b hw
  have hT' : T = 12 ∨ T = 26 := by omega
  have hfx : ∀ {μ1 : zM}, Fr [10, 11, 47, 49, 50, 51, 52, 53] μ μ1 → CX θ T U τ μ1 := fun {μ1} hf => CX_fr hX hf (by decide)
  have key : ∀ t L μ1, t ≤ tn τ → (L = [vr 47, vr T, vr 9, vi (t : Nat)] ∧ Fr [10, 11, 47, 49, 50, 51, 52, 53] μ μ1 ∧ (μ1 47 1 = (tn τ : Nat) ∧ μ1 47 2 = μ T 15 ∧ μ1 47 3 = 0) ∧ (∀ j, 4 ≤ j → j < 13 → μ1 10 j = 0) ∧ ∀ m q, m < 5 → q < t → μ1 (49 + m) q = (beF τ).1 m q) → Ex d 60 31 L [] θ μ1 Q := by
    refine Ex_loop (I := fun t L μ1 => L = [vr 47, vr T, vr 9, vi (t : Nat)] ∧ Fr [10, 11, 47, 49, 50, 51, 52, 53] μ μ1 ∧ (μ1 47 1 = (tn τ : Nat) ∧ μ1 47 2 = μ T 15 ∧ μ1 47 3 = 0) ∧ (∀ j, 4 ≤ j → j < 13 → μ1 10 j = 0) ∧ ∀ m q, m < 5 → q < t → μ1 (49 + m) q = (beF τ).1 m q) (tn τ) ?_ ?_
    · rintro t L μ1 ht ⟨rfl, hf, ⟨g1, g2, g3⟩, gv, gm⟩ hk
      have c1 : ¬ ((tn τ : Nat) : Int) ≤ (t : Int) := by omega
      have i1 : (0 : Int) ≤ (t : Int) := by omega
      have i2 : (t : Int) < 36 := by omega
      have w1 : t < 2147483647 := by omega
      have m3 : (t : Int).tmod 3 = ((t % 3 : Nat) : Int) := by rw [Int.tmod_eq_emod_of_nonneg (by omega)]; omega
      have eT : ∀ k, k ≤ 13 → μ1 (T + k) = μ (T + k) := fun k hk => hf _ (by simp; omega)
      have r0 : μ1 (T + 11) t = (rwO τ t : Nat) := by rw [eT 11 (by omega)]; exact (hC.2.2.2.2 t ht).1
      have r1 : μ1 (T + 12) t = (clO τ t : Nat) := by rw [eT 12 (by omega)]; exact (hC.2.2.2.2 t ht).2.1
      have r2 : μ1 (T + 13) t = edO τ t := by rw [eT 13 (by omega)]; exact (hC.2.2.2.2 t ht).2.2
      have r7 : μ1 (T + 1) 7 = tN τ 7 := by rw [eT 1 (by omega)]; exact hC.1 7 (by omega)
      have r8 : μ1 (T + 1) 8 = tN τ 8 := by rw [eT 1 (by omega)]; exact hC.1 8 (by omega)
      have n11 : T + 11 ≠ 10 := by omega
      have n12 : T + 12 ≠ 10 := by omega
      have n13 : T + 13 ≠ 10 := by omega
      rw [x60_31]
      simp only [x60_0, x60_1, x60_2, x60_5, x60_8, x60_9, x60_10, x60_13, x60_16, x60_17, x60_18, x60_21, x60_22, x60_25, x60_26, x60_29, x60_30, x60_32, x60_33, x60_36, x60_39, x60_40, x60_43, x60_44, x60_45, x60_48, x60_49, x60_50, x60_51, x60_52, x60_55, x60_56, x60_57, x60_60, x60_61, x60_62, x60_63, x60_64, x60_67, x60_68, x60_69, x60_70, x60_71, x60_72, x60_73, x60_76, x60_77, x60_78, x60_81, x60_82, x60_83, x60_84, x60_85, x60_88, x60_89, x60_90, x60_91, x60_92, x60_93, x60_94, x60_97, x60_98, x60_99, x60_100, x60_101, x60_102, x60_103, x60_106, x60_107, x60_108, x60_111, x60_112, x60_113, x60_114, x60_115, x60_116, x60_117, x60_120, x60_121, x60_122, x60_125, x60_126, x60_127, x60_128, x60_129, x60_132, x60_134, x60_135, x60_136, x60_137, x60_140, x60_141, x60_142, x60_143, x60_144, x60_147, x60_149, x60_150, x60_151, x60_154, x60_157, ↓reduceIte, Bool.false_eq_true, Nat.reduceAdd, Nat.reduceLT, Nat.reduceLeDiff, Nat.reduceSub, Nat.reduceEqDiff, Int.reduceToNat, Int.reduceEq, Int.reduceLT, Int.reduceLE, Int.reduceAdd, Int.reduceSub, zg, zI, zJ, zR, zst, zkl, zn, zcat, zok, zraw, List.length_cons, List.length_nil, Option.toList, List.nil_append, List.cons_append, true_and, and_true, if_true, if_false, ne_eq, not_true, not_false_eq_true, and_self, true_or, or_true, false_or, or_false, false_and, and_false, b_2 hc, b_3 hc, b_9 hc, b_12 hc, b_26 hc, b_40 hc, b_46 hc, b_47 hc, b_60 hc, b_62 hc, b_63 hc, b_76 hc, b_77 hc, b_90 hc, b_91 hc, b_104 hc, b_107 hc, b_114 hc, b_115 hc, b_122 hc, b_123 hc, b_131 hc, b_9 hc, r_9_0 hc, x_10 hc, r_9_1 hc, x_11 hc, b_47 hc, r_47_0 hc, x_48 hc, n_48 hc, x_48 hc, n_48 hc, r_48_0 hc, x_49 hc, r_48_1 hc, x_50 hc, r_48_2 hc, x_51 hc, r_48_3 hc, x_52 hc, r_48_4 hc, x_53 hc, tb hT, Tq1 hT, Tq2 hT, tr_0 hT, tr_1 hT, tr_2 hT, tr_3 hT, tr_4 hT, tr_5 hT, tr_6 hT, tr_7 hT, tr_8 hT, tr_9 hT, tr_10 hT, tr_11 hT, tr_12 hT, tx_1 hT, tx_2 hT, tx_3 hT, tx_4 hT, tx_5 hT, tx_6 hT, tx_7 hT, tx_8 hT, tx_9 hT, tx_10 hT, tx_11 hT, tx_12 hT, tx_13 hT, x_10 hc (show (0 : Int) ≤ 0 by decide) (show (0 : Int) < 13 by decide), x_10 hc (show (0 : Int) ≤ 1 by decide) (show (1 : Int) < 13 by decide), x_10 hc (show (0 : Int) ≤ 2 by decide) (show (2 : Int) < 13 by decide), x_10 hc (show (0 : Int) ≤ 3 by decide) (show (3 : Int) < 13 by decide), x_48 hc (show (0 : Int) ≤ 0 by decide) (show (0 : Int) < 5 by decide), x_48 hc (show (0 : Int) ≤ 1 by decide) (show (1 : Int) < 5 by decide), x_49 hc i1 i2, tx_11 hT i1 i2, tx_12 hT i1 i2, tx_13 hT i1 i2, Nat.le_add_right_of_le (Tq2 hT), g1, c1, r0, r1, r2, m3, ua_eq, us_same, us_us, us_ne n11, us_ne n12, us_ne n13, us_ne (show (49 : Nat) ≠ 10 by decide), Int.toNat_natCast, Int.reduceToNat, hd0]
      obtain ⟨μ2, hμ2⟩ : ∃ μ2, μ2 = us (us μ1 10 (zup (zup (zup (zup (μ1 10) 0 (rwO τ t : Nat)) 1 (clO τ t : Nat)) 2 ((t % 3 : Nat) : Int)) 3 (edO τ t))) 49 (zup (μ1 49) t 1) := ⟨_, rfl⟩
      rw [← hμ2]
      have v2 : ∀ j, j < 13 → μ2 10 j = v0 τ t j := fun j hj => by
        rw [hμ2, us_ne (by decide), us_same]
        unfold v0
        by_cases j0 : j = 0
        · subst j0; rfl
        · by_cases j1 : j = 1
          · subst j1; rfl
          · by_cases j2 : j = 2
            · subst j2; rfl
            · by_cases j3 : j = 3
              · subst j3; rfl
              · rw [zup_ne j3, zup_ne j2, zup_ne j1, zup_ne j0, if_neg j0, if_neg j1, if_neg j2, if_neg j3]; exact gv j (by omega) hj
      have f2 : Fr [10, 49] μ1 μ2 := by rw [hμ2]; exact Fr.us (by simp) (Fr.us (by simp) Fr.refl)
      have e249 : μ2 49 = zup (μ1 49) t 1 := by rw [hμ2, us_same]
      clear hμ2
      have ff2 : Fr [10, 11, 47, 49, 50, 51, 52, 53] μ μ2 := hf.trans (f2.mono (by simp))
      refine cSome (d := d - 1) (s := 0) (hfx ff2) (by omega) rfl (by decide) v2 (fun μ3 f3 => ?_)
      simp only [x60_0, x60_1, x60_2, x60_5, x60_8, x60_9, x60_10, x60_13, x60_16, x60_17, x60_18, x60_21, x60_22, x60_25, x60_26, x60_29, x60_30, x60_32, x60_33, x60_36, x60_39, x60_40, x60_43, x60_44, x60_45, x60_48, x60_49, x60_50, x60_51, x60_52, x60_55, x60_56, x60_57, x60_60, x60_61, x60_62, x60_63, x60_64, x60_67, x60_68, x60_69, x60_70, x60_71, x60_72, x60_73, x60_76, x60_77, x60_78, x60_81, x60_82, x60_83, x60_84, x60_85, x60_88, x60_89, x60_90, x60_91, x60_92, x60_93, x60_94, x60_97, x60_98, x60_99, x60_100, x60_101, x60_102, x60_103, x60_106, x60_107, x60_108, x60_111, x60_112, x60_113, x60_114, x60_115, x60_116, x60_117, x60_120, x60_121, x60_122, x60_125, x60_126, x60_127, x60_128, x60_129, x60_132, x60_134, x60_135, x60_136, x60_137, x60_140, x60_141, x60_142, x60_143, x60_144, x60_147, x60_149, x60_150, x60_151, x60_154, x60_157, ↓reduceIte, Bool.false_eq_true, Nat.reduceAdd, Nat.reduceLT, Nat.reduceLeDiff, Nat.reduceSub, Nat.reduceEqDiff, Int.reduceToNat, Int.reduceEq, Int.reduceLT, Int.reduceLE, Int.reduceAdd, Int.reduceSub, zg, zI, zJ, zR, zst, zkl, zn, zcat, zok, zraw, List.length_cons, List.length_nil, Option.toList, List.nil_append, List.cons_append, true_and, and_true, if_true, if_false, ne_eq, not_true, not_false_eq_true, and_self, true_or, or_true, false_or, or_false, false_and, and_false, b_2 hc, b_3 hc, b_9 hc, b_12 hc, b_26 hc, b_40 hc, b_46 hc, b_47 hc, b_60 hc, b_62 hc, b_63 hc, b_76 hc, b_77 hc, b_90 hc, b_91 hc, b_104 hc, b_107 hc, b_114 hc, b_115 hc, b_122 hc, b_123 hc, b_131 hc, b_9 hc, r_9_0 hc, x_10 hc, r_9_1 hc, x_11 hc, b_47 hc, r_47_0 hc, x_48 hc, n_48 hc, x_48 hc, n_48 hc, r_48_0 hc, x_49 hc, r_48_1 hc, x_50 hc, r_48_2 hc, x_51 hc, r_48_3 hc, x_52 hc, r_48_4 hc, x_53 hc, tb hT, Tq1 hT, Tq2 hT, tr_0 hT, tr_1 hT, tr_2 hT, tr_3 hT, tr_4 hT, tr_5 hT, tr_6 hT, tr_7 hT, tr_8 hT, tr_9 hT, tr_10 hT, tr_11 hT, tr_12 hT, tx_1 hT, tx_2 hT, tx_3 hT, tx_4 hT, tx_5 hT, tx_6 hT, tx_7 hT, tx_8 hT, tx_9 hT, tx_10 hT, tx_11 hT, tx_12 hT, tx_13 hT, x_48 hc (show (0 : Int) ≤ 2 by decide) (show (2 : Int) < 5 by decide), x_50 hc i1 i2, ua_eq, Int.toNat_natCast, Int.reduceToNat, hd0]
      obtain ⟨μ4, hμ4⟩ : ∃ μ4, μ4 = us μ3 50 (zup (μ3 50) t (b2 (holds τ 0 (v0 τ t)))) := ⟨_, rfl⟩
      rw [← hμ4]
      have f4 : Fr [11, 50] μ2 μ4 := by rw [hμ4]; exact Fr.us (by simp) (f3.mono (by simp))
      have e450 : μ4 50 = zup (μ2 50) t (b2 (holds τ 0 (v0 τ t))) := by rw [hμ4, us_same, f3 50 (by decide)]
      clear hμ4
      have ff4 : Fr [10, 11, 47, 49, 50, 51, 52, 53] μ μ4 := ff2.trans (f4.mono (by simp))
      have v4 : ∀ j, j < 13 → μ4 10 j = v0 τ t j := fun j hj => by rw [f4 10 (by decide)]; exact v2 j hj
      refine cSome (d := d - 1) (s := 1) (hfx ff4) (by omega) rfl (by decide) v4 (fun μ5 f5 => ?_)
      have f15 : Fr [10, 11, 49, 50] μ1 μ5 := (f2.mono (by simp)).trans ((f4.mono (by simp)).trans (f5.mono (by simp)))
      have r7' : μ5 (T + 1) 7 = tN τ 7 := by rw [f15 (T + 1) (by simp; omega)]; exact r7
      have r8' : μ5 (T + 1) 8 = tN τ 8 := by rw [f15 (T + 1) (by simp; omega)]; exact r8
      have n51 : T + 1 ≠ 51 := by omega
      have n52 : T + 1 ≠ 52 := by omega
      simp only [x60_0, x60_1, x60_2, x60_5, x60_8, x60_9, x60_10, x60_13, x60_16, x60_17, x60_18, x60_21, x60_22, x60_25, x60_26, x60_29, x60_30, x60_32, x60_33, x60_36, x60_39, x60_40, x60_43, x60_44, x60_45, x60_48, x60_49, x60_50, x60_51, x60_52, x60_55, x60_56, x60_57, x60_60, x60_61, x60_62, x60_63, x60_64, x60_67, x60_68, x60_69, x60_70, x60_71, x60_72, x60_73, x60_76, x60_77, x60_78, x60_81, x60_82, x60_83, x60_84, x60_85, x60_88, x60_89, x60_90, x60_91, x60_92, x60_93, x60_94, x60_97, x60_98, x60_99, x60_100, x60_101, x60_102, x60_103, x60_106, x60_107, x60_108, x60_111, x60_112, x60_113, x60_114, x60_115, x60_116, x60_117, x60_120, x60_121, x60_122, x60_125, x60_126, x60_127, x60_128, x60_129, x60_132, x60_134, x60_135, x60_136, x60_137, x60_140, x60_141, x60_142, x60_143, x60_144, x60_147, x60_149, x60_150, x60_151, x60_154, x60_157, ↓reduceIte, Bool.false_eq_true, Nat.reduceAdd, Nat.reduceLT, Nat.reduceLeDiff, Nat.reduceSub, Nat.reduceEqDiff, Int.reduceToNat, Int.reduceEq, Int.reduceLT, Int.reduceLE, Int.reduceAdd, Int.reduceSub, zg, zI, zJ, zR, zst, zkl, zn, zcat, zok, zraw, List.length_cons, List.length_nil, Option.toList, List.nil_append, List.cons_append, true_and, and_true, if_true, if_false, ne_eq, not_true, not_false_eq_true, and_self, true_or, or_true, false_or, or_false, false_and, and_false, b_2 hc, b_3 hc, b_9 hc, b_12 hc, b_26 hc, b_40 hc, b_46 hc, b_47 hc, b_60 hc, b_62 hc, b_63 hc, b_76 hc, b_77 hc, b_90 hc, b_91 hc, b_104 hc, b_107 hc, b_114 hc, b_115 hc, b_122 hc, b_123 hc, b_131 hc, b_9 hc, r_9_0 hc, x_10 hc, r_9_1 hc, x_11 hc, b_47 hc, r_47_0 hc, x_48 hc, n_48 hc, x_48 hc, n_48 hc, r_48_0 hc, x_49 hc, r_48_1 hc, x_50 hc, r_48_2 hc, x_51 hc, r_48_3 hc, x_52 hc, r_48_4 hc, x_53 hc, tb hT, Tq1 hT, Tq2 hT, tr_0 hT, tr_1 hT, tr_2 hT, tr_3 hT, tr_4 hT, tr_5 hT, tr_6 hT, tr_7 hT, tr_8 hT, tr_9 hT, tr_10 hT, tr_11 hT, tr_12 hT, tx_1 hT, tx_2 hT, tx_3 hT, tx_4 hT, tx_5 hT, tx_6 hT, tx_7 hT, tx_8 hT, tx_9 hT, tx_10 hT, tx_11 hT, tx_12 hT, tx_13 hT, x_48 hc (show (0 : Int) ≤ 3 by decide) (show (3 : Int) < 5 by decide), x_48 hc (show (0 : Int) ≤ 4 by decide) (show (4 : Int) < 5 by decide), x_51 hc i1 i2, x_52 hc i1 i2, x_53 hc i1 i2, tx_1 hT (show (0 : Int) ≤ 7 by decide) (show (7 : Int) < 9 by decide), tx_1 hT (show (0 : Int) ≤ 8 by decide) (show (8 : Int) < 9 by decide), Nat.le_add_right_of_le (Tq2 hT), us_ne n51, us_ne n52, us_ne (show (52 : Nat) ≠ 51 by decide), us_ne (show (53 : Nat) ≠ 51 by decide), us_ne (show (53 : Nat) ≠ 52 by decide), r7', r8', ua_eq, Int.toNat_natCast, Int.reduceToNat, w32_s w1, hd0]
      obtain ⟨μ6, hμ6⟩ : ∃ μ6, μ6 = us (us (us μ5 51 (zup (μ5 51) t (b2 (holds τ 1 (v0 τ t))))) 52 (zup (μ5 52) t (tN τ 7))) 53 (zup (μ5 53) t (tN τ 8)) := ⟨_, rfl⟩
      rw [← hμ6]
      have f6 : Fr [51, 52, 53] μ5 μ6 := by rw [hμ6]; exact Fr.us (by simp) (Fr.us (by simp) (Fr.us (by simp) Fr.refl))
      have e651 : μ6 51 = zup (μ1 51) t (b2 (holds τ 1 (v0 τ t))) := by rw [hμ6, us_ne (by decide), us_ne (by decide), us_same, f15 51 (by decide)]
      have e652 : μ6 52 = zup (μ1 52) t (tN τ 7) := by rw [hμ6, us_ne (by decide), us_same, f15 52 (by decide)]
      have e653 : μ6 53 = zup (μ1 53) t (tN τ 8) := by rw [hμ6, us_same, f15 53 (by decide)]
      have e650 : μ6 50 = zup (μ1 50) t (b2 (holds τ 0 (v0 τ t))) := by rw [f6 50 (by decide), f5 50 (by decide), e450, f2 50 (by decide)]
      have e649 : μ6 49 = zup (μ1 49) t 1 := by rw [f6 49 (by decide), f5 49 (by decide), f4 49 (by decide), e249]
      have e647 : μ6 47 = μ1 47 := by rw [f6 47 (by decide), f5 47 (by decide), f4 47 (by decide), f2 47 (by decide)]
      have e610 : ∀ j, j < 13 → μ6 10 j = v0 τ t j := fun j hj => by rw [f6 10 (by decide), f5 10 (by decide)]; exact v4 j hj
      clear hμ6
      refine hk _ _ ⟨rfl, hf.trans ((f15.mono (by simp)).trans (f6.mono (by simp))), by rw [e647]; exact ⟨g1, g2, g3⟩, fun j j4 j13 => ?_, fun m q hm hq => ?_⟩
      · rw [e610 j j13]; unfold v0; rw [if_neg (by omega), if_neg (by omega), if_neg (by omega), if_neg (by omega)]
      · have gmq : q < t → μ1 (49 + m) q = (beF τ).1 m q := fun h => gm m q hm h
        obtain h | h | h | h | h : m = 0 ∨ m = 1 ∨ m = 2 ∨ m = 3 ∨ m = 4 := by omega
        · subst h
          show μ6 49 q = _
          rw [e649]
          by_cases qt : q = t
          · rw [qt, zup_same rfl]; rfl
          · rw [zup_ne qt]; exact gmq (by omega)
        · subst h
          show μ6 50 q = _
          rw [e650]
          by_cases qt : q = t
          · rw [qt, zup_same rfl]; rfl
          · rw [zup_ne qt]; exact gmq (by omega)
        · subst h
          show μ6 51 q = _
          rw [e651]
          by_cases qt : q = t
          · rw [qt, zup_same rfl]; rfl
          · rw [zup_ne qt]; exact gmq (by omega)
        · subst h
          show μ6 52 q = _
          rw [e652]
          by_cases qt : q = t
          · rw [qt, zup_same rfl]; rfl
          · rw [zup_ne qt]; exact gmq (by omega)
        · subst h
          show μ6 53 q = _
          rw [e653]
          by_cases qt : q = t
          · rw [qt, zup_same rfl]; rfl
          · rw [zup_ne qt]; exact gmq (by omega)
    · rintro L μ1 ⟨rfl, hf, ⟨g1, g2, g3⟩, gv, gm⟩
      rw [x60_31]
      simp only [x60_0, x60_1, x60_2, x60_5, x60_8, x60_9, x60_10, x60_13, x60_16, x60_17, x60_18, x60_21, x60_22, x60_25, x60_26, x60_29, x60_30, x60_32, x60_33, x60_36, x60_39, x60_40, x60_43, x60_44, x60_45, x60_48, x60_49, x60_50, x60_51, x60_52, x60_55, x60_56, x60_57, x60_60, x60_61, x60_62, x60_63, x60_64, x60_67, x60_68, x60_69, x60_70, x60_71, x60_72, x60_73, x60_76, x60_77, x60_78, x60_81, x60_82, x60_83, x60_84, x60_85, x60_88, x60_89, x60_90, x60_91, x60_92, x60_93, x60_94, x60_97, x60_98, x60_99, x60_100, x60_101, x60_102, x60_103, x60_106, x60_107, x60_108, x60_111, x60_112, x60_113, x60_114, x60_115, x60_116, x60_117, x60_120, x60_121, x60_122, x60_125, x60_126, x60_127, x60_128, x60_129, x60_132, x60_134, x60_135, x60_136, x60_137, x60_140, x60_141, x60_142, x60_143, x60_144, x60_147, x60_149, x60_150, x60_151, x60_154, x60_157, ↓reduceIte, Bool.false_eq_true, Nat.reduceAdd, Nat.reduceLT, Nat.reduceLeDiff, Nat.reduceSub, Nat.reduceEqDiff, Int.reduceToNat, Int.reduceEq, Int.reduceLT, Int.reduceLE, Int.reduceAdd, Int.reduceSub, zg, zI, zJ, zR, zst, zkl, zn, zcat, zok, zraw, List.length_cons, List.length_nil, Option.toList, List.nil_append, List.cons_append, true_and, and_true, if_true, if_false, ne_eq, not_true, not_false_eq_true, and_self, true_or, or_true, false_or, or_false, false_and, and_false, b_2 hc, b_3 hc, b_9 hc, b_12 hc, b_26 hc, b_40 hc, b_46 hc, b_47 hc, b_60 hc, b_62 hc, b_63 hc, b_76 hc, b_77 hc, b_90 hc, b_91 hc, b_104 hc, b_107 hc, b_114 hc, b_115 hc, b_122 hc, b_123 hc, b_131 hc, g1, Int.le_refl]
      refine hQ μ1 hf ⟨g1, fun m q hm hq => ?_, fun k hk => ?_, g3⟩ g2
      · rw [show 47 + (m + 2) = 49 + m by omega]; exact gm m q hm hq
      · rw [g2]; exact hb k hk
  have nT : T ≠ 47 := by omega
  simp only [x60_0, x60_1, x60_2, x60_5, x60_8, x60_9, x60_10, x60_13, x60_16, x60_17, x60_18, x60_21, x60_22, x60_25, x60_26, x60_29, x60_30, x60_32, x60_33, x60_36, x60_39, x60_40, x60_43, x60_44, x60_45, x60_48, x60_49, x60_50, x60_51, x60_52, x60_55, x60_56, x60_57, x60_60, x60_61, x60_62, x60_63, x60_64, x60_67, x60_68, x60_69, x60_70, x60_71, x60_72, x60_73, x60_76, x60_77, x60_78, x60_81, x60_82, x60_83, x60_84, x60_85, x60_88, x60_89, x60_90, x60_91, x60_92, x60_93, x60_94, x60_97, x60_98, x60_99, x60_100, x60_101, x60_102, x60_103, x60_106, x60_107, x60_108, x60_111, x60_112, x60_113, x60_114, x60_115, x60_116, x60_117, x60_120, x60_121, x60_122, x60_125, x60_126, x60_127, x60_128, x60_129, x60_132, x60_134, x60_135, x60_136, x60_137, x60_140, x60_141, x60_142, x60_143, x60_144, x60_147, x60_149, x60_150, x60_151, x60_154, x60_157, ↓reduceIte, Bool.false_eq_true, Nat.reduceAdd, Nat.reduceLT, Nat.reduceLeDiff, Nat.reduceSub, Nat.reduceEqDiff, Int.reduceToNat, Int.reduceEq, Int.reduceLT, Int.reduceLE, Int.reduceAdd, Int.reduceSub, zg, zI, zJ, zR, zst, zkl, zn, zcat, zok, zraw, List.length_cons, List.length_nil, Option.toList, List.nil_append, List.cons_append, true_and, and_true, if_true, if_false, ne_eq, not_true, not_false_eq_true, and_self, true_or, or_true, false_or, or_false, false_and, and_false, b_2 hc, b_3 hc, b_9 hc, b_12 hc, b_26 hc, b_40 hc, b_46 hc, b_47 hc, b_60 hc, b_62 hc, b_63 hc, b_76 hc, b_77 hc, b_90 hc, b_91 hc, b_104 hc, b_107 hc, b_114 hc, b_115 hc, b_122 hc, b_123 hc, b_131 hc, b_9 hc, r_9_0 hc, x_10 hc, r_9_1 hc, x_11 hc, tb hT, Tq1 hT, Tq2 hT, tr_0 hT, tr_1 hT, tr_2 hT, tr_3 hT, tr_4 hT, tr_5 hT, tr_6 hT, tr_7 hT, tr_8 hT, tr_9 hT, tr_10 hT, tr_11 hT, tr_12 hT, tx_1 hT, tx_2 hT, tx_3 hT, tx_4 hT, tx_5 hT, tx_6 hT, tx_7 hT, tx_8 hT, tx_9 hT, tx_10 hT, tx_11 hT, tx_12 hT, tx_13 hT, hC.2.1, ua_eq, us_same, us_us, us_ne nT, hd0]
  refine eFill (d := d - 1) (n := 13) (by decide) (s_10 hc) (by decide) ?_
  simp only [x60_0, x60_1, x60_2, x60_5, x60_8, x60_9, x60_10, x60_13, x60_16, x60_17, x60_18, x60_21, x60_22, x60_25, x60_26, x60_29, x60_30, x60_32, x60_33, x60_36, x60_39, x60_40, x60_43, x60_44, x60_45, x60_48, x60_49, x60_50, x60_51, x60_52, x60_55, x60_56, x60_57, x60_60, x60_61, x60_62, x60_63, x60_64, x60_67, x60_68, x60_69, x60_70, x60_71, x60_72, x60_73, x60_76, x60_77, x60_78, x60_81, x60_82, x60_83, x60_84, x60_85, x60_88, x60_89, x60_90, x60_91, x60_92, x60_93, x60_94, x60_97, x60_98, x60_99, x60_100, x60_101, x60_102, x60_103, x60_106, x60_107, x60_108, x60_111, x60_112, x60_113, x60_114, x60_115, x60_116, x60_117, x60_120, x60_121, x60_122, x60_125, x60_126, x60_127, x60_128, x60_129, x60_132, x60_134, x60_135, x60_136, x60_137, x60_140, x60_141, x60_142, x60_143, x60_144, x60_147, x60_149, x60_150, x60_151, x60_154, x60_157, ↓reduceIte, Bool.false_eq_true, Nat.reduceAdd, Nat.reduceLT, Nat.reduceLeDiff, Nat.reduceSub, Nat.reduceEqDiff, Int.reduceToNat, Int.reduceEq, Int.reduceLT, Int.reduceLE, Int.reduceAdd, Int.reduceSub, zg, zI, zJ, zR, zst, zkl, zn, zcat, zok, zraw, List.length_cons, List.length_nil, Option.toList, List.nil_append, List.cons_append, true_and, and_true, if_true, if_false, ne_eq, not_true, not_false_eq_true, and_self, true_or, or_true, false_or, or_false, false_and, and_false]
  refine key 0 _ _ (by omega) ⟨rfl, Fr.us (by simp) (Fr.us (by simp) Fr.refl), ?_, fun j j4 j13 => ?_, fun m q hm hq => by omega⟩
  · rw [us_ne (by decide), us_same]
    exact ⟨by simp [zup], by simp [zup], by simp [zup]⟩
  · rw [us_same, if_pos j13]
end LA
