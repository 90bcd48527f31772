/-! THE REFERENCE reads: a LIT goes into the rows -/
section LJ
variable {θ : zS} {Q : Option zV → zS → zM → Prop} {μ : zM}
theorem mLitRow {d n : Nat} {o b k l r e : Int} (hm : Tm θ) (hn : n < 300) (h36 : μ 138 36 = (n : Nat)) (h43 : μ 138 43 = e) (ho : o = 0 ∨ o = 1) (hb : b = 0 ∨ b = 1)
    (hQ : ∀ μ', Fr [138, 161, 162, 163, 164, 165, 166] μ μ' → (∀ j, j ≠ 36 → μ' 138 j = μ 138 j) → μ' 138 36 = ((n + 1 : Nat) : Int) → μ' 161 = zup (μ 161) n k → μ' 162 = zup (μ 162) n b → μ' 163 = zup (μ 163) n o → μ' 164 = zup (μ 164) n l → μ' 165 = zup (μ 165) n r → μ' 166 = zup (μ 166) n e → Q none θ μ') : Ex d 187 107 [vr 138, vi o, vi b, vi l, vi k, vi r] [] θ μ Q := by
  have i1 : (0 : Int) ≤ (n : Int) := by omega
  have i2 : (n : Int) < 300 := by omega
  have w1 : n < 2147483647 := by omega
  simp only [x187_0, x187_1, x187_3, x187_5, x187_8, x187_11, x187_12, x187_15, x187_16, x187_19, x187_20, x187_21, x187_22, x187_25, x187_28, x187_29, x187_32, x187_33, x187_34, x187_37, x187_38, x187_41, x187_44, x187_45, x187_48, x187_49, x187_52, x187_53, x187_56, x187_57, x187_59, x187_60, x187_62, x187_63, x187_66, x187_69, x187_71, x187_74, x187_76, x187_77, x187_80, x187_81, x187_82, x187_85, x187_86, x187_89, x187_90, x187_93, x187_95, x187_96, x187_99, x187_100, x187_103, x187_106, x187_107, x187_108, x187_111, x187_112, x187_115, x187_117, x187_118, x187_119, x187_122, x187_123, x187_126, x187_127, x187_128, x187_129, x187_132, x187_133, x187_136, x187_137, x187_138, x187_139, x187_142, x187_143, x187_146, x187_147, x187_148, x187_149, x187_152, x187_153, x187_156, x187_158, x187_159, x187_160, x187_163, x187_164, x187_167, x187_168, x187_171, x187_172, x187_173, x187_174, x187_177, x187_178, x187_179, x187_182, ↓reduceIte, Bool.false_eq_true, Nat.reduceAdd, Nat.reduceLT, Nat.reduceLeDiff, Nat.reduceSub, Nat.reduceEqDiff, Int.reduceToNat, Int.reduceEq, Int.reduceLT, Int.reduceLE, Int.reduceAdd, Int.reduceSub, zg, zI, zJ, zR, zst, zkl, zn, zcat, zok, zraw, List.length_cons, List.length_nil, Option.toList, List.nil_append, List.cons_append, true_and, and_true, if_true, if_false, ne_eq, not_true, not_false_eq_true, and_self, true_or, or_true, false_or, or_false, false_and, and_false, b_138 hm, r_138_37 hm, r_138_38 hm, r_138_39 hm, r_138_40 hm, r_138_41 hm, r_138_42 hm, x_161 hm i1 i2, x_162 hm i1 i2, n_162 hm, x_163 hm i1 i2, n_163 hm, x_164 hm i1 i2, x_165 hm i1 i2, x_166 hm i1 i2, h36, h43, ua_eq, Int.toNat_natCast, us_ne (show (138 : Nat) ≠ 161 by decide), us_ne (show (138 : Nat) ≠ 162 by decide), us_ne (show (138 : Nat) ≠ 163 by decide), us_ne (show (138 : Nat) ≠ 164 by decide), us_ne (show (138 : Nat) ≠ 165 by decide), us_ne (show (138 : Nat) ≠ 166 by decide), w32_s w1]
  refine ⟨hb, ho, ?_⟩
  refine hQ _ (Fr.us (by simp) (Fr.us (by simp) (Fr.us (by simp) (Fr.us (by simp) (Fr.us (by simp) (Fr.us (by simp) (Fr.us (by simp) Fr.refl))))))) (fun j hj => ?_) ?_ ?_ ?_ ?_ ?_ ?_ ?_
  · rw [us_same, zup_ne hj]
  · rw [us_same, zup_same rfl]
  · rw [us_ne (by decide), us_ne (by decide), us_ne (by decide), us_ne (by decide), us_ne (by decide), us_ne (by decide), us_same]
  · rw [us_ne (by decide), us_ne (by decide), us_ne (by decide), us_ne (by decide), us_ne (by decide), us_same, us_ne (by decide)]
  · rw [us_ne (by decide), us_ne (by decide), us_ne (by decide), us_ne (by decide), us_same, us_ne (by decide), us_ne (by decide)]
  · rw [us_ne (by decide), us_ne (by decide), us_ne (by decide), us_same, us_ne (by decide), us_ne (by decide), us_ne (by decide)]
  · rw [us_ne (by decide), us_ne (by decide), us_same, us_ne (by decide), us_ne (by decide), us_ne (by decide), us_ne (by decide)]
  · rw [us_ne (by decide), us_same, us_ne (by decide), us_ne (by decide), us_ne (by decide), us_ne (by decide), us_ne (by decide)]
end LJ
