/-! THE REFERENCE reads: a LIT, whole -/
/-- a LIT more: at n of the rows, its code from a on -/
def LQ (a n b : Nat) (o : Bool) (x : zLt) (μ0 μ : zM) : Prop := Fr [138, 161, 162, 163, 164, 165, 166, 167, 168, 169] μ0 μ
  ∧ (∀ j, j ≠ 11 → j ≠ 12 → j ≠ 36 → j ≠ 43 → j ≠ 47 → μ 138 j = μ0 138 j) ∧ μ 138 36 = ((n + 1 : Nat) : Int) ∧ μ 138 43 = ((a + (x.2.2.1 ++ x.2.2.2).length : Nat) : Int)
  ∧ (∀ c q, 161 ≤ c → c ≤ 166 → q ≠ n → μ c q = μ0 c q) ∧ (∀ i : Nat, (i < a ∨ ((i / 420 : Nat) : Int) ≠ (b : Nat)) → μ 167 i = μ0 167 i ∧ μ 168 i = μ0 168 i)
  ∧ lAt μ n (o, x) ∧ μ 164 n = (a : Nat) ∧ μ 166 n = ((a + (x.2.2.1 ++ x.2.2.2).length : Nat) : Int)
section LM
variable {θ : zS} {Q : Option zV → zS → zM → Prop} {μ : zM} {K : Nat → Nat} {V W st : Nat → Int} {Z : Nat}
theorem b2_01 (b : Bool) : b2 b = 0 ∨ b2 b = 1 := by cases b <;> simp [b2]
theorem FQ_11 {e : Nat × Nat} {μ1 μ' : zM} (f : Fr [138] μ μ1) (j : ∀ j, j ≠ 11 → μ1 138 j = μ 138 j) (g : FQ st e μ1 μ') : FQ st e μ μ' := by
  obtain ⟨⟨g1, g2⟩, g3, g4, g5, g6, g7⟩ := g
  refine ⟨⟨(f.mono (by simp)).trans g1, fun i hi => ?_⟩, g3, g4, g5, fun q q1 q2 q3 q4 q5 q6 => by rw [g6 q q1 q2 q3 q4 q5 q6]; exact j q q1, g7⟩
  have := g2 i (by rw [j 19 (by decide)]; exact hi)
  rw [this.1, this.2, f 167 (by decide), f 168 (by decide)]
  exact ⟨rfl, rfl⟩
theorem mLiteral {d p n a b : Nat} {o : Bool} {x2 x3 x4 x5 : zV} (hm : Tm θ) (hd : 4 ≤ d) (hT : TR K V W st Z μ) (hp : p ≤ Z) (hb1 : b ≤ 1) (h19 : μ 138 19 = (b : Nat)) (ha : 420 * b ≤ a ∧ a ≤ 420 * b + p) (h11 : μ 138 11 = (p : Nat)) (h12 : μ 138 12 = 0) (h13 : μ 138 13 = 0) (h43 : μ 138 43 = (a : Nat)) (h36 : μ 138 36 = (n : Nat)) (hn : n < 300)
    (hQ : match ltG K V p with
      | .inl e => ∀ μ', FQ st e μ μ' → Q none θ μ'
      | .inr x => ∀ μ', LQ a n b o x.2 μ μ' → μ' 138 11 = (x.1 : Nat) → μ' 138 12 = 0 → Q none θ μ') : Ex d 187 0 [vr 138, vi (b2 o), x2, x3, x4, x5] [] θ μ Q := by
  have hz := hT.1.1
  simp only [x187_0, x187_1, x187_3, x187_5, x187_8, x187_11, x187_12, x187_15, x187_16, x187_19, x187_20, x187_21, x187_22, x187_25, x187_28, x187_29, x187_32, x187_33, x187_34, x187_37, x187_38, x187_41, x187_44, x187_45, x187_48, x187_49, x187_52, x187_53, x187_56, x187_57, x187_59, x187_60, x187_62, x187_63, x187_66, x187_69, x187_71, x187_74, x187_76, x187_77, x187_80, x187_81, x187_82, x187_85, x187_86, x187_89, x187_90, x187_93, x187_95, x187_96, x187_99, x187_100, x187_103, x187_106, x187_107, x187_108, x187_111, x187_112, x187_115, x187_117, x187_118, x187_119, x187_122, x187_123, x187_126, x187_127, x187_128, x187_129, x187_132, x187_133, x187_136, x187_137, x187_138, x187_139, x187_142, x187_143, x187_146, x187_147, x187_148, x187_149, x187_152, x187_153, x187_156, x187_158, x187_159, x187_160, x187_163, x187_164, x187_167, x187_168, x187_171, x187_172, x187_173, x187_174, x187_177, x187_178, x187_179, x187_182, ↓reduceIte, Bool.false_eq_true, Nat.reduceAdd, Nat.reduceLT, Nat.reduceLeDiff, Nat.reduceSub, Nat.reduceEqDiff, Int.reduceToNat, Int.reduceEq, Int.reduceLT, Int.reduceLE, Int.reduceAdd, Int.reduceSub, zg, zI, zJ, zR, zst, zkl, zn, zcat, zok, zraw, List.length_cons, List.length_nil, Option.toList, List.nil_append, List.cons_append, true_and, and_true, if_true, if_false, ne_eq, not_true, not_false_eq_true, and_self, true_or, or_true, false_or, or_false, false_and, and_false]
  refine mNots (μ0 := μ) (b := false) hm (by omega) (401 - p) p μ (Nat.le_refl _) hT hp h11 h13 Fr.refl (fun _ _ => rfl) ?_
  unfold ltG at hQ
  have hN := okG_nt hT.1 (401 - p) p false hp (Nat.le_refl _)
  generalize ntG K (401 - p) p false = r at hQ hN ⊢
  cases r with
  | inl e =>
    simp only [bnd] at hQ
    intro μ1 b' f j hq n13 e0 n14
    obtain ⟨q, q4, q11⟩ := hq
    refine mLitF hm (by omega) q4 q11 (by rw [n13]; omega) (fun μ2 f2 j2 hq2 => ?_)
    refine hQ μ2 ⟨⟨(f.trans f2).mono (by simp), fun i _ => ?_⟩, e0, by rw [j2 13 (by decide) (by decide)]; exact n13, by rw [j2 14 (by decide) (by decide)]; exact n14, fun q q1 q2 q3 q4 q5 q6 => by rw [j2 q q1 q6]; exact j q q1 q3 q4, hq2⟩
    rw [f2 167 (by decide), f 167 (by decide), f2 168 (by decide), f 168 (by decide)]
    exact ⟨rfl, rfl⟩
  | inr x =>
    intro μ1 f j g11
    obtain ⟨hN1, hN2, hN3⟩ := hN
    simp only [bnd] at hQ
    have T1 := TR_fr hT f (by decide) (by decide) (by decide) (by decide)
    refine mLit (a := a) (B := b) hm hd T1 hN2 hb1 (by rw [j 19 (by decide)]; exact h19) (by omega) g11 (by rw [j 12 (by decide)]; exact h12) (by rw [j 13 (by decide)]; exact h13) (by rw [j 43 (by decide)]; exact h43) ?_
    have hO := okG_ltE (b := x.2) hT.1 hT.2.1 hN2
    generalize ltE K V x.1 x.2 = r2 at hQ hO ⊢
    cases r2 with
    | inl e =>
      intro μ2 hF
      exact hQ μ2 (FQ_11 f j hF)
    | inr y =>
      obtain ⟨o1, o2, o3, o4, o5⟩ := hO
      intro μ2 hE q11 q12
      have hlen : (y.2.2.2.1 ++ y.2.2.2.2).length + x.1 ≤ y.1 := by
        unfold enL at o3
        simp [enC_len] at o3 ⊢
        revert o3
        cases y.2.1 <;> simp <;> omega
      have ej := hE.2.2.2.2.1
      have k36 : μ2 138 36 = (n : Nat) := by rw [ej 36 (by decide) (by decide) (by decide) (by decide), j 36 (by decide)]; exact h36
      refine mLitRow (n := n) hm hn k36 hE.2.2.2.1 (b2_01 o) (b2_01 x.2) (fun μ3 f3 j3 g36 r1 r2 r3 r4 r5 r6 => ?_)
      have e167 : μ3 167 = μ2 167 := f3 167 (by decide)
      have e168 : μ3 168 = μ2 168 := f3 168 (by decide)
      have hc := hE.2.2.2.2.2.2
      have l164 : μ3 164 n = (a : Nat) := by rw [r4, zup_same rfl]
      have l165 : μ3 165 n = ((a + y.2.2.2.1.length : Nat) : Int) := by rw [r5, zup_same rfl]
      have l166 : μ3 166 n = ((a + (y.2.2.2.1 ++ y.2.2.2.2).length : Nat) : Int) := by rw [r6, zup_same rfl]
      refine hQ μ3 ⟨?_, ?_, g36, ?_, ?_, ?_, ⟨?_, ?_, ?_, ?_, ?_⟩, l164, l166⟩ ?_ ?_
      · exact ((f.mono (by simp)).trans (hE.1.mono (by simp))).trans (f3.mono (by simp))
      · intro q q1 q2 q3 q4 q5
        rw [j3 q q3, ej q q1 q2 q4 q5, j q q1]
      · rw [j3 43 (by decide)]; exact hE.2.2.2.1
      · intro c q c1 c2 hq
        have h2 : μ2 c = μ c := by rw [hE.1 c (by simp; omega), f c (by simp; omega)]
        obtain h | h | h | h | h | h : c = 161 ∨ c = 162 ∨ c = 163 ∨ c = 164 ∨ c = 165 ∨ c = 166 := by omega
        · subst h; rw [r1, zup_ne hq, h2]
        · subst h; rw [r2, zup_ne hq, h2]
        · subst h; rw [r3, zup_ne hq, h2]
        · subst h; rw [r4, zup_ne hq, h2]
        · subst h; rw [r5, zup_ne hq, h2]
        · subst h; rw [r6, zup_ne hq, h2]
      · intro i hi
        have := hE.2.2.2.2.2.1 i (by rw [j 19 (by decide), h19]; exact hi)
        rw [e167, e168, this.1, this.2, f 167 (by decide), f 168 (by decide)]
        exact ⟨rfl, rfl⟩
      · rw [r3, zup_same rfl]
      · rw [r2, zup_same rfl, o5]
      · rw [r1, zup_same rfl]
      · rw [l164, l165]
        refine ⟨by omega, by simp, by simp at hlen; omega, fun i h => ?_⟩
        have h' : i < y.2.2.2.1.length := h
        have := hc i (by simp; omega)
        rw [e167, e168, Int.toNat_natCast, this.1, this.2, List.getElem_append_left h]
        exact ⟨rfl, fun _ => rfl⟩
      · rw [l165, l166]
        refine ⟨by omega, by simp; omega, by omega, fun i h => ?_⟩
        have h' : i < y.2.2.2.2.length := h
        have := hc (y.2.2.2.1.length + i) (by simp; omega)
        rw [show a + (y.2.2.2.1.length + i) = a + y.2.2.2.1.length + i by omega] at this
        rw [e167, e168, Int.toNat_natCast, this.1, this.2, List.getElem_append_right (by omega)]
        simp
      · rw [j3 11 (by decide)]; exact q11
      · rw [j3 12 (by decide)]; exact q12
end LM
