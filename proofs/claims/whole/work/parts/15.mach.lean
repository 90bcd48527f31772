/-! THE CLASS'S MACHINE: worth, someHolds -/
def jnC (p a b : Int) : Int := if p = 6 then w32 (a + b) else if p = 7 then w32 (a - b) else if p = 8 then w32 (a * b) else if p = 9 then (if b = 0 then 0 else w32 (a.tdiv b)) else if p = 10 then (if a = b then 1 else 0)
  else if p = 11 then (if a = b then 0 else 1) else if p = 12 then (if a < b then 1 else 0) else if p = 13 then (if a ≤ b then 1 else 0) else if p = 34 then zand a b else if p = 33 then zor a b else 0
def cst (v : Nat → Int) (c : Int × Int) (s : List Int) (bad : Bool) : Option (List Int × Bool) :=
  if c.1 = 2 ∨ c.1 = 36 then (if s.length < 32 then some ((if c.1 = 2 then c.2 else v c.2.toNat) :: s, bad) else none)
  else if c.1 = 35 then match s with
    | a :: s => some (w32 (1 - a) :: s, bad)
    | [] => none
  else match s with
    | b :: a :: s => if (bad = true ∨ c.1 = 9 ∧ b = 0) ∧ 10 ≤ c.1 ∧ c.1 ≤ 13 then some (0 :: s, false) else some (jnC c.1 a b :: s, bad || decide (c.1 = 9 ∧ b = 0))
    | _ => none
def crun (v : Nat → Int) : List (Int × Int) → List Int → Bool → Option (List Int × Bool)
  | [], s, bad => some (s, bad)
  | c :: r, s, bad => match cst v c s bad with
    | some q => crun v r q.1 q.2
    | none => none
def StR : List Int → (Nat → Int) → Prop
  | [], _ => True
  | x :: s, f => f s.length = x ∧ StR s f
theorem StR_upd {s : List Int} {f : Nat → Int} {k : Nat} {x : Int} (h : StR s f) (hk : s.length ≤ k) : StR s (zup f k x) := by
  induction s with
  | nil => trivial
  | cons a s ih =>
    simp only [List.length_cons] at hk
    exact ⟨by rw [zup_ne (by omega)]; exact h.1, ih h.2 (by omega)⟩
theorem eJoin (d : Nat) (p a b : Int) (θ : zS) (μ : zM) (Q : Option zV → zS → zM → Prop) : Ex d 23 0 [vi p, vi a, vi b] [] θ μ Q = Q (some (vi (jnC p a b))) θ μ := by
  simp only [x23_0, x23_1, x23_132, x23_133, x23_134, x23_135, x23_136, x23_137, x23_138, x23_139, x23_140, x23_141, x23_142, x23_143, x23_144, x23_145, x23_148, x23_149, x23_152, x23_153, x23_154, x23_155, x23_156, x23_157, x23_158, x23_161, x23_162, x23_165, x23_166, x23_167, x23_168, x23_169, x23_172, x23_173, x23_176, x23_177, x23_178, x23_179, x23_180, x23_183, x23_184, x23_187, x23_188, x23_189, x23_190, x23_191, x23_194, x23_195, x23_198, x23_199, x23_200, x23_201, x23_202, x23_203, x23_204, x23_205, x23_206, x23_207, x23_208, x23_209, ↓reduceIte, Bool.false_eq_true, Nat.reduceAdd, Nat.reduceLT, Nat.reduceLeDiff, Nat.reduceSub, Nat.reduceEqDiff, Int.reduceToNat, Int.reduceEq, Int.reduceLT, Int.reduceLE, Int.reduceAdd, Int.reduceSub, zg, zI, zJ, zR, zst, zkl, zn, zcat, zok, zraw, List.length_cons, List.length_nil, Option.toList, List.nil_append, List.cons_append, true_and, and_true, if_true, if_false, ne_eq, not_true, not_false_eq_true, and_self, true_or, or_true, false_or, or_false, false_and, and_false, jnC]
  by_cases h1 : p = 6
  · simp [h1]
  by_cases h2 : p = 7
  · simp [h2]
  by_cases h3 : p = 8
  · simp [h3]
  by_cases h4 : p = 9
  · by_cases hb : b = 0 <;> simp [h4, hb]
  by_cases h5 : p = 10
  · by_cases hb : a = b <;> simp [h5, hb]
  by_cases h6 : p = 11
  · by_cases hb : a = b <;> simp [h6, hb]
  by_cases h7 : p = 12
  · by_cases hb : a < b
    · have : ¬ b ≤ a := by omega
      simp [h7, hb, this]
    · have : b ≤ a := by omega
      simp [h7, hb, this]
  by_cases h8 : p = 13
  · by_cases hb : a ≤ b
    · have : ¬ b < a := by omega
      simp [h8, hb, this]
    · have : b < a := by omega
      simp [h8, hb, this]
  by_cases h9 : p = 34
  · simp [h9]
  by_cases h10 : p = 33
  · simp [h10]
  simp only [h1, h2, h3, h4, h5, h6, h7, h8, h9, h10, if_false]
  simp
theorem w32_m1 {a : Nat} (h : 1 ≤ a) (h2 : a < 2147483648) : w32 ((a : Int) + -1) = ((a - 1 : Nat) : Int) := by unfold w32; omega
def okC (cs : List (Int × Int)) : Prop := ∀ c ∈ cs, (0 ≤ c.1 ∧ c.1 ≤ 63) ∧ (0 ≤ c.2 ∧ c.2 ≤ 65535) ∧ (c.1 = 36 → c.2 ≤ 12)
section MW
variable {θ : zS} {Q : Option zV → zS → zM → Prop} {μ : zM} {v : Nat → Int}
theorem cWorthRun {d C : Nat} {a b u x : Int} {x8 x9 x10 : zV} {cs : List (Int × Int)} {bd : Bool} (hc : Tc θ) (hd : 1 ≤ d) (hC : θ.1[C]? = some (.inr (.int, 400))) (hC2 : 12 ≤ C)
    (hat : cAt (μ C) a b cs) (hok : okC cs) (hv : ∀ k, k < 13 → μ 10 k = v k) (hr : crun v cs [] false = some ([x], bd))
    (hQ : ∀ μ', Fr [11] μ μ' → Q (some (vi (if bd = true then 0 else x))) θ μ') : Ex d 22 17 [vr 9, vr C, vi a, vi b, vi u, vi 0, vi 0, vi a, x8, x9, x10] [] θ μ Q := by
  obtain ⟨ha0, hb0, hb4, hcd⟩ := hat
  have hlen : cs.length ≤ 400 := by omega
  have key : ∀ t L μ1, t ≤ cs.length → (∃ s bad x8 x9 x10, L = [vr 9, vr C, vi a, vi b, vi u, vi ((s.length : Nat) : Int), vi (if bad = true then 1 else 0), vi (a + (t : Nat)), x8, x9, x10] ∧ crun v (cs.drop t) s bad = some ([x], bd) ∧ StR s (μ1 11) ∧ Fr [11] μ μ1 ∧ s.length ≤ 32) →
      Ex d 22 17 L [] θ μ1 Q := by
    refine Ex_loop (I := fun t L μ1 => ∃ s bad x8 x9 x10, L = [vr 9, vr C, vi a, vi b, vi u, vi ((s.length : Nat) : Int), vi (if bad = true then 1 else 0), vi (a + (t : Nat)), x8, x9, x10] ∧ crun v (cs.drop t) s bad = some ([x], bd) ∧ StR s (μ1 11) ∧ Fr [11] μ μ1 ∧ s.length ≤ 32) cs.length ?_ ?_
    · rintro t L μ1 ht ⟨s, bad, x8, x9, x10, rfl, hrun, hst, hfr, hsl⟩ hk
      rw [List.drop_eq_getElem_cons ht] at hrun
      have hm : cs[t] ∈ cs := List.getElem_mem ht
      have ho := hok _ hm
      have hcode := hcd t ht
      generalize cs[t] = c at hrun ho hcode
      obtain ⟨p, y⟩ := c
      have hz := zop ho.1.1 (by omega) ho.2.1.1 ho.2.1.2
      simp only at hz hcode ho
      obtain ⟨X, hX⟩ : ∃ X, X = p * 65536 + y := ⟨_, rfl⟩
      rw [← hX] at hz hcode
      have hcd2 : μ1 C (a + (t : Nat)).toNat = X := by
        rw [hfr C (by simp; omega), show (a + (t : Nat)).toNat = a.toNat + t by omega, hcode]
      have i0 : 0 ≤ a + ((t : Nat) : Int) := by omega
      have i1 : a + ((t : Nat) : Int) < ((400 : Nat) : Int) := by omega
      have i2 : ¬ b ≤ a + ((t : Nat) : Int) := by omega
      have i3 : w32 (a + ((t : Nat) : Int) + 1) = a + ((t + 1 : Nat) : Int) := by unfold w32; omega
      have hv1 : ∀ k, k < 13 → μ1 10 k = v k := fun k hk => by rw [hfr 10 (by decide), hv k hk]
      unfold crun at hrun
      rw [x22_17]
      simp only [x22_0, x22_1, x22_2, x22_5, x22_7, x22_8, x22_9, x22_11, x22_12, x22_14, x22_15, x22_19, x22_20, x22_23, x22_24, x22_26, x22_27, x22_29, x22_30, x22_32, x22_33, x22_35, x22_36, x22_38, x22_39, x22_43, x22_44, x22_47, x22_49, x22_51, x22_54, x22_56, x22_58, x22_61, x22_62, x22_63, x22_64, x22_67, x22_69, x22_71, x22_72, x22_75, x22_77, x22_80, x22_81, x22_84, x22_86, x22_87, x22_88, x22_91, x22_94, x22_96, x22_98, x22_101, x22_103, x22_104, x22_107, x22_108, x22_109, x22_110, x22_113, x22_115, x22_116, x22_117, x22_118, x22_119, x22_122, x22_124, x22_125, x22_126, x22_127, x22_128, x22_129, x22_132, x22_134, x22_135, x22_138, x22_139, x22_140, x22_143, x22_144, x22_147, x22_149, x22_150, x22_152, x22_154, x22_157, x22_159, x22_161, x22_164, x22_166, x22_169, x22_170, x22_173, x22_174, x22_176, x22_177, x22_180, x22_182, x22_183, x22_184, x22_186, x22_187, x22_190, x22_192, x22_193, x22_194, x22_195, x22_197, x22_200, x22_201, x22_203, x22_206, x22_208, x22_210, x22_213, x22_215, x22_217, x22_220, x22_221, x22_224, x22_226, x22_227, x22_228, x22_229, x22_230, x22_231, x22_233, x22_236, x22_239, x22_241, x22_244, x22_245, x22_248, x22_249, x22_252, x22_253, x22_254, ↓reduceIte, Bool.false_eq_true, Nat.reduceAdd, Nat.reduceLT, Nat.reduceLeDiff, Nat.reduceSub, Nat.reduceEqDiff, Int.reduceToNat, Int.reduceEq, Int.reduceLT, Int.reduceLE, Int.reduceAdd, Int.reduceSub, zg, zI, zJ, zR, zst, zkl, zn, zcat, zok, zraw, List.length_cons, List.length_nil, Option.toList, List.nil_append, List.cons_append, true_and, and_true, if_true, if_false, ne_eq, not_true, not_false_eq_true, and_self, true_or, or_true, false_or, or_false, false_and, and_false, zix_T hC i0 i1, hcd2, hz.1, hz.2, i2]
      by_cases c2 : p = 2 ∨ p = 36
      · simp only [cst, c2, if_true] at hrun
        by_cases hs32 : s.length < 32
        · simp only [hs32, if_true] at hrun
          have j1 : ((s.length : Nat) : Int) < 32 := by omega
          have kk : ∀ X8 X9 X10 (val : Int), val = (if p = 2 then y else v y.toNat) → Ex d 22 17 [vr 9, vr C, vi a, vi b, vi u, vi ((s.length + 1 : Nat) : Int), vi (if bad = true then 1 else 0), vi (a + ((t + 1 : Nat) : Int)), X8, X9, X10] [] θ (ua μ1 11 s.length val) Q := by
            intro X8 X9 X10 val hval
            apply hk
            refine ⟨val :: s, bad, X8, X9, X10, rfl, by rw [hval]; exact hrun, ?_, ?_, by simp only [List.length_cons]; omega⟩
            · rw [ua_eq, us_same]; exact ⟨zup_same rfl, StR_upd hst (Nat.le_refl _)⟩
            · exact Fr.ua (by decide) hfr
          rcases c2 with rfl | rfl
          · simp (disch := omega) only [x22_0, x22_1, x22_2, x22_5, x22_7, x22_8, x22_9, x22_11, x22_12, x22_14, x22_15, x22_19, x22_20, x22_23, x22_24, x22_26, x22_27, x22_29, x22_30, x22_32, x22_33, x22_35, x22_36, x22_38, x22_39, x22_41, x22_43, x22_44, x22_47, x22_49, x22_51, x22_54, x22_56, x22_58, x22_61, x22_62, x22_63, x22_64, x22_67, x22_69, x22_71, x22_72, x22_75, x22_77, x22_80, x22_81, x22_84, x22_86, x22_87, x22_88, x22_91, x22_94, x22_96, x22_98, x22_101, x22_103, x22_104, x22_107, x22_108, x22_109, x22_110, x22_113, x22_115, x22_116, x22_117, x22_118, x22_119, x22_122, x22_124, x22_125, x22_126, x22_127, x22_128, x22_129, x22_132, x22_134, x22_135, x22_138, x22_139, x22_140, x22_143, x22_144, x22_147, x22_149, x22_150, x22_152, x22_154, x22_157, x22_159, x22_161, x22_164, x22_166, x22_169, x22_170, x22_173, x22_174, x22_176, x22_177, x22_180, x22_182, x22_183, x22_184, x22_186, x22_187, x22_190, x22_192, x22_193, x22_194, x22_195, x22_197, x22_200, x22_201, x22_203, x22_206, x22_208, x22_210, x22_213, x22_215, x22_217, x22_220, x22_221, x22_224, x22_226, x22_227, x22_228, x22_229, x22_230, x22_231, x22_233, x22_236, x22_239, x22_241, x22_244, x22_245, x22_248, x22_249, x22_252, x22_253, x22_254, ↓reduceIte, Bool.false_eq_true, Nat.reduceAdd, Nat.reduceLT, Nat.reduceLeDiff, Nat.reduceSub, Nat.reduceEqDiff, Int.reduceToNat, Int.reduceEq, Int.reduceLT, Int.reduceLE, Int.reduceAdd, Int.reduceSub, zg, zI, zJ, zR, zst, zkl, zn, zcat, zok, zraw, List.length_cons, List.length_nil, Option.toList, List.nil_append, List.cons_append, true_and, and_true, if_true, if_false, ne_eq, not_true, not_false_eq_true, and_self, true_or, or_true, false_or, or_false, false_and, and_false, b_9 hc, r_9_0 hc, x_10 hc, r_9_1 hc, x_11 hc, j1, Int.toNat_natCast, w32_s, i3]
            exact kk _ _ _ _ rfl
          · have hy := ho.2.2 rfl
            have hvy : μ1 10 y.toNat = v y.toNat := hv1 _ (by omega)
            simp (disch := omega) only [x22_0, x22_1, x22_2, x22_5, x22_7, x22_8, x22_9, x22_11, x22_12, x22_14, x22_15, x22_19, x22_20, x22_23, x22_24, x22_26, x22_27, x22_29, x22_30, x22_32, x22_33, x22_35, x22_36, x22_38, x22_39, x22_41, x22_43, x22_44, x22_47, x22_49, x22_51, x22_54, x22_56, x22_58, x22_61, x22_62, x22_63, x22_64, x22_67, x22_69, x22_71, x22_72, x22_75, x22_77, x22_80, x22_81, x22_84, x22_86, x22_87, x22_88, x22_91, x22_94, x22_96, x22_98, x22_101, x22_103, x22_104, x22_107, x22_108, x22_109, x22_110, x22_113, x22_115, x22_116, x22_117, x22_118, x22_119, x22_122, x22_124, x22_125, x22_126, x22_127, x22_128, x22_129, x22_132, x22_134, x22_135, x22_138, x22_139, x22_140, x22_143, x22_144, x22_147, x22_149, x22_150, x22_152, x22_154, x22_157, x22_159, x22_161, x22_164, x22_166, x22_169, x22_170, x22_173, x22_174, x22_176, x22_177, x22_180, x22_182, x22_183, x22_184, x22_186, x22_187, x22_190, x22_192, x22_193, x22_194, x22_195, x22_197, x22_200, x22_201, x22_203, x22_206, x22_208, x22_210, x22_213, x22_215, x22_217, x22_220, x22_221, x22_224, x22_226, x22_227, x22_228, x22_229, x22_230, x22_231, x22_233, x22_236, x22_239, x22_241, x22_244, x22_245, x22_248, x22_249, x22_252, x22_253, x22_254, ↓reduceIte, Bool.false_eq_true, Nat.reduceAdd, Nat.reduceLT, Nat.reduceLeDiff, Nat.reduceSub, Nat.reduceEqDiff, Int.reduceToNat, Int.reduceEq, Int.reduceLT, Int.reduceLE, Int.reduceAdd, Int.reduceSub, zg, zI, zJ, zR, zst, zkl, zn, zcat, zok, zraw, List.length_cons, List.length_nil, Option.toList, List.nil_append, List.cons_append, true_and, and_true, if_true, if_false, ne_eq, not_true, not_false_eq_true, and_self, true_or, or_true, false_or, or_false, false_and, and_false, b_9 hc, r_9_0 hc, x_10 hc, r_9_1 hc, x_11 hc, j1, Int.toNat_natCast, w32_s, i3, hvy]
            exact kk _ _ _ _ rfl
        · simp only [hs32, if_false] at hrun; cases hrun
      · have c2a : ¬ p = 2 := fun q => c2 (Or.inl q)
        have c2b : ¬ p = 36 := fun q => c2 (Or.inr q)
        by_cases c3 : p = 35
        · subst c3
          cases s with
          | nil => simp [cst] at hrun
          | cons e s =>
            simp only [cst] at hrun
            have hrun' : crun v (cs.drop (t + 1)) (w32 (1 - e) :: s) bad = some ([x], bd) := by simpa using hrun
            have j1 : (1 : Int) ≤ ((s.length + 1 : Nat) : Int) := by omega
            have j2 : μ1 11 s.length = e := hst.1
            have j3 : s.length < 32 := by simp only [List.length_cons] at hsl; omega
            simp (disch := omega) only [x22_0, x22_1, x22_2, x22_5, x22_7, x22_8, x22_9, x22_11, x22_12, x22_14, x22_15, x22_19, x22_20, x22_23, x22_24, x22_26, x22_27, x22_29, x22_30, x22_32, x22_33, x22_35, x22_36, x22_38, x22_39, x22_41, x22_43, x22_44, x22_47, x22_49, x22_51, x22_54, x22_56, x22_58, x22_61, x22_62, x22_63, x22_64, x22_67, x22_69, x22_71, x22_72, x22_75, x22_77, x22_80, x22_81, x22_84, x22_86, x22_87, x22_88, x22_91, x22_94, x22_96, x22_98, x22_101, x22_103, x22_104, x22_107, x22_108, x22_109, x22_110, x22_113, x22_115, x22_116, x22_117, x22_118, x22_119, x22_122, x22_124, x22_125, x22_126, x22_127, x22_128, x22_129, x22_132, x22_134, x22_135, x22_138, x22_139, x22_140, x22_143, x22_144, x22_147, x22_149, x22_150, x22_152, x22_154, x22_157, x22_159, x22_161, x22_164, x22_166, x22_169, x22_170, x22_173, x22_174, x22_176, x22_177, x22_180, x22_182, x22_183, x22_184, x22_186, x22_187, x22_190, x22_192, x22_193, x22_194, x22_195, x22_197, x22_200, x22_201, x22_203, x22_206, x22_208, x22_210, x22_213, x22_215, x22_217, x22_220, x22_221, x22_224, x22_226, x22_227, x22_228, x22_229, x22_230, x22_231, x22_233, x22_236, x22_239, x22_241, x22_244, x22_245, x22_248, x22_249, x22_252, x22_253, x22_254, ↓reduceIte, Bool.false_eq_true, Nat.reduceAdd, Nat.reduceLT, Nat.reduceLeDiff, Nat.reduceSub, Nat.reduceEqDiff, Int.reduceToNat, Int.reduceEq, Int.reduceLT, Int.reduceLE, Int.reduceAdd, Int.reduceSub, zg, zI, zJ, zR, zst, zkl, zn, zcat, zok, zraw, List.length_cons, List.length_nil, Option.toList, List.nil_append, List.cons_append, true_and, and_true, if_true, if_false, ne_eq, not_true, not_false_eq_true, and_self, true_or, or_true, false_or, or_false, false_and, and_false, b_9 hc, r_9_0 hc, x_10 hc, r_9_1 hc, x_11 hc, j1, j2, Int.toNat_natCast, w32_s1, Nat.add_sub_cancel, i3]
            apply hk
            refine ⟨w32 (1 - e) :: s, bad, _, _, _, rfl, hrun', ?_, Fr.ua (by decide) hfr, hsl⟩
            rw [ua_eq, us_same]; exact ⟨zup_same rfl, StR_upd hst.2 (Nat.le_refl _)⟩
        · match s, hst, hsl, hrun with
          | [], _, _, hrun => simp [cst, c2a, c2b, c3] at hrun
          | [_], _, _, hrun => simp [cst, c2a, c2b, c3] at hrun
          | f :: e :: s, hst, hsl, hrun =>
            have j1 : (2 : Int) ≤ ((s.length + 1 + 1 : Nat) : Int) := by omega
            have j2 : μ1 11 (s.length + 1) = f := hst.1
            have j3 : μ1 11 s.length = e := hst.2.1
            have j4 : s.length + 1 < 32 := by simp only [List.length_cons] at hsl; omega
            have kk : ∀ X8 X9 X10 (val : Int) (bq : Bool) (bv : Int) μ2, (bv = if bq = true then 1 else 0) → crun v (cs.drop (t + 1)) (val :: s) bq = some ([x], bd) → (∀ j, μ2 11 j = zup (μ1 11) s.length val j) → Fr [11] μ1 μ2 →
                Ex d 22 17 [vr 9, vr C, vi a, vi b, vi u, vi ((s.length + 1 : Nat) : Int), vi bv, vi (a + ((t + 1 : Nat) : Int)), X8, X9, X10] [] θ μ2 Q := by
              intro X8 X9 X10 val bq bv μ2 hbv hcr hm2 hf2
              apply hk
              refine ⟨val :: s, bq, X8, X9, X10, by rw [hbv]; rfl, hcr, ?_, hfr.trans hf2, by simp only [List.length_cons]; omega⟩
              rw [show μ2 11 = zup (μ1 11) s.length val from funext hm2]
              exact ⟨zup_same rfl, StR_upd hst.2.2 (Nat.le_refl _)⟩
            simp only [cst, c2, c3, if_false] at hrun
            have hd0 : 0 < d := by omega
            have hm2 : ∀ val (j : Nat), ua μ1 11 s.length val 11 j = zup (μ1 11) s.length val j := fun val j => by rw [ua_eq, us_same]
            have hm3 : ∀ val val2 (j : Nat), ua (ua μ1 11 s.length val2) 11 s.length val 11 j = zup (μ1 11) s.length val j := fun val val2 j => by
              rw [ua_eq, us_same, ua_eq, us_same]; unfold zup; by_cases hj : j = s.length <;> simp [hj]
            have hf2 : ∀ val, Fr [11] μ1 (ua μ1 11 s.length val) := fun val => Fr.ua (by decide) Fr.refl
            have hf3 : ∀ val val2, Fr [11] μ1 (ua (ua μ1 11 s.length val2) 11 s.length val) := fun val val2 => Fr.ua (by decide) (hf2 _)
            by_cases hcm : 10 ≤ p ∧ p ≤ 13
            · have q1 : ¬ p < 10 := by omega
              have q2 : ¬ 13 < p := by omega
              have q3 : ¬ p = 9 := by omega
              cases bad with
              | true =>
                simp only [hcm, true_or, and_self, if_true] at hrun
                simp (disch := omega) only [x22_0, x22_1, x22_2, x22_5, x22_7, x22_8, x22_9, x22_11, x22_12, x22_14, x22_15, x22_19, x22_20, x22_23, x22_24, x22_26, x22_27, x22_29, x22_30, x22_32, x22_33, x22_35, x22_36, x22_38, x22_39, x22_41, x22_43, x22_44, x22_47, x22_49, x22_51, x22_54, x22_56, x22_58, x22_61, x22_62, x22_63, x22_64, x22_67, x22_69, x22_71, x22_72, x22_75, x22_77, x22_80, x22_81, x22_84, x22_86, x22_87, x22_88, x22_91, x22_94, x22_96, x22_98, x22_101, x22_103, x22_104, x22_107, x22_108, x22_109, x22_110, x22_113, x22_115, x22_116, x22_117, x22_118, x22_119, x22_122, x22_124, x22_125, x22_126, x22_127, x22_128, x22_129, x22_132, x22_134, x22_135, x22_138, x22_139, x22_140, x22_143, x22_144, x22_147, x22_149, x22_150, x22_152, x22_154, x22_157, x22_159, x22_161, x22_164, x22_166, x22_169, x22_170, x22_173, x22_174, x22_176, x22_177, x22_180, x22_182, x22_183, x22_184, x22_186, x22_187, x22_190, x22_192, x22_193, x22_194, x22_195, x22_197, x22_200, x22_201, x22_203, x22_206, x22_208, x22_210, x22_213, x22_215, x22_217, x22_220, x22_221, x22_224, x22_226, x22_227, x22_228, x22_229, x22_230, x22_231, x22_233, x22_236, x22_239, x22_241, x22_244, x22_245, x22_248, x22_249, x22_252, x22_253, x22_254, ↓reduceIte, Bool.false_eq_true, Nat.reduceAdd, Nat.reduceLT, Nat.reduceLeDiff, Nat.reduceSub, Nat.reduceEqDiff, Int.reduceToNat, Int.reduceEq, Int.reduceLT, Int.reduceLE, Int.reduceAdd, Int.reduceSub, zg, zI, zJ, zR, zst, zkl, zn, zcat, zok, zraw, List.length_cons, List.length_nil, Option.toList, List.nil_append, List.cons_append, true_and, and_true, if_true, if_false, ne_eq, not_true, not_false_eq_true, and_self, true_or, or_true, false_or, or_false, false_and, and_false, b_9 hc, r_9_0 hc, x_10 hc, r_9_1 hc, x_11 hc, eJoin, hd0, c2a, c2b, c3, j1, j2, j3, Int.toNat_natCast, w32_m1, w32_s1, Nat.add_sub_cancel, i3, q1, q2]
                exact kk _ _ _ 0 false 0 _ rfl hrun (hm3 _ _) (hf3 _ _)
              | false =>
                simp only [q3, Bool.false_eq_true, false_and, or_self, if_false, decide_false, Bool.or_false] at hrun
                simp (disch := omega) only [x22_0, x22_1, x22_2, x22_5, x22_7, x22_8, x22_9, x22_11, x22_12, x22_14, x22_15, x22_19, x22_20, x22_23, x22_24, x22_26, x22_27, x22_29, x22_30, x22_32, x22_33, x22_35, x22_36, x22_38, x22_39, x22_41, x22_43, x22_44, x22_47, x22_49, x22_51, x22_54, x22_56, x22_58, x22_61, x22_62, x22_63, x22_64, x22_67, x22_69, x22_71, x22_72, x22_75, x22_77, x22_80, x22_81, x22_84, x22_86, x22_87, x22_88, x22_91, x22_94, x22_96, x22_98, x22_101, x22_103, x22_104, x22_107, x22_108, x22_109, x22_110, x22_113, x22_115, x22_116, x22_117, x22_118, x22_119, x22_122, x22_124, x22_125, x22_126, x22_127, x22_128, x22_129, x22_132, x22_134, x22_135, x22_138, x22_139, x22_140, x22_143, x22_144, x22_147, x22_149, x22_150, x22_152, x22_154, x22_157, x22_159, x22_161, x22_164, x22_166, x22_169, x22_170, x22_173, x22_174, x22_176, x22_177, x22_180, x22_182, x22_183, x22_184, x22_186, x22_187, x22_190, x22_192, x22_193, x22_194, x22_195, x22_197, x22_200, x22_201, x22_203, x22_206, x22_208, x22_210, x22_213, x22_215, x22_217, x22_220, x22_221, x22_224, x22_226, x22_227, x22_228, x22_229, x22_230, x22_231, x22_233, x22_236, x22_239, x22_241, x22_244, x22_245, x22_248, x22_249, x22_252, x22_253, x22_254, ↓reduceIte, Bool.false_eq_true, Nat.reduceAdd, Nat.reduceLT, Nat.reduceLeDiff, Nat.reduceSub, Nat.reduceEqDiff, Int.reduceToNat, Int.reduceEq, Int.reduceLT, Int.reduceLE, Int.reduceAdd, Int.reduceSub, zg, zI, zJ, zR, zst, zkl, zn, zcat, zok, zraw, List.length_cons, List.length_nil, Option.toList, List.nil_append, List.cons_append, true_and, and_true, if_true, if_false, ne_eq, not_true, not_false_eq_true, and_self, true_or, or_true, false_or, or_false, false_and, and_false, b_9 hc, r_9_0 hc, x_10 hc, r_9_1 hc, x_11 hc, eJoin, hd0, c2a, c2b, c3, j1, j2, j3, Int.toNat_natCast, w32_m1, w32_s1, Nat.add_sub_cancel, i3, q1, q2, q3]
                exact kk _ _ _ _ false 0 _ rfl hrun (hm2 _) (hf2 _)
            · simp only [hcm, and_false, if_false] at hrun
              have q4 : p < 10 ∨ 13 < p := by omega
              cases bad with
              | true =>
                simp only [Bool.true_or] at hrun
                rcases q4 with q4 | q4
                · simp (disch := omega) only [x22_0, x22_1, x22_2, x22_5, x22_7, x22_8, x22_9, x22_11, x22_12, x22_14, x22_15, x22_19, x22_20, x22_23, x22_24, x22_26, x22_27, x22_29, x22_30, x22_32, x22_33, x22_35, x22_36, x22_38, x22_39, x22_41, x22_43, x22_44, x22_47, x22_49, x22_51, x22_54, x22_56, x22_58, x22_61, x22_62, x22_63, x22_64, x22_67, x22_69, x22_71, x22_72, x22_75, x22_77, x22_80, x22_81, x22_84, x22_86, x22_87, x22_88, x22_91, x22_94, x22_96, x22_98, x22_101, x22_103, x22_104, x22_107, x22_108, x22_109, x22_110, x22_113, x22_115, x22_116, x22_117, x22_118, x22_119, x22_122, x22_124, x22_125, x22_126, x22_127, x22_128, x22_129, x22_132, x22_134, x22_135, x22_138, x22_139, x22_140, x22_143, x22_144, x22_147, x22_149, x22_150, x22_152, x22_154, x22_157, x22_159, x22_161, x22_164, x22_166, x22_169, x22_170, x22_173, x22_174, x22_176, x22_177, x22_180, x22_182, x22_183, x22_184, x22_186, x22_187, x22_190, x22_192, x22_193, x22_194, x22_195, x22_197, x22_200, x22_201, x22_203, x22_206, x22_208, x22_210, x22_213, x22_215, x22_217, x22_220, x22_221, x22_224, x22_226, x22_227, x22_228, x22_229, x22_230, x22_231, x22_233, x22_236, x22_239, x22_241, x22_244, x22_245, x22_248, x22_249, x22_252, x22_253, x22_254, ↓reduceIte, Bool.false_eq_true, Nat.reduceAdd, Nat.reduceLT, Nat.reduceLeDiff, Nat.reduceSub, Nat.reduceEqDiff, Int.reduceToNat, Int.reduceEq, Int.reduceLT, Int.reduceLE, Int.reduceAdd, Int.reduceSub, zg, zI, zJ, zR, zst, zkl, zn, zcat, zok, zraw, List.length_cons, List.length_nil, Option.toList, List.nil_append, List.cons_append, true_and, and_true, if_true, if_false, ne_eq, not_true, not_false_eq_true, and_self, true_or, or_true, false_or, or_false, false_and, and_false, b_9 hc, r_9_0 hc, x_10 hc, r_9_1 hc, x_11 hc, eJoin, hd0, c2a, c2b, c3, j1, j2, j3, Int.toNat_natCast, w32_m1, w32_s1, Nat.add_sub_cancel, i3, q4]
                  exact kk _ _ _ _ true 1 _ rfl hrun (hm2 _) (hf2 _)
                · have q5 : ¬ p < 10 := by omega
                  simp (disch := omega) only [x22_0, x22_1, x22_2, x22_5, x22_7, x22_8, x22_9, x22_11, x22_12, x22_14, x22_15, x22_19, x22_20, x22_23, x22_24, x22_26, x22_27, x22_29, x22_30, x22_32, x22_33, x22_35, x22_36, x22_38, x22_39, x22_41, x22_43, x22_44, x22_47, x22_49, x22_51, x22_54, x22_56, x22_58, x22_61, x22_62, x22_63, x22_64, x22_67, x22_69, x22_71, x22_72, x22_75, x22_77, x22_80, x22_81, x22_84, x22_86, x22_87, x22_88, x22_91, x22_94, x22_96, x22_98, x22_101, x22_103, x22_104, x22_107, x22_108, x22_109, x22_110, x22_113, x22_115, x22_116, x22_117, x22_118, x22_119, x22_122, x22_124, x22_125, x22_126, x22_127, x22_128, x22_129, x22_132, x22_134, x22_135, x22_138, x22_139, x22_140, x22_143, x22_144, x22_147, x22_149, x22_150, x22_152, x22_154, x22_157, x22_159, x22_161, x22_164, x22_166, x22_169, x22_170, x22_173, x22_174, x22_176, x22_177, x22_180, x22_182, x22_183, x22_184, x22_186, x22_187, x22_190, x22_192, x22_193, x22_194, x22_195, x22_197, x22_200, x22_201, x22_203, x22_206, x22_208, x22_210, x22_213, x22_215, x22_217, x22_220, x22_221, x22_224, x22_226, x22_227, x22_228, x22_229, x22_230, x22_231, x22_233, x22_236, x22_239, x22_241, x22_244, x22_245, x22_248, x22_249, x22_252, x22_253, x22_254, ↓reduceIte, Bool.false_eq_true, Nat.reduceAdd, Nat.reduceLT, Nat.reduceLeDiff, Nat.reduceSub, Nat.reduceEqDiff, Int.reduceToNat, Int.reduceEq, Int.reduceLT, Int.reduceLE, Int.reduceAdd, Int.reduceSub, zg, zI, zJ, zR, zst, zkl, zn, zcat, zok, zraw, List.length_cons, List.length_nil, Option.toList, List.nil_append, List.cons_append, true_and, and_true, if_true, if_false, ne_eq, not_true, not_false_eq_true, and_self, true_or, or_true, false_or, or_false, false_and, and_false, b_9 hc, r_9_0 hc, x_10 hc, r_9_1 hc, x_11 hc, eJoin, hd0, c2a, c2b, c3, j1, j2, j3, Int.toNat_natCast, w32_m1, w32_s1, Nat.add_sub_cancel, i3, q4, q5]
                  exact kk _ _ _ _ true 1 _ rfl hrun (hm2 _) (hf2 _)
              | false =>
                simp only [Bool.false_or] at hrun
                by_cases h9 : p = 9
                · by_cases hf0 : f = 0
                  · subst h9; subst hf0
                    simp only [and_self, decide_true] at hrun
                    simp (disch := omega) only [x22_0, x22_1, x22_2, x22_5, x22_7, x22_8, x22_9, x22_11, x22_12, x22_14, x22_15, x22_19, x22_20, x22_23, x22_24, x22_26, x22_27, x22_29, x22_30, x22_32, x22_33, x22_35, x22_36, x22_38, x22_39, x22_41, x22_43, x22_44, x22_47, x22_49, x22_51, x22_54, x22_56, x22_58, x22_61, x22_62, x22_63, x22_64, x22_67, x22_69, x22_71, x22_72, x22_75, x22_77, x22_80, x22_81, x22_84, x22_86, x22_87, x22_88, x22_91, x22_94, x22_96, x22_98, x22_101, x22_103, x22_104, x22_107, x22_108, x22_109, x22_110, x22_113, x22_115, x22_116, x22_117, x22_118, x22_119, x22_122, x22_124, x22_125, x22_126, x22_127, x22_128, x22_129, x22_132, x22_134, x22_135, x22_138, x22_139, x22_140, x22_143, x22_144, x22_147, x22_149, x22_150, x22_152, x22_154, x22_157, x22_159, x22_161, x22_164, x22_166, x22_169, x22_170, x22_173, x22_174, x22_176, x22_177, x22_180, x22_182, x22_183, x22_184, x22_186, x22_187, x22_190, x22_192, x22_193, x22_194, x22_195, x22_197, x22_200, x22_201, x22_203, x22_206, x22_208, x22_210, x22_213, x22_215, x22_217, x22_220, x22_221, x22_224, x22_226, x22_227, x22_228, x22_229, x22_230, x22_231, x22_233, x22_236, x22_239, x22_241, x22_244, x22_245, x22_248, x22_249, x22_252, x22_253, x22_254, ↓reduceIte, Bool.false_eq_true, Nat.reduceAdd, Nat.reduceLT, Nat.reduceLeDiff, Nat.reduceSub, Nat.reduceEqDiff, Int.reduceToNat, Int.reduceEq, Int.reduceLT, Int.reduceLE, Int.reduceAdd, Int.reduceSub, zg, zI, zJ, zR, zst, zkl, zn, zcat, zok, zraw, List.length_cons, List.length_nil, Option.toList, List.nil_append, List.cons_append, true_and, and_true, if_true, if_false, ne_eq, not_true, not_false_eq_true, and_self, true_or, or_true, false_or, or_false, false_and, and_false, b_9 hc, r_9_0 hc, x_10 hc, r_9_1 hc, x_11 hc, eJoin, hd0, c2a, c2b, c3, j1, j2, j3, Int.toNat_natCast, w32_m1, w32_s1, Nat.add_sub_cancel, i3]
                    exact kk _ _ _ _ true 1 _ rfl hrun (hm2 _) (hf2 _)
                  · subst h9
                    simp only [hf0, and_false, decide_false] at hrun
                    simp (disch := omega) only [x22_0, x22_1, x22_2, x22_5, x22_7, x22_8, x22_9, x22_11, x22_12, x22_14, x22_15, x22_19, x22_20, x22_23, x22_24, x22_26, x22_27, x22_29, x22_30, x22_32, x22_33, x22_35, x22_36, x22_38, x22_39, x22_41, x22_43, x22_44, x22_47, x22_49, x22_51, x22_54, x22_56, x22_58, x22_61, x22_62, x22_63, x22_64, x22_67, x22_69, x22_71, x22_72, x22_75, x22_77, x22_80, x22_81, x22_84, x22_86, x22_87, x22_88, x22_91, x22_94, x22_96, x22_98, x22_101, x22_103, x22_104, x22_107, x22_108, x22_109, x22_110, x22_113, x22_115, x22_116, x22_117, x22_118, x22_119, x22_122, x22_124, x22_125, x22_126, x22_127, x22_128, x22_129, x22_132, x22_134, x22_135, x22_138, x22_139, x22_140, x22_143, x22_144, x22_147, x22_149, x22_150, x22_152, x22_154, x22_157, x22_159, x22_161, x22_164, x22_166, x22_169, x22_170, x22_173, x22_174, x22_176, x22_177, x22_180, x22_182, x22_183, x22_184, x22_186, x22_187, x22_190, x22_192, x22_193, x22_194, x22_195, x22_197, x22_200, x22_201, x22_203, x22_206, x22_208, x22_210, x22_213, x22_215, x22_217, x22_220, x22_221, x22_224, x22_226, x22_227, x22_228, x22_229, x22_230, x22_231, x22_233, x22_236, x22_239, x22_241, x22_244, x22_245, x22_248, x22_249, x22_252, x22_253, x22_254, ↓reduceIte, Bool.false_eq_true, Nat.reduceAdd, Nat.reduceLT, Nat.reduceLeDiff, Nat.reduceSub, Nat.reduceEqDiff, Int.reduceToNat, Int.reduceEq, Int.reduceLT, Int.reduceLE, Int.reduceAdd, Int.reduceSub, zg, zI, zJ, zR, zst, zkl, zn, zcat, zok, zraw, List.length_cons, List.length_nil, Option.toList, List.nil_append, List.cons_append, true_and, and_true, if_true, if_false, ne_eq, not_true, not_false_eq_true, and_self, true_or, or_true, false_or, or_false, false_and, and_false, b_9 hc, r_9_0 hc, x_10 hc, r_9_1 hc, x_11 hc, eJoin, hd0, c2a, c2b, c3, j1, j2, j3, Int.toNat_natCast, w32_m1, w32_s1, Nat.add_sub_cancel, i3, hf0]
                    exact kk _ _ _ _ false 0 _ rfl hrun (hm2 _) (hf2 _)
                · simp only [h9, false_and, decide_false] at hrun
                  simp (disch := omega) only [x22_0, x22_1, x22_2, x22_5, x22_7, x22_8, x22_9, x22_11, x22_12, x22_14, x22_15, x22_19, x22_20, x22_23, x22_24, x22_26, x22_27, x22_29, x22_30, x22_32, x22_33, x22_35, x22_36, x22_38, x22_39, x22_41, x22_43, x22_44, x22_47, x22_49, x22_51, x22_54, x22_56, x22_58, x22_61, x22_62, x22_63, x22_64, x22_67, x22_69, x22_71, x22_72, x22_75, x22_77, x22_80, x22_81, x22_84, x22_86, x22_87, x22_88, x22_91, x22_94, x22_96, x22_98, x22_101, x22_103, x22_104, x22_107, x22_108, x22_109, x22_110, x22_113, x22_115, x22_116, x22_117, x22_118, x22_119, x22_122, x22_124, x22_125, x22_126, x22_127, x22_128, x22_129, x22_132, x22_134, x22_135, x22_138, x22_139, x22_140, x22_143, x22_144, x22_147, x22_149, x22_150, x22_152, x22_154, x22_157, x22_159, x22_161, x22_164, x22_166, x22_169, x22_170, x22_173, x22_174, x22_176, x22_177, x22_180, x22_182, x22_183, x22_184, x22_186, x22_187, x22_190, x22_192, x22_193, x22_194, x22_195, x22_197, x22_200, x22_201, x22_203, x22_206, x22_208, x22_210, x22_213, x22_215, x22_217, x22_220, x22_221, x22_224, x22_226, x22_227, x22_228, x22_229, x22_230, x22_231, x22_233, x22_236, x22_239, x22_241, x22_244, x22_245, x22_248, x22_249, x22_252, x22_253, x22_254, ↓reduceIte, Bool.false_eq_true, Nat.reduceAdd, Nat.reduceLT, Nat.reduceLeDiff, Nat.reduceSub, Nat.reduceEqDiff, Int.reduceToNat, Int.reduceEq, Int.reduceLT, Int.reduceLE, Int.reduceAdd, Int.reduceSub, zg, zI, zJ, zR, zst, zkl, zn, zcat, zok, zraw, List.length_cons, List.length_nil, Option.toList, List.nil_append, List.cons_append, true_and, and_true, if_true, if_false, ne_eq, not_true, not_false_eq_true, and_self, true_or, or_true, false_or, or_false, false_and, and_false, b_9 hc, r_9_0 hc, x_10 hc, r_9_1 hc, x_11 hc, eJoin, hd0, c2a, c2b, c3, j1, j2, j3, Int.toNat_natCast, w32_m1, w32_s1, Nat.add_sub_cancel, i3, h9]
                  exact kk _ _ _ _ false 0 _ rfl hrun (hm2 _) (hf2 _)
    · rintro L μ1 ⟨s, bad, x8, x9, x10, rfl, hrun, hst, hfr, hsl⟩
      rw [List.drop_length] at hrun
      simp only [crun, Option.some.injEq, Prod.mk.injEq] at hrun
      obtain ⟨rfl, rfl⟩ := hrun
      have i2 : b ≤ a + ((cs.length : Nat) : Int) := by omega
      have j2 : μ1 11 0 = x := hst.1
      rw [x22_17]
      cases bad
      · simp (disch := omega) only [x22_0, x22_1, x22_2, x22_5, x22_7, x22_8, x22_9, x22_11, x22_12, x22_14, x22_15, x22_19, x22_20, x22_23, x22_24, x22_26, x22_27, x22_29, x22_30, x22_32, x22_33, x22_35, x22_36, x22_38, x22_39, x22_41, x22_43, x22_44, x22_47, x22_49, x22_51, x22_54, x22_56, x22_58, x22_61, x22_62, x22_63, x22_64, x22_67, x22_69, x22_71, x22_72, x22_75, x22_77, x22_80, x22_81, x22_84, x22_86, x22_87, x22_88, x22_91, x22_94, x22_96, x22_98, x22_101, x22_103, x22_104, x22_107, x22_108, x22_109, x22_110, x22_113, x22_115, x22_116, x22_117, x22_118, x22_119, x22_122, x22_124, x22_125, x22_126, x22_127, x22_128, x22_129, x22_132, x22_134, x22_135, x22_138, x22_139, x22_140, x22_143, x22_144, x22_147, x22_149, x22_150, x22_152, x22_154, x22_157, x22_159, x22_161, x22_164, x22_166, x22_169, x22_170, x22_173, x22_174, x22_176, x22_177, x22_180, x22_182, x22_183, x22_184, x22_186, x22_187, x22_190, x22_192, x22_193, x22_194, x22_195, x22_197, x22_200, x22_201, x22_203, x22_206, x22_208, x22_210, x22_213, x22_215, x22_217, x22_220, x22_221, x22_224, x22_226, x22_227, x22_228, x22_229, x22_230, x22_231, x22_233, x22_236, x22_239, x22_241, x22_244, x22_245, x22_248, x22_249, x22_252, x22_253, x22_254, ↓reduceIte, Bool.false_eq_true, Nat.reduceAdd, Nat.reduceLT, Nat.reduceLeDiff, Nat.reduceSub, Nat.reduceEqDiff, Int.reduceToNat, Int.reduceEq, Int.reduceLT, Int.reduceLE, Int.reduceAdd, Int.reduceSub, zg, zI, zJ, zR, zst, zkl, zn, zcat, zok, zraw, List.length_cons, List.length_nil, Option.toList, List.nil_append, List.cons_append, true_and, and_true, if_true, if_false, ne_eq, not_true, not_false_eq_true, and_self, true_or, or_true, false_or, or_false, false_and, and_false, b_9 hc, r_9_0 hc, x_10 hc, r_9_1 hc, x_11 hc, i2, j2, Int.toNat_zero]
        simpa using hQ μ1 hfr
      · simp (disch := omega) only [x22_0, x22_1, x22_2, x22_5, x22_7, x22_8, x22_9, x22_11, x22_12, x22_14, x22_15, x22_19, x22_20, x22_23, x22_24, x22_26, x22_27, x22_29, x22_30, x22_32, x22_33, x22_35, x22_36, x22_38, x22_39, x22_41, x22_43, x22_44, x22_47, x22_49, x22_51, x22_54, x22_56, x22_58, x22_61, x22_62, x22_63, x22_64, x22_67, x22_69, x22_71, x22_72, x22_75, x22_77, x22_80, x22_81, x22_84, x22_86, x22_87, x22_88, x22_91, x22_94, x22_96, x22_98, x22_101, x22_103, x22_104, x22_107, x22_108, x22_109, x22_110, x22_113, x22_115, x22_116, x22_117, x22_118, x22_119, x22_122, x22_124, x22_125, x22_126, x22_127, x22_128, x22_129, x22_132, x22_134, x22_135, x22_138, x22_139, x22_140, x22_143, x22_144, x22_147, x22_149, x22_150, x22_152, x22_154, x22_157, x22_159, x22_161, x22_164, x22_166, x22_169, x22_170, x22_173, x22_174, x22_176, x22_177, x22_180, x22_182, x22_183, x22_184, x22_186, x22_187, x22_190, x22_192, x22_193, x22_194, x22_195, x22_197, x22_200, x22_201, x22_203, x22_206, x22_208, x22_210, x22_213, x22_215, x22_217, x22_220, x22_221, x22_224, x22_226, x22_227, x22_228, x22_229, x22_230, x22_231, x22_233, x22_236, x22_239, x22_241, x22_244, x22_245, x22_248, x22_249, x22_252, x22_253, x22_254, ↓reduceIte, Bool.false_eq_true, Nat.reduceAdd, Nat.reduceLT, Nat.reduceLeDiff, Nat.reduceSub, Nat.reduceEqDiff, Int.reduceToNat, Int.reduceEq, Int.reduceLT, Int.reduceLE, Int.reduceAdd, Int.reduceSub, zg, zI, zJ, zR, zst, zkl, zn, zcat, zok, zraw, List.length_cons, List.length_nil, Option.toList, List.nil_append, List.cons_append, true_and, and_true, if_true, if_false, ne_eq, not_true, not_false_eq_true, and_self, true_or, or_true, false_or, or_false, false_and, and_false, b_9 hc, r_9_0 hc, x_10 hc, r_9_1 hc, x_11 hc, i2, j2, Int.toNat_zero]
        simpa using hQ μ1 hfr
  have := key 0 _ μ (by omega) ⟨[], false, x8, x9, x10, rfl, hr, trivial, Fr.refl, by simp⟩
  simpa using this
end MW
