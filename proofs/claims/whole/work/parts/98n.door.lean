/-! THE REFERENCE reads: a DOOR's NAME against those before -/
theorem getD_l {α : Type} {l : List α} {x y : α} {k : Nat} (h : k < l.length) : (l ++ [x]).getD k y = l.getD k y := by
  rw [List.getD_eq_getElem?_getD, List.getD_eq_getElem?_getD, List.getElem?_append_left h]
theorem getD_r {α : Type} {l : List α} {x y : α} : (l ++ [x]).getD l.length y = x := by
  rw [List.getD_eq_getElem?_getD, List.getElem?_append_right (Nat.le_refl _)]; simp
section DN
variable {θ : zS} {Q : Option zV → zS → zM → Prop} {μ μ0 : zM} {K : Nat → Nat} {V W st : Nat → Int} {Z b : Nat} {π : zP} {p cB lB : Nat}
/-- the later FAULTS behind the first i NAMES -/
def twK (W : Nat → Int) (D : List (Nat × Int × Int × Int)) (F : Option (Nat × Nat)) (n i : Nat) : Option (Nat × Nat) := if (D.take i).any (fun d => decide (W d.1 = W n)) = true then ltO F 3 n else F
theorem twK_s {D : List (Nat × Int × Int × Int)} {F : Option (Nat × Nat)} {n i : Nat} (hi : i < D.length) : twK W D F n (i + 1) = if W (D[i]).1 = W n then ltO (twK W D F n i) 3 n else twK W D F n i := by
  unfold twK
  rw [List.take_succ_eq_append_getElem hi, List.any_append]
  cases h : (D.take i).any (fun d => decide (W d.1 = W n)) with
  | true =>
    by_cases h2 : W (D[i]).1 = W n
    · simp [h2, ltO_ltO]
    · simp [h2]
  | false =>
    by_cases h2 : W (D[i]).1 = W n
    · simp [h2]
    · simp [h2]
theorem mNames {d n : Nat} {r : Int} (hm : Tm θ) (hd : 1 ≤ d) (hT0 : TR K V W st Z μ0) (hn : n ≤ Z) (hst : ∀ i j, i < j → j ≤ Z → st i < st j) (kn : K n = 3) (h13 : μ0 138 13 = 0) (h20 : μ0 138 20 = ((pD π).length : Nat)) (h6 : (pD π).length ≤ 6)
    (hnm : ∀ i (h : i < (pD π).length), μ0 146 i = W ((pD π)[i]).1) (hL : LR (pF π) st μ0) (hF : ∀ y, pF π = some y → (y.1 = 3 ∨ y.1 = 5) ∧ y.2 < n)
    (hQ : ∀ μ' y3, Fr [138] μ0 μ' → (∀ j, j ≠ 15 → j ≠ 16 → μ' 138 j = μ0 138 j) → LR (if twO W π n = true then ltO (pF π) 3 n else pF π) st μ' → Ex d 185 77 [vr 138, vi r, vi (n : Nat), y3] [] θ μ' Q) : Ex d 185 34 [vr 138, vi r, vi (n : Nat), vi 0] [] θ μ0 Q := by
  have hd0 : 0 < d := by omega
  have hz := hT0.1.1
  have e144 : ∀ {μ' : zM}, Fr [138] μ0 μ' → μ' 144 n = W n := fun f => by rw [f 144 (by decide)]; exact (hT0.2.2.2 n hn).2.2.2 kn
  have n1 : (0 : Int) ≤ (n : Int) := by omega
  have n2 : (n : Int) < 403 := by omega
  have hFx : ∀ i x, twK W (pD π) (pF π) n i = some x → 0 < x.1 ∧ (st x.2 < st n ∨ x = (3, n)) := fun i x hx => by
    unfold twK at hx
    by_cases c : ((pD π).take i).any (fun d => decide (W d.1 = W n)) = true
    · rw [if_pos c] at hx
      cases hp : pF π with
      | none =>
        rw [hp] at hx
        have : x = (3, n) := by simpa [ltO] using hx.symm
        rw [this]; exact ⟨by simp, Or.inr rfl⟩
      | some y =>
        rw [hp] at hx
        have e : y = x := by simpa [ltO] using hx
        subst e
        have := hF y hp
        exact ⟨by omega, Or.inl (hst _ _ this.2 hn)⟩
    · rw [if_neg c] at hx
      have := hF x hx
      exact ⟨by omega, Or.inl (hst _ _ this.2 hn)⟩
  have key : ∀ t L μ1, t ≤ (pD π).length → (L = [vr 138, vi r, vi (n : Nat), vi (t : Nat)] ∧ Fr [138] μ0 μ1 ∧ (∀ j, j ≠ 15 → j ≠ 16 → μ1 138 j = μ0 138 j) ∧ LR (twK W (pD π) (pF π) n t) st μ1) → Ex d 185 34 L [] θ μ1 Q := by
    refine Ex_loop (I := fun t L μ1 => L = [vr 138, vi r, vi (n : Nat), vi (t : Nat)] ∧ Fr [138] μ0 μ1 ∧ (∀ j, j ≠ 15 → j ≠ 16 → μ1 138 j = μ0 138 j) ∧ LR (twK W (pD π) (pF π) n t) st μ1) (pD π).length ?_ ?_
    · rintro t L μ1 ht ⟨rfl, f, j, hLt⟩ hc
      have i1 : (0 : Int) ≤ (t : Int) := by omega
      have i2 : (t : Int) < 6 := by omega
      have c1 : ¬ (((pD π).length : Nat) : Int) ≤ (t : Int) := by omega
      have w1 : t < 2147483647 := by omega
      have k20 : μ1 138 20 = ((pD π).length : Nat) := by rw [j 20 (by decide) (by decide)]; exact h20
      have k13 : μ1 138 13 = 0 := by rw [j 13 (by decide) (by decide)]; exact h13
      have k146 : μ1 146 t = W ((pD π)[t]).1 := by rw [f 146 (by decide)]; exact hnm t ht
      have k144 := e144 f
      have hs := twK_s (W := W) (D := pD π) (F := pF π) (n := n) ht
      rw [x185_34]
      by_cases e : W ((pD π)[t]).1 = W n
      · rw [if_pos e] at hs
        simp only [x185_0, x185_2, x185_3, x185_6, x185_7, x185_8, x185_11, x185_12, x185_15, x185_16, x185_17, x185_18, x185_19, x185_22, x185_23, x185_26, x185_27, x185_28, x185_29, x185_32, x185_33, x185_35, x185_36, x185_39, x185_42, x185_43, x185_46, x185_49, x185_50, x185_53, x185_54, x185_55, x185_56, x185_59, x185_60, x185_61, x185_62, x185_65, x185_66, x185_67, x185_68, x185_74, x185_78, x185_81, x185_82, x185_83, x185_84, x185_85, x185_88, x185_89, x185_90, x185_93, x185_94, x185_95, x185_96, x185_98, x185_101, x185_102, x185_103, x185_106, x185_107, x185_108, x185_110, x185_113, x185_114, x185_115, x185_118, x185_121, x185_122, x185_124, x185_127, x185_130, x185_131, x185_134, x185_135, x185_136, x185_139, x185_140, x185_143, x185_146, x185_147, x185_148, x185_151, x185_152, x185_155, x185_156, x185_159, x185_160, x185_161, x185_162, x185_163, x185_164, x185_167, x185_168, x185_169, x185_172, x185_173, x185_176, x185_177, x185_180, x185_181, x185_182, x185_183, x185_184, x185_185, ↓reduceIte, Bool.false_eq_true, Nat.reduceAdd, Nat.reduceLT, Nat.reduceLeDiff, Nat.reduceSub, Nat.reduceEqDiff, Int.reduceToNat, Int.reduceEq, Int.reduceLT, Int.reduceLE, Int.reduceAdd, Int.reduceSub, zg, zI, zJ, zR, zst, zkl, zn, zcat, zok, zraw, List.length_cons, List.length_nil, Option.toList, List.nil_append, List.cons_append, true_and, and_true, if_true, if_false, ne_eq, not_true, not_false_eq_true, and_self, true_or, or_true, false_or, or_false, false_and, and_false, b_138 hm, r_138_21 hm, r_138_8 hm, x_146 hm i1 i2, x_144 hm n1 n2, k20, c1, k13, Int.toNat_natCast, k146, k144, zlc_e e, hd0]
        refine mWrong (d := d - 1) (k := 3) hm (TR_fr hT0 f (by decide) (by decide) (by decide) (by decide)) hn k13 hLt (hFx t) (fun μ2 f2 j2 hL2 => ?_)
        simp only [x185_0, x185_2, x185_3, x185_6, x185_7, x185_8, x185_11, x185_12, x185_15, x185_16, x185_17, x185_18, x185_19, x185_22, x185_23, x185_26, x185_27, x185_28, x185_29, x185_32, x185_33, x185_35, x185_36, x185_39, x185_42, x185_43, x185_46, x185_49, x185_50, x185_53, x185_54, x185_55, x185_56, x185_59, x185_60, x185_61, x185_62, x185_65, x185_66, x185_67, x185_68, x185_71, x185_74, x185_78, x185_81, x185_82, x185_83, x185_84, x185_85, x185_88, x185_89, x185_90, x185_93, x185_94, x185_95, x185_96, x185_98, x185_101, x185_102, x185_103, x185_106, x185_107, x185_108, x185_110, x185_113, x185_114, x185_115, x185_118, x185_121, x185_122, x185_124, x185_127, x185_130, x185_131, x185_134, x185_135, x185_136, x185_139, x185_140, x185_143, x185_146, x185_147, x185_148, x185_151, x185_152, x185_155, x185_156, x185_159, x185_160, x185_161, x185_162, x185_163, x185_164, x185_167, x185_168, x185_169, x185_172, x185_173, x185_176, x185_177, x185_180, x185_181, x185_182, x185_183, x185_184, x185_185, ↓reduceIte, Bool.false_eq_true, Nat.reduceAdd, Nat.reduceLT, Nat.reduceLeDiff, Nat.reduceSub, Nat.reduceEqDiff, Int.reduceToNat, Int.reduceEq, Int.reduceLT, Int.reduceLE, Int.reduceAdd, Int.reduceSub, zg, zI, zJ, zR, zst, zkl, zn, zcat, zok, zraw, List.length_cons, List.length_nil, Option.toList, List.nil_append, List.cons_append, true_and, and_true, if_true, if_false, ne_eq, not_true, not_false_eq_true, and_self, true_or, or_true, false_or, or_false, false_and, and_false, w32_s w1]
        exact hc _ _ ⟨rfl, f.trans f2, fun q q1 q2 => by rw [j2 q q1 q2]; exact j q q1 q2, by rw [hs]; exact hL2⟩
      · rw [if_neg e] at hs
        simp only [x185_0, x185_2, x185_3, x185_6, x185_7, x185_8, x185_11, x185_12, x185_15, x185_16, x185_17, x185_18, x185_19, x185_22, x185_23, x185_26, x185_27, x185_28, x185_29, x185_32, x185_33, x185_35, x185_36, x185_39, x185_42, x185_43, x185_46, x185_49, x185_50, x185_53, x185_54, x185_55, x185_56, x185_59, x185_60, x185_61, x185_62, x185_65, x185_66, x185_67, x185_68, x185_71, x185_74, x185_78, x185_81, x185_82, x185_83, x185_84, x185_85, x185_88, x185_89, x185_90, x185_93, x185_94, x185_95, x185_96, x185_98, x185_101, x185_102, x185_103, x185_106, x185_107, x185_108, x185_110, x185_113, x185_114, x185_115, x185_118, x185_121, x185_122, x185_124, x185_127, x185_130, x185_131, x185_134, x185_135, x185_136, x185_139, x185_140, x185_143, x185_146, x185_147, x185_148, x185_151, x185_152, x185_155, x185_156, x185_159, x185_160, x185_161, x185_162, x185_163, x185_164, x185_167, x185_168, x185_169, x185_172, x185_173, x185_176, x185_177, x185_180, x185_181, x185_182, x185_183, x185_184, x185_185, ↓reduceIte, Bool.false_eq_true, Nat.reduceAdd, Nat.reduceLT, Nat.reduceLeDiff, Nat.reduceSub, Nat.reduceEqDiff, Int.reduceToNat, Int.reduceEq, Int.reduceLT, Int.reduceLE, Int.reduceAdd, Int.reduceSub, zg, zI, zJ, zR, zst, zkl, zn, zcat, zok, zraw, List.length_cons, List.length_nil, Option.toList, List.nil_append, List.cons_append, true_and, and_true, if_true, if_false, ne_eq, not_true, not_false_eq_true, and_self, true_or, or_true, false_or, or_false, false_and, and_false, b_138 hm, r_138_21 hm, r_138_8 hm, x_146 hm i1 i2, x_144 hm n1 n2, k20, c1, k13, Int.toNat_natCast, k146, k144, zlc_n e, w32_s w1]
        exact hc _ _ ⟨rfl, f, j, by rw [hs]; exact hLt⟩
    · rintro L μ1 ⟨rfl, f, j, hLt⟩
      have k20 : μ1 138 20 = ((pD π).length : Nat) := by rw [j 20 (by decide) (by decide)]; exact h20
      have e : twK W (pD π) (pF π) n (pD π).length = if twO W π n = true then ltO (pF π) 3 n else pF π := by unfold twK twO; rw [List.take_length]
      rw [x185_34]
      simp only [x185_0, x185_2, x185_3, x185_6, x185_7, x185_8, x185_11, x185_12, x185_15, x185_16, x185_17, x185_18, x185_19, x185_22, x185_23, x185_26, x185_27, x185_28, x185_29, x185_32, x185_33, x185_35, x185_36, x185_39, x185_42, x185_43, x185_46, x185_49, x185_50, x185_53, x185_54, x185_55, x185_56, x185_59, x185_60, x185_61, x185_62, x185_65, x185_66, x185_67, x185_68, x185_71, x185_74, x185_78, x185_81, x185_82, x185_83, x185_84, x185_85, x185_88, x185_89, x185_90, x185_93, x185_94, x185_95, x185_96, x185_98, x185_101, x185_102, x185_103, x185_106, x185_107, x185_108, x185_110, x185_113, x185_114, x185_115, x185_118, x185_121, x185_122, x185_124, x185_127, x185_130, x185_131, x185_134, x185_135, x185_136, x185_139, x185_140, x185_143, x185_146, x185_147, x185_148, x185_151, x185_152, x185_155, x185_156, x185_159, x185_160, x185_161, x185_162, x185_163, x185_164, x185_167, x185_168, x185_169, x185_172, x185_173, x185_176, x185_177, x185_180, x185_181, x185_182, x185_183, x185_184, x185_185, ↓reduceIte, Bool.false_eq_true, Nat.reduceAdd, Nat.reduceLT, Nat.reduceLeDiff, Nat.reduceSub, Nat.reduceEqDiff, Int.reduceToNat, Int.reduceEq, Int.reduceLT, Int.reduceLE, Int.reduceAdd, Int.reduceSub, zg, zI, zJ, zR, zst, zkl, zn, zcat, zok, zraw, List.length_cons, List.length_nil, Option.toList, List.nil_append, List.cons_append, true_and, and_true, if_true, if_false, ne_eq, not_true, not_false_eq_true, and_self, true_or, or_true, false_or, or_false, false_and, and_false, b_138 hm, k20, Int.le_refl]
      exact hQ μ1 _ f j (by rw [← e]; exact hLt)
  refine key 0 _ _ (Nat.zero_le _) ⟨rfl, Fr.refl, fun _ _ _ => rfl, ?_⟩
  have : twK W (pD π) (pF π) n 0 = pF π := by unfold twK; simp
  rw [this]; exact hL
theorem PT_door {n q : Nat} {s z o : Int} {F' : Option (Nat × Nat)} {μ' : zM} (h : PTm W st b π p cB lB μ) (hpq : p ≤ q) (h6 : (pD π).length < 6)
    (e : ∀ a, (147 ≤ a ∧ a ≤ 156) ∨ (161 ≤ a ∧ a ≤ 168) → μ' a = μ a) (e146 : μ' 146 = zup (μ 146) (pD π).length (W n)) (e157 : μ' 157 = zup (μ 157) b (((pD π).length + 1 : Nat) : Int))
    (e158 : μ' 158 = zup (μ 158) (6 * b + (pD π).length) s) (e159 : μ' 159 = zup (μ 159) (6 * b + (pD π).length) z) (e160 : μ' 160 = zup (μ 160) (6 * b + (pD π).length) o)
    (j : ∀ j, j ≠ 11 → j ≠ 15 → j ≠ 16 → j ≠ 20 → μ' 138 j = μ 138 j) (h20 : μ' 138 20 = (((pD π).length + 1 : Nat) : Int)) (hL : LR F' st μ') (h11 : μ' 138 11 = (q : Nat)) : PTm W st b (upD (upF π F') (n, s, z, o)) q cB lB μ' := by
  obtain ⟨⟨hM, hB⟩, ⟨g43, g36⟩, hbd, ⟨hn20, hnm⟩, _, h19, g11, g12, h13⟩ := h
  obtain ⟨hA, hD, hLw, hR⟩ := TM_iff.mp hM
  have eD : pD (upD (upF π F') (n, s, z, o)) = pD π ++ [(n, s, z, o)] := rfl
  refine ⟨⟨TM_iff.mpr ⟨?_, ⟨?_, fun k hk => ?_⟩, ?_, ?_⟩, ?_⟩, ⟨by rw [j 43 (by decide) (by decide) (by decide) (by decide)]; exact g43, by rw [j 36 (by decide) (by decide) (by decide) (by decide)]; exact g36⟩, ⟨⟨hbd.1.1, by omega⟩, hbd.2.1, by omega⟩, ⟨?_, fun i hi => ?_⟩, hL, by rw [j 19 (by decide) (by decide) (by decide) (by decide)]; exact h19, h11, by rw [j 12 (by decide) (by decide) (by decide) (by decide)]; exact g12, by rw [j 13 (by decide) (by decide) (by decide) (by decide)]; exact h13⟩
  · unfold TMA; rw [e 147 (by omega), e 148 (by omega), e 149 (by omega), e 150 (by omega)]; exact hA
  · rw [e157, zup_same rfl]
    show _ = (((pD π ++ [(n, s, z, o)]).length : Nat) : Int)
    simp
  · have hk' : k < (pD π ++ [(n, s, z, o)]).length := hk
    show μ' 158 (6 * b + k) = ((pD π ++ [(n, s, z, o)]).getD k (0, 0, 0, 0)).2.1 ∧ μ' 159 (6 * b + k) = ((pD π ++ [(n, s, z, o)]).getD k (0, 0, 0, 0)).2.2.1 ∧ μ' 160 (6 * b + k) = ((pD π ++ [(n, s, z, o)]).getD k (0, 0, 0, 0)).2.2.2
    rw [e158, e159, e160]
    by_cases hk2 : k < (pD π).length
    · rw [getD_l hk2, zup_ne (by omega), zup_ne (by omega), zup_ne (by omega)]
      exact hD.2 k hk2
    · have ek : k = (pD π).length := by simp at hk'; omega
      subst ek
      rw [getD_r, zup_same rfl, zup_same rfl, zup_same rfl]
      exact ⟨rfl, rfl, rfl⟩
  · intro k hk
    exact laM_ag (lo := 420 * b) (hi := cB) (hLw k hk) (hB.2.1 k hk) (fun c c1 c2 => by rw [e c (by omega)]) (fun _ _ _ => by rw [e 167 (by omega), e 168 (by omega)]; exact ⟨rfl, rfl⟩)
  · intro k hk
    refine ⟨by rw [e 151 (by omega)]; exact (hR k hk).1, fun i hi => ?_⟩
    exact ruM_ag (lo := 420 * b) (hi := cB) (l0 := 150 * b) (l1 := lB) ((hR k hk).2 i hi) (hB.2.2.1 k i hk hi) hB.2.2.2 (by rw [e 152 (by omega), e 153 (by omega)]; exact ⟨rfl, rfl⟩) (fun c q c1 c2 _ _ => by rw [e c (by omega)]) (fun _ _ _ => by rw [e 167 (by omega), e 168 (by omega)]; exact ⟨rfl, rfl⟩)
  · unfold TQb; rw [e 152 (by omega), e 153 (by omega), e 155 (by omega), e 156 (by omega), e 164 (by omega), e 166 (by omega)]; exact hB
  · rw [h20]
    show _ = (((pD π ++ [(n, s, z, o)]).length : Nat) : Int)
    simp
  · have hi' : i < (pD π ++ [(n, s, z, o)]).length := hi
    show μ' 146 i = W ((pD π ++ [(n, s, z, o)])[i]'hi').1
    rw [e146]
    by_cases hi2 : i < (pD π).length
    · rw [List.getElem_append_left hi2, zup_ne (by omega)]; exact hnm i hi2
    · have ei : i = (pD π).length := by simp at hi'; omega
      subst ei
      rw [zup_same rfl]
      simp
end DN
