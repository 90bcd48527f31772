/-! THE GALE: laws, look, hold, lift -/
theorem okC_en {B m : Nat} : ∀ (c : zC) (n : Nat), wfc B m n c → okC (enC c) := by
  intro c
  induction c with
  | nil => intro n _ q hq; cases hq
  | cons p c ih =>
    intro n hw
    obtain ⟨k, y⟩ := p
    unfold wfc at hw
    have tail : ∀ n', wfc B m n' c → ∀ q ∈ enC c, (0 ≤ q.1 ∧ q.1 ≤ 63) ∧ (0 ≤ q.2 ∧ q.2 ≤ 65535) ∧ (q.1 = 36 → q.2 ≤ 12) := fun n' h => ih n' h
    rw [enC_cons]
    intro q hq
    rcases List.mem_cons.mp hq with rfl | hq2
    · by_cases k0 : k = 0
      · subst k0; simp only [if_true] at hw; simp [enK]; omega
      · by_cases k1 : k = 1
        · subst k1; simp at hw; simp [enK]; omega
        · simp only [k0, k1, if_false] at hw
          have : k = 2 ∨ k = 3 ∨ k = 4 ∨ k = 5 := by omega
          rcases this with rfl | rfl | rfl | rfl <;> simp [enK]
    · by_cases k0 : k = 0
      · subst k0; simp only [if_true] at hw; exact tail _ hw.2.2 q hq2
      · by_cases k1 : k = 1
        · subst k1; simp at hw; exact tail _ hw.2.2 q hq2
        · simp only [k0, k1, if_false] at hw; exact tail _ hw.2.2 q hq2
theorem okC_app {a b : List (Int × Int)} (ha : okC a) (hb : okC b) : okC (a ++ b) := fun q hq => by
  rcases List.mem_append.mp hq with h | h
  · exact ha q h
  · exact hb q h
theorem okC_L {l : zL} (h : wfL l) : okC (enL l) := by
  unfold enL
  refine okC_app (okC_app (okC_en _ _ h.2.1) (okC_en _ _ h.2.2)) ?_
  intro q hq
  have := h.1
  rcases List.mem_cons.mp hq with rfl | hq
  · simp; omega
  · by_cases hn : l.2.1 = true
    · rw [if_pos hn] at hq; simp at hq; subst hq; simp
    · rw [if_neg hn] at hq; cases hq
theorem okC_one {p : Int} (h : p = 33 ∨ p = 34) : okC [(p, 0)] := by
  intro q hq; simp at hq; subst hq; rcases h with rfl | rfl <;> simp
theorem okC_R : ∀ (ls : List zL) (ao aa : Bool), (∀ l ∈ ls, wfL l) → okC (enR ls ao aa) := by
  intro ls
  induction ls with
  | nil => intro ao aa _ q hq; cases hq
  | cons l ls ih =>
    intro ao aa hw
    have hl := okC_L (hw l (by simp))
    have ht : ∀ q ∈ ls, wfL q := fun q hq => hw q (List.mem_cons_of_mem _ hq)
    have hnil : okC ([] : List (Int × Int)) := fun q hq => by cases hq
    have ha : okC (if aa = true then [((34 : Int), (0 : Int))] else []) := by
      by_cases h : aa = true
      · rw [if_pos h]; exact okC_one (Or.inr rfl)
      · rw [if_neg h]; exact hnil
    have ho : okC (if ao = true then [((33 : Int), (0 : Int))] else []) := by
      by_cases h : ao = true
      · rw [if_pos h]; exact okC_one (Or.inl rfl)
      · rw [if_neg h]; exact hnil
    unfold enR
    refine okC_app hl (okC_app ha ?_)
    cases ls with
    | nil => exact ho
    | cons l2 r =>
      simp only
      by_cases h2 : l2.1 = true
      · rw [if_pos h2]; exact okC_app ho (ih true false ht)
      · rw [if_neg h2]; exact ih ao true ht
def rnV : Option Nat → Int
  | none => -2
  | some q => (q : Int)
def gnO (τ : zT) (ρ : zF) : Nat → Int := fun t => if t < tn τ ∧ ρ.1 0 t = 0 then 1 else 0
theorem gn_z (τ : zT) (ρ : zF) : lz (gnO τ ρ) := by
  intro t; unfold gnO
  by_cases h : t < tn τ ∧ ρ.1 0 t = 0
  · rw [if_pos h]; exact Or.inr rfl
  · rw [if_neg h]; exact Or.inl rfl
def VA (τ : zT) (ρ : zF) (lost : Nat → Int) (t : Nat) (g w : Int) (μ : zM) : Prop := ∀ j, j < 13 → μ 10 j = va τ ρ lost t g w j
/-- the class as it stands, T telling -/
def CX (θ : zS) (T U : Nat) (τ : zT) (μ : zM) : Prop := Th θ T U ∧ wfT τ ∧ TCn τ T μ ∧ TCc τ T μ
def CF (τ : zT) (ρ : zF) (r : Nat) (μ : zM) : Prop := rfs r ∧ wfF τ ρ ∧ RC τ ρ r μ
theorem TCn_fr {τ : zT} {T : Nat} {μ μ' : zM} (h : ∀ k, k ≤ 13 → μ' (T + k) = μ (T + k)) (hC : TCn τ T μ) : TCn τ T μ' := by
  have h0 := h 0 (by omega)
  have h1 := h 1 (by omega); have h2 := h 2 (by omega); have h3 := h 3 (by omega)
  have h11 := h 11 (by omega); have h12 := h 12 (by omega); have h13 := h 13 (by omega)
  simp only [Nat.add_zero] at h0
  unfold TCn
  rw [h0, h1, h2, h3, h11, h12, h13]; exact hC
theorem TCc_fr {τ : zT} {T : Nat} {μ μ' : zM} (h : ∀ k, k ≤ 13 → μ' (T + k) = μ (T + k)) (hC : TCc τ T μ) : TCc τ T μ' := by
  have h0 := h 0 (by omega)
  have h5 := h 5 (by omega); have h6 := h 6 (by omega); have h7 := h 7 (by omega); have h8 := h 8 (by omega); have h9 := h 9 (by omega); have h10 := h 10 (by omega)
  simp only [Nat.add_zero] at h0
  unfold TCc
  rw [h0, h5, h6, h7, h8, h9, h10]; exact hC
theorem CX_fr {θ : zS} {T U : Nat} {τ : zT} {μ μ' : zM} {A : List Nat} (h : CX θ T U τ μ) (hf : Fr A μ μ') (hA : ∀ a ∈ A, ¬ (12 ≤ a ∧ a ≤ 39)) : CX θ T U τ μ' := by
  have hTU := h.1.2.2.2.1
  have e : ∀ k, k ≤ 13 → μ' (T + k) = μ (T + k) := fun k hk => hf _ (fun hm => hA _ hm (by omega))
  exact ⟨h.1, h.2.1, TCn_fr e h.2.2.1, TCc_fr e h.2.2.2⟩
theorem CF_fr {τ : zT} {ρ : zF} {r : Nat} {μ μ' : zM} {A : List Nat} (h : CF τ ρ r μ) (hf : Fr A μ μ') (hA : ∀ a ∈ A, a < 46 ∨ 139 ≤ a ∨ a = 54 ∨ a = 122 ∨ a = 130 ∨ a = 104 ∨ a = 105 ∨ a = 106 ∨ a = 114 ∨ a = 131) : CF τ ρ r μ' := by
  obtain ⟨hr, hw, h1, h2, h3, h4⟩ := h
  have e : ∀ k, k ≤ 6 → μ' (r + k) = μ (r + k) := fun k hk => hf _ (fun hm => by
    have := hA _ hm
    unfold rfs at hr
    omega)
  have e0 := e 0 (by omega)
  simp only [Nat.add_zero] at e0
  refine ⟨hr, hw, by rw [e0]; exact h1, ?_, by rw [e0]; exact h3, by rw [e0]; exact h4⟩
  intro m t hm ht
  rw [e (m + 2) (by omega)]; exact h2 m t hm ht
section LW
variable {θ : zS} {T U : Nat} {τ : zT} {Q : Option zV → zS → zM → Prop} {μ : zM} {ρ : zF} {lost : Nat → Int} {g w : Int}
theorem cLaw {d k : Nat} {a b u : Int} {v : Nat → Int} {x5 x6 x7 x8 x9 x10 : zV} (h : CX θ T U τ μ) (hd : 1 ≤ d) (hk : k < 4) (ha : a = μ (T + 6) k) (hb : b = μ (T + 7) k)
    (hv : (∀ j, j < 13 → μ 10 j = v j) ∨ tL τ k = none)
    (hQ : ∀ μ', Fr [11] μ μ' → Q (some (vi (says τ k v u))) θ μ') : Ex d 22 0 [vr 9, vr (T + 5), vi a, vi b, vi u, x5, x6, x7, x8, x9, x10] [] θ μ Q := by
  obtain ⟨⟨hc, hT, hU, hTU, h2T, h2U, hgT⟩, hw, hC, hCc⟩ := h
  have hl := hCc.2.1 k hk
  cases hlaw : tL τ k with
  | none =>
    rw [hlaw] at hl
    simp only at hl
    rw [← ha, ← hb] at hl
    have hn : ¬ a < b := by omega
    have hq := hQ μ Fr.refl
    unfold says at hq
    rw [hlaw] at hq
    simp only [x22_0, x22_1, x22_2, x22_5, x22_7, x22_8, x22_9, x22_11, x22_12, x22_14, x22_15, x22_19, x22_20, x22_23, x22_24, x22_26, x22_27, x22_29, x22_30, x22_32, x22_33, x22_35, x22_36, x22_38, x22_39, x22_41, x22_43, x22_44, x22_47, x22_49, x22_51, x22_54, x22_56, x22_58, x22_61, x22_62, x22_63, x22_64, x22_67, x22_69, x22_71, x22_72, x22_75, x22_77, x22_80, x22_81, x22_84, x22_86, x22_87, x22_88, x22_91, x22_94, x22_96, x22_98, x22_101, x22_103, x22_104, x22_107, x22_108, x22_109, x22_110, x22_113, x22_115, x22_116, x22_117, x22_118, x22_119, x22_122, x22_124, x22_125, x22_126, x22_127, x22_128, x22_129, x22_132, x22_134, x22_135, x22_138, x22_139, x22_140, x22_143, x22_144, x22_147, x22_149, x22_150, x22_152, x22_154, x22_157, x22_159, x22_161, x22_164, x22_166, x22_169, x22_170, x22_173, x22_174, x22_176, x22_177, x22_180, x22_182, x22_183, x22_184, x22_186, x22_187, x22_190, x22_192, x22_193, x22_194, x22_195, x22_197, x22_200, x22_201, x22_203, x22_206, x22_208, x22_210, x22_213, x22_215, x22_217, x22_220, x22_221, x22_224, x22_226, x22_227, x22_228, x22_229, x22_230, x22_231, x22_233, x22_236, x22_239, x22_241, x22_244, x22_245, x22_248, x22_249, x22_252, x22_253, x22_254, ↓reduceIte, Bool.false_eq_true, Nat.reduceAdd, Nat.reduceLT, Nat.reduceLeDiff, Nat.reduceSub, Nat.reduceEqDiff, Int.reduceToNat, Int.reduceEq, Int.reduceLT, Int.reduceLE, Int.reduceAdd, Int.reduceSub, zg, zI, zJ, zR, zst, zkl, zn, zcat, zok, zraw, List.length_cons, List.length_nil, Option.toList, List.nil_append, List.cons_append, true_and, and_true, if_true, if_false, ne_eq, not_true, not_false_eq_true, and_self, true_or, or_true, false_or, or_false, false_and, and_false, hn]
    exact hq
  | some c =>
    rw [hlaw] at hl
    simp only at hl
    rw [← ha, ← hb] at hl
    have hwc := hw.2.2.2.2.2.2.1 k c hk hlaw
    obtain ⟨x, b', h1, _, h3⟩ := crun_ev (v := v) (r := []) (by simp) hwc false
    have hv' : ∀ j, j < 13 → μ 10 j = v j := by
      rcases hv with hv | hv
      · exact hv
      · rw [hlaw] at hv; cases hv
    have hq : ∀ μ', Fr [11] μ μ' → Q (some (vi (if b' = true then 0 else x))) θ μ' := by
      intro μ' hf
      have := hQ μ' hf
      unfold says at this
      rw [hlaw] at this
      simp only at this
      rcases h3 rfl with ⟨e1, e2⟩ | ⟨e1, e2⟩
      · rw [e2] at this; rw [e1]; exact this
      · rw [e2] at this; rw [e1]; exact this
    simp only [x22_0, x22_1, x22_2, x22_5, x22_7, x22_8, x22_9, x22_11, x22_12, x22_14, x22_15, x22_19, x22_20, x22_23, x22_24, x22_26, x22_27, x22_29, x22_30, x22_32, x22_33, x22_35, x22_36, x22_38, x22_39, x22_41, x22_43, x22_44, x22_47, x22_49, x22_51, x22_54, x22_56, x22_58, x22_61, x22_62, x22_63, x22_64, x22_67, x22_69, x22_71, x22_72, x22_75, x22_77, x22_80, x22_81, x22_84, x22_86, x22_87, x22_88, x22_91, x22_94, x22_96, x22_98, x22_101, x22_103, x22_104, x22_107, x22_108, x22_109, x22_110, x22_113, x22_115, x22_116, x22_117, x22_118, x22_119, x22_122, x22_124, x22_125, x22_126, x22_127, x22_128, x22_129, x22_132, x22_134, x22_135, x22_138, x22_139, x22_140, x22_143, x22_144, x22_147, x22_149, x22_150, x22_152, x22_154, x22_157, x22_159, x22_161, x22_164, x22_166, x22_169, x22_170, x22_173, x22_174, x22_176, x22_177, x22_180, x22_182, x22_183, x22_184, x22_186, x22_187, x22_190, x22_192, x22_193, x22_194, x22_195, x22_197, x22_200, x22_201, x22_203, x22_206, x22_208, x22_210, x22_213, x22_215, x22_217, x22_220, x22_221, x22_224, x22_226, x22_227, x22_228, x22_229, x22_230, x22_231, x22_233, x22_236, x22_239, x22_241, x22_244, x22_245, x22_248, x22_249, x22_252, x22_253, x22_254, ↓reduceIte, Bool.false_eq_true, Nat.reduceAdd, Nat.reduceLT, Nat.reduceLeDiff, Nat.reduceSub, Nat.reduceEqDiff, Int.reduceToNat, Int.reduceEq, Int.reduceLT, Int.reduceLE, Int.reduceAdd, Int.reduceSub, zg, zI, zJ, zR, zst, zkl, zn, zcat, zok, zraw, List.length_cons, List.length_nil, Option.toList, List.nil_append, List.cons_append, true_and, and_true, if_true, if_false, ne_eq, not_true, not_false_eq_true, and_self, true_or, or_true, false_or, or_false, false_and, and_false, hl.1]
    exact cWorthRun hc hd (ts_5 hT) (by omega) hl.2 (okC_en _ _ hwc) hv' h1 hq
theorem cSome {d s : Nat} {x : Int} {v : Nat → Int} {x3 x4 : zV} (h : CX θ T U τ μ) (hd : 2 ≤ d) (hx : x = (s : Int)) (hs : s < 3) (hv : ∀ j, j < 13 → μ 10 j = v j)
    (hQ : ∀ μ', Fr [11] μ μ' → Q (some (vi (b2 (holds τ s v)))) θ μ') : Ex d 24 0 [vr 9, vr T, vi x, x3, x4] [] θ μ Q := by
  subst hx
  obtain ⟨hth, hw, hC, hCc⟩ := h
  obtain ⟨hc, hT, hU, hTU, h2T, h2U, hgT⟩ := hth
  have hr := hCc.2.2 s hs
  have hw8 := hw.2.2.2.2.2.2.2 s hs
  obtain ⟨rs, hrs⟩ : ∃ rs, tR τ s = rs := ⟨_, rfl⟩
  have hh : holds τ s v = rs.any (fun ls => rulv v ls false) := by unfold holds; rw [hrs]
  rw [hh] at hQ
  simp only [hrs] at hr hw8
  have key : ∀ t L μ1, t ≤ rs.length → (L = [vr 9, vr T, vi (s : Nat), vi ((6 * s : Nat) : Int), vi ((6 * s + t : Nat) : Int)] ∧ Fr [11] μ μ1 ∧ rs.any (fun ls => rulv v ls false) = (rs.drop t).any (fun ls => rulv v ls false)) → Ex d 24 8 L [] θ μ1 Q := by
    refine Ex_loop (I := fun t L μ1 => L = [vr 9, vr T, vi (s : Nat), vi ((6 * s : Nat) : Int), vi ((6 * s + t : Nat) : Int)] ∧ Fr [11] μ μ1 ∧ rs.any (fun ls => rulv v ls false) = (rs.drop t).any (fun ls => rulv v ls false)) rs.length ?_ ?_
    · rintro t L μ1 ht ⟨rfl, hf, hany⟩ hk
      have e10 : μ1 (T + 10) s = (rs.length : Nat) := by rw [hf _ (by simp; omega), hr.1]
      have hrt := hr.2 t ht
      have e5 : μ1 (T + 5) = μ (T + 5) := hf _ (by simp; omega)
      have e8 : μ1 (T + 8) = μ (T + 8) := hf _ (by simp; omega)
      have e9 : μ1 (T + 9) = μ (T + 9) := hf _ (by simp; omega)
      have i1 : ¬ (((6 * s + rs.length : Nat) : Int) ≤ ((6 * s + t : Nat) : Int)) := by omega
      have hwr := hw8.2 rs[t] (List.getElem_mem ht)
      have hcat : cAt (μ1 (T + 5)) (μ1 (T + 8) (6 * s + t)) (μ1 (T + 9) (6 * s + t)) (enR rs[t] false false) := by rw [e5, e8, e9]; exact hrt
      have hne : enR rs[t] false false ≠ [] := by
        obtain ⟨l, r, he, _⟩ := hwr.2
        rw [he]; unfold enR enL; simp
      have hlt : μ1 (T + 8) (6 * s + t) < μ1 (T + 9) (6 * s + t) := by
        have h2 := hcat.2.1
        have := List.length_pos_iff.mpr hne
        omega
      rw [x24_8]
      have hd0 : 0 < d := by omega
      simp (disch := omega) only [x24_0, x24_1, x24_3, x24_4, x24_5, x24_6, x24_10, x24_11, x24_12, x24_15, x24_16, x24_17, x24_18, x24_21, x24_22, x24_23, x24_26, x24_27, x24_30, x24_32, x24_33, x24_34, x24_37, x24_39, x24_40, x24_41, x24_47, x24_48, x24_49, x24_52, x24_55, x24_56, x22_0, x22_1, x22_2, x22_5, x22_7, x22_8, x22_9, x22_11, x22_12, x22_14, x22_15, x22_19, x22_20, x22_23, x22_24, x22_26, x22_27, x22_29, x22_30, x22_32, x22_33, x22_35, x22_36, x22_38, x22_39, x22_41, x22_43, x22_44, x22_47, x22_49, x22_51, x22_54, x22_56, x22_58, x22_61, x22_62, x22_63, x22_64, x22_67, x22_69, x22_71, x22_72, x22_75, x22_77, x22_80, x22_81, x22_84, x22_86, x22_87, x22_88, x22_91, x22_94, x22_96, x22_98, x22_101, x22_103, x22_104, x22_107, x22_108, x22_109, x22_110, x22_113, x22_115, x22_116, x22_117, x22_118, x22_119, x22_122, x22_124, x22_125, x22_126, x22_127, x22_128, x22_129, x22_132, x22_134, x22_135, x22_138, x22_139, x22_140, x22_143, x22_144, x22_147, x22_149, x22_150, x22_152, x22_154, x22_157, x22_159, x22_161, x22_164, x22_166, x22_169, x22_170, x22_173, x22_174, x22_176, x22_177, x22_180, x22_182, x22_183, x22_184, x22_186, x22_187, x22_190, x22_192, x22_193, x22_194, x22_195, x22_197, x22_200, x22_201, x22_203, x22_206, x22_208, x22_210, x22_213, x22_215, x22_217, x22_220, x22_221, x22_224, x22_226, x22_227, x22_228, x22_229, x22_230, x22_231, x22_233, x22_236, x22_239, x22_241, x22_244, x22_245, x22_248, x22_249, x22_252, x22_253, x22_254, ↓reduceIte, Bool.false_eq_true, Nat.reduceAdd, Nat.reduceLT, Nat.reduceLeDiff, Nat.reduceSub, Nat.reduceEqDiff, Int.reduceToNat, Int.reduceEq, Int.reduceLT, Int.reduceLE, Int.reduceAdd, Int.reduceSub, zg, zI, zJ, zR, zst, zkl, zn, zcat, zok, zraw, List.length_cons, List.length_nil, Option.toList, List.nil_append, List.cons_append, true_and, and_true, if_true, if_false, ne_eq, not_true, not_false_eq_true, and_self, true_or, or_true, false_or, or_false, false_and, and_false, b_9 hc, r_9_0 hc, x_10 hc, r_9_1 hc, x_11 hc, tb hT, Tq1 hT, Tq2 hT, tr_0 hT, tr_1 hT, tr_2 hT, tr_3 hT, tr_4 hT, tr_5 hT, tr_6 hT, tr_7 hT, tr_8 hT, tr_9 hT, tr_10 hT, tr_11 hT, tr_12 hT, tx_1 hT, tx_2 hT, tx_3 hT, tx_4 hT, tx_5 hT, tx_6 hT, tx_7 hT, tx_8 hT, tx_9 hT, tx_10 hT, tx_11 hT, tx_12 hT, tx_13 hT, e10, Int.toNat_natCast, w32_add, i1, hd0, hlt]
      rw [List.drop_eq_getElem_cons ht] at hany
      simp only [List.any_cons] at hany
      refine cWorthRun (d := d - 1) (C := T + 5) hc (by omega) (ts_5 hT) (by omega) hcat (okC_R _ _ _ hwr.1) (fun j hj => by rw [hf 10 (by decide), hv j hj]) (crun_rule hwr) ?_
      intro μ2 hf2
      have hb : ∀ z : Bool, (if false = true then (0 : Int) else b2 z) = b2 z := fun z => by simp
      rw [hb]
      cases hz : rulv v rs[t] false with
      | true =>
        rw [hz] at hany
        simp only [x24_0, x24_1, x24_3, x24_4, x24_5, x24_6, x24_10, x24_11, x24_12, x24_15, x24_16, x24_17, x24_18, x24_21, x24_22, x24_23, x24_26, x24_27, x24_30, x24_32, x24_33, x24_34, x24_37, x24_39, x24_40, x24_41, x24_44, x24_47, x24_48, x24_49, x24_52, x24_55, x24_56, ↓reduceIte, Bool.false_eq_true, Nat.reduceAdd, Nat.reduceLT, Nat.reduceLeDiff, Nat.reduceSub, Nat.reduceEqDiff, Int.reduceToNat, Int.reduceEq, Int.reduceLT, Int.reduceLE, Int.reduceAdd, Int.reduceSub, zg, zI, zJ, zR, zst, zkl, zn, zcat, zok, zraw, List.length_cons, List.length_nil, Option.toList, List.nil_append, List.cons_append, true_and, and_true, if_true, if_false, ne_eq, not_true, not_false_eq_true, and_self, true_or, or_true, false_or, or_false, false_and, and_false, b2]
        have := hQ μ2 (hf.trans hf2)
        rw [hany] at this
        exact this
      | false =>
        rw [hz] at hany
        simp (disch := omega) only [x24_0, x24_1, x24_3, x24_4, x24_5, x24_6, x24_10, x24_11, x24_12, x24_15, x24_16, x24_17, x24_18, x24_21, x24_22, x24_23, x24_26, x24_27, x24_30, x24_32, x24_33, x24_34, x24_37, x24_39, x24_40, x24_41, x24_44, x24_47, x24_48, x24_49, x24_52, x24_55, x24_56, ↓reduceIte, Bool.false_eq_true, Nat.reduceAdd, Nat.reduceLT, Nat.reduceLeDiff, Nat.reduceSub, Nat.reduceEqDiff, Int.reduceToNat, Int.reduceEq, Int.reduceLT, Int.reduceLE, Int.reduceAdd, Int.reduceSub, zg, zI, zJ, zR, zst, zkl, zn, zcat, zok, zraw, List.length_cons, List.length_nil, Option.toList, List.nil_append, List.cons_append, true_and, and_true, if_true, if_false, ne_eq, not_true, not_false_eq_true, and_self, true_or, or_true, false_or, or_false, false_and, and_false, b2, w32_s]
        exact hk _ μ2 ⟨rfl, hf.trans hf2, by rw [hany, Bool.false_or]⟩
    · rintro L μ1 ⟨rfl, hf, hany⟩
      have e10 : μ1 (T + 10) s = (rs.length : Nat) := by rw [hf _ (by simp; omega), hr.1]
      have hq := hQ μ1 hf
      rw [hany, List.drop_length] at hq
      rw [x24_8]
      simp (disch := omega) only [x24_0, x24_1, x24_3, x24_4, x24_5, x24_6, x24_10, x24_11, x24_12, x24_15, x24_16, x24_17, x24_18, x24_21, x24_22, x24_23, x24_26, x24_27, x24_30, x24_32, x24_33, x24_34, x24_37, x24_39, x24_40, x24_41, x24_44, x24_47, x24_48, x24_49, x24_52, x24_55, x24_56, ↓reduceIte, Bool.false_eq_true, Nat.reduceAdd, Nat.reduceLT, Nat.reduceLeDiff, Nat.reduceSub, Nat.reduceEqDiff, Int.reduceToNat, Int.reduceEq, Int.reduceLT, Int.reduceLE, Int.reduceAdd, Int.reduceSub, zg, zI, zJ, zR, zst, zkl, zn, zcat, zok, zraw, List.length_cons, List.length_nil, Option.toList, List.nil_append, List.cons_append, true_and, and_true, if_true, if_false, ne_eq, not_true, not_false_eq_true, and_self, true_or, or_true, false_or, or_false, false_and, and_false, tb hT, Tq1 hT, Tq2 hT, tr_0 hT, tr_1 hT, tr_2 hT, tr_3 hT, tr_4 hT, tr_5 hT, tr_6 hT, tr_7 hT, tr_8 hT, tr_9 hT, tr_10 hT, tr_11 hT, tr_12 hT, tx_1 hT, tx_2 hT, tx_3 hT, tx_4 hT, tx_5 hT, tx_6 hT, tx_7 hT, tx_8 hT, tx_9 hT, tx_10 hT, tx_11 hT, tx_12 hT, tx_13 hT, e10, Int.toNat_natCast, w32_add, Int.le_refl]
      exact hq
  have hm6 : w32 (((s : Nat) : Int) * 6) = ((6 * s : Nat) : Int) := by unfold w32; omega
  simp (disch := omega) only [x24_0, x24_1, x24_3, x24_4, x24_5, x24_6, x24_10, x24_11, x24_12, x24_15, x24_16, x24_17, x24_18, x24_21, x24_22, x24_23, x24_26, x24_27, x24_30, x24_32, x24_33, x24_34, x24_37, x24_39, x24_40, x24_41, x24_44, x24_47, x24_48, x24_49, x24_52, x24_55, x24_56, ↓reduceIte, Bool.false_eq_true, Nat.reduceAdd, Nat.reduceLT, Nat.reduceLeDiff, Nat.reduceSub, Nat.reduceEqDiff, Int.reduceToNat, Int.reduceEq, Int.reduceLT, Int.reduceLE, Int.reduceAdd, Int.reduceSub, zg, zI, zJ, zR, zst, zkl, zn, zcat, zok, zraw, List.length_cons, List.length_nil, Option.toList, List.nil_append, List.cons_append, true_and, and_true, if_true, if_false, ne_eq, not_true, not_false_eq_true, and_self, true_or, or_true, false_or, or_false, false_and, and_false, hm6]
  exact key 0 _ μ (by omega) ⟨rfl, Fr.refl, rfl⟩
theorem cLook {d t : Nat} {x : Int} {x3 : zV} {r : Nat} (h : CX θ T U τ μ) (hF : CF τ ρ r μ) (hx : x = (t : Int)) (ht : t < tn τ) (hB : GB τ lost μ) (hV : VG τ ρ.2.1 lost g w μ)
    (hQ : ∀ μ', Fr [10] μ μ' → VA τ ρ lost t g w μ' → VG τ ρ.2.1 lost g w μ' → Q none θ μ') : Ex d 16 0 [vr 40, vr r, vi x, x3] [] θ μ Q := by
  subst hx
  obtain ⟨⟨hc, hT, hU, hTU, h2T, h2U, hgT⟩, hw, hC, hCc⟩ := h
  obtain ⟨hrf, hwF, hR1, hR2, hR3, hR4⟩ := hF
  have hr := rfs_q hc hrf
  unfold rfs at hrf
  have hn := tn_b hw
  have e := hC.2.2.2.2 t ht
  have e3 := hR2 3 t (by decide) ht
  have e4 := hR2 4 t (by decide) ht
  have e1 := hR2 1 t (by decide) ht
  simp only [Nat.reduceAdd] at e1 e3 e4
  have e45 := hB.2.1 t ht
  have hm3 : ((t : Int)).tmod 3 = ((t % 3 : Nat) : Int) := by rw [Int.tmod_eq_emod_of_nonneg (by omega)]; omega
  simp (disch := omega) only [x16_0, x16_1, x16_4, x16_7, x16_8, x16_9, x16_10, x16_11, x16_14, x16_17, x16_18, x16_19, x16_20, x16_21, x16_22, x16_23, x16_26, x16_29, x16_30, x16_31, x16_32, x16_33, x16_34, x16_35, x16_36, x16_37, x16_38, x16_39, x16_40, x16_41, x16_44, x16_47, x16_48, x16_49, x16_50, x16_51, x16_52, x16_53, x16_56, x16_57, x16_58, x16_59, x16_60, x16_62, x16_63, x16_66, x16_67, x16_68, x16_69, x16_70, x16_71, x16_72, x16_74, x16_75, x16_78, x16_79, x16_80, x16_81, x16_82, x16_83, x16_84, x16_86, x16_87, x16_90, x16_91, x16_92, x16_93, x16_94, x16_95, ↓reduceIte, Bool.false_eq_true, Nat.reduceAdd, Nat.reduceLT, Nat.reduceLeDiff, Nat.reduceSub, Nat.reduceEqDiff, Int.reduceToNat, Int.reduceEq, Int.reduceLT, Int.reduceLE, Int.reduceAdd, Int.reduceSub, zg, zI, zJ, zR, zst, zkl, zn, zcat, zok, zraw, List.length_cons, List.length_nil, Option.toList, List.nil_append, List.cons_append, true_and, and_true, if_true, if_false, ne_eq, not_true, not_false_eq_true, and_self, true_or, or_true, false_or, or_false, false_and, and_false, b_40 hc, r_40_0 hc, x_41 hc, r_40_1 hc, x_42 hc, r_40_2 hc, x_43 hc, r_40_9 hc, r_40_10 hc, x_44 hc, r_40_11 hc, x_45 hc, b_9 hc, r_9_0 hc, x_10 hc, r_9_1 hc, x_11 hc, tb hT, Tq1 hT, Tq2 hT, tr_0 hT, tr_1 hT, tr_2 hT, tr_3 hT, tr_4 hT, tr_5 hT, tr_6 hT, tr_7 hT, tr_8 hT, tr_9 hT, tr_10 hT, tr_11 hT, tr_12 hT, tx_1 hT, tx_2 hT, tx_3 hT, tx_4 hT, tx_5 hT, tx_6 hT, tx_7 hT, tx_8 hT, tx_9 hT, tx_10 hT, tx_11 hT, tx_12 hT, tx_13 hT, rb hr, Rq1 hr, Rq2 hr, rr_0 hr, rx_1 hr, rn_1 hr, rm_0 hr, rm_1 hr, rm_2 hr, rm_3 hr, rm_4 hr, rx_2 hr, rx_3 hr, rx_4 hr, rx_5 hr, rx_6 hr, hgT, ua_eq, us_same, us_ne, us_us, e.1, e.2.1, e.2.2, e1, e3, e4, e45, Int.toNat_natCast, hm3]
  obtain ⟨v5, v6, v7, v8, v9⟩ := hV
  refine hQ _ (Fr.us (by decide) Fr.refl) ?_ ?_
  · intro j hj
    rw [us_same]
    have : j = 0 ∨ j = 1 ∨ j = 2 ∨ j = 3 ∨ j = 4 ∨ j = 5 ∨ j = 6 ∨ j = 7 ∨ j = 8 ∨ j = 9 ∨ j = 10 ∨ j = 11 ∨ j = 12 := by omega
    rcases this with rfl | rfl | rfl | rfl | rfl | rfl | rfl | rfl | rfl | rfl | rfl | rfl | rfl <;> simp [zup_ap, va, v0, v5, v6, v7, v8, v9]
  · unfold VG; simp [us_same, zup_ap, v5, v6, v7, v8, v9]
theorem cHold {d t : Nat} {x : Int} {x3 x4 x5 : zV} {r : Nat} (h : CX θ T U τ μ) (hF : CF τ ρ r μ) (hx : x = (t : Int)) (ht : t < tn τ) (hB : GB τ lost μ) (hz : lz lost)
    (hQ : Q (some (vi (hoB τ ρ lost t))) θ μ) : Ex d 17 0 [vr 40, vr r, vi x, x3, x4, x5] [] θ μ Q := by
  subst hx
  obtain ⟨⟨hc, hT, hU, hTU, h2T, h2U, hgT⟩, hw, hC, hCc⟩ := h
  obtain ⟨hrf, hwF, hR1, hR2, hR3, hR4⟩ := hF
  have hr := rfs_q hc hrf
  unfold rfs at hrf
  have hn := tn_b hw
  have n2 := tc_b hw
  have e3 := hR2 3 t (by decide) ht
  have e4 := hR2 4 t (by decide) ht
  have e1 := hR2 1 t (by decide) ht
  have e2 := hR2 2 t (by decide) ht
  simp only [Nat.reduceAdd] at e1 e2 e3 e4
  have c1 : μ (T + 1) 1 = (tc τ : Int) := by rw [hC.1 1 (by decide), n2.2.2]
  have c3 := hC.1 3 (by decide); have c4 := hC.1 4 (by decide); have c5 := hC.1 5 (by decide); have c6 := hC.1 6 (by decide)
  have c13 : μ T 13 = (tn τ : Nat) := hC.2.1
  have w3 := hw.2.2.2.1 3 (by decide) (by decide); have w4 := hw.2.2.2.1 4 (by decide) (by decide); have w5 := hw.2.2.2.1 5 (by decide) (by decide); have w6 := hw.2.2.2.1 6 (by decide) (by decide)
  have f := hwF.1 t ht
  have hg : t + tc τ < tn τ → μ 44 (t + tc τ) = lost (t + tc τ) := hB.1 (t + tc τ)
  have q2 : ((tn τ : Int) ≤ ((t + tc τ : Nat) : Int)) = ¬ (t + tc τ < tn τ) := propext (by omega)
  unfold hoB at hQ
  by_cases k1 : t + tc τ < tn τ
  · have hg1 := hg k1
    by_cases k2 : lost (t + tc τ) = 0 <;> by_cases k3 : ρ.1 1 t = 1 <;> by_cases k4 : ρ.1 3 t < tN τ 5 <;> by_cases k5 : ρ.1 2 t = 1
    all_goals
      have k6 : (tN τ 5 ≤ ρ.1 3 t) = ¬ (ρ.1 3 t < tN τ 5) := propext (by omega)
      simp (disch := omega) only [x17_0, x17_1, x17_4, x17_7, x17_8, x17_9, x17_10, x17_11, x17_12, x17_15, x17_16, x17_17, x17_18, x17_19, x17_20, x17_22, x17_23, x17_24, x17_25, x17_26, x17_27, x17_29, x17_31, x17_32, x17_35, x17_38, x17_41, x17_42, x17_45, x17_47, x17_48, x17_51, x17_53, x17_54, x17_55, x17_56, x17_57, x17_59, x17_60, x17_63, x17_64, x17_65, x17_66, x17_67, x17_68, x17_71, x17_72, x17_73, x17_74, x17_75, x17_78, x17_79, x17_80, x17_81, x17_82, x17_85, x17_87, x17_88, x17_89, x17_90, x17_91, x17_94, x17_95, x17_96, x17_97, x17_98, x17_99, x17_100, x17_102, x17_103, x17_106, x17_107, x17_108, x17_109, x17_110, x17_111, x17_114, x17_116, x17_117, x17_119, x17_120, x17_121, x17_123, x17_125, ↓reduceIte, Bool.false_eq_true, Nat.reduceAdd, Nat.reduceLT, Nat.reduceLeDiff, Nat.reduceSub, Nat.reduceEqDiff, Int.reduceToNat, Int.reduceEq, Int.reduceLT, Int.reduceLE, Int.reduceAdd, Int.reduceSub, zg, zI, zJ, zR, zst, zkl, zn, zcat, zok, zraw, List.length_cons, List.length_nil, Option.toList, List.nil_append, List.cons_append, true_and, and_true, if_true, if_false, ne_eq, not_true, not_false_eq_true, and_self, true_or, or_true, false_or, or_false, false_and, and_false, b_40 hc, r_40_0 hc, x_41 hc, r_40_1 hc, x_42 hc, r_40_2 hc, x_43 hc, r_40_9 hc, r_40_10 hc, x_44 hc, r_40_11 hc, x_45 hc, b_9 hc, r_9_0 hc, x_10 hc, r_9_1 hc, x_11 hc, tb hT, Tq1 hT, Tq2 hT, tr_0 hT, tr_1 hT, tr_2 hT, tr_3 hT, tr_4 hT, tr_5 hT, tr_6 hT, tr_7 hT, tr_8 hT, tr_9 hT, tr_10 hT, tr_11 hT, tr_12 hT, tx_1 hT, tx_2 hT, tx_3 hT, tx_4 hT, tx_5 hT, tx_6 hT, tx_7 hT, tx_8 hT, tx_9 hT, tx_10 hT, tx_11 hT, tx_12 hT, tx_13 hT, rb hr, Rq1 hr, Rq2 hr, rr_0 hr, rx_1 hr, rn_1 hr, rm_0 hr, rm_1 hr, rm_2 hr, rm_3 hr, rm_4 hr, rx_2 hr, rx_3 hr, rx_4 hr, rx_5 hr, rx_6 hr, hgT, e1, e2, e3, e4, c1, c3, c4, c5, c6, c13, hg1, Int.toNat_natCast, Int.toNat_one, w32_add, q2, k1, k2, k3, k4, k5, k6]
      refine Qc hQ ?_
      unfold w32
      omega
  · by_cases k3 : ρ.1 1 t = 1 <;> by_cases k4 : ρ.1 3 t < tN τ 5 <;> by_cases k5 : ρ.1 2 t = 1
    all_goals
      have k6 : (tN τ 5 ≤ ρ.1 3 t) = ¬ (ρ.1 3 t < tN τ 5) := propext (by omega)
      simp (disch := omega) only [x17_0, x17_1, x17_4, x17_7, x17_8, x17_9, x17_10, x17_11, x17_12, x17_15, x17_16, x17_17, x17_18, x17_19, x17_20, x17_22, x17_23, x17_24, x17_25, x17_26, x17_27, x17_29, x17_31, x17_32, x17_35, x17_38, x17_41, x17_42, x17_45, x17_47, x17_48, x17_51, x17_53, x17_54, x17_55, x17_56, x17_57, x17_59, x17_60, x17_63, x17_64, x17_65, x17_66, x17_67, x17_68, x17_71, x17_72, x17_73, x17_74, x17_75, x17_78, x17_79, x17_80, x17_81, x17_82, x17_85, x17_87, x17_88, x17_89, x17_90, x17_91, x17_94, x17_95, x17_96, x17_97, x17_98, x17_99, x17_100, x17_102, x17_103, x17_106, x17_107, x17_108, x17_109, x17_110, x17_111, x17_114, x17_116, x17_117, x17_119, x17_120, x17_121, x17_123, x17_125, ↓reduceIte, Bool.false_eq_true, Nat.reduceAdd, Nat.reduceLT, Nat.reduceLeDiff, Nat.reduceSub, Nat.reduceEqDiff, Int.reduceToNat, Int.reduceEq, Int.reduceLT, Int.reduceLE, Int.reduceAdd, Int.reduceSub, zg, zI, zJ, zR, zst, zkl, zn, zcat, zok, zraw, List.length_cons, List.length_nil, Option.toList, List.nil_append, List.cons_append, true_and, and_true, if_true, if_false, ne_eq, not_true, not_false_eq_true, and_self, true_or, or_true, false_or, or_false, false_and, and_false, b_40 hc, r_40_0 hc, x_41 hc, r_40_1 hc, x_42 hc, r_40_2 hc, x_43 hc, r_40_9 hc, r_40_10 hc, x_44 hc, r_40_11 hc, x_45 hc, b_9 hc, r_9_0 hc, x_10 hc, r_9_1 hc, x_11 hc, tb hT, Tq1 hT, Tq2 hT, tr_0 hT, tr_1 hT, tr_2 hT, tr_3 hT, tr_4 hT, tr_5 hT, tr_6 hT, tr_7 hT, tr_8 hT, tr_9 hT, tr_10 hT, tr_11 hT, tr_12 hT, tx_1 hT, tx_2 hT, tx_3 hT, tx_4 hT, tx_5 hT, tx_6 hT, tx_7 hT, tx_8 hT, tx_9 hT, tx_10 hT, tx_11 hT, tx_12 hT, tx_13 hT, rb hr, Rq1 hr, Rq2 hr, rr_0 hr, rx_1 hr, rn_1 hr, rm_0 hr, rm_1 hr, rm_2 hr, rm_3 hr, rm_4 hr, rx_2 hr, rx_3 hr, rx_4 hr, rx_5 hr, rx_6 hr, hgT, e1, e2, e3, e4, c1, c3, c4, c5, c6, c13, Int.toNat_natCast, Int.toNat_one, w32_add, q2, k1, k3, k4, k5, k6]
      refine Qc hQ ?_
      unfold w32
      omega
end LW
