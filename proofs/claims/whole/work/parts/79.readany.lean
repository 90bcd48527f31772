/-! THE CLASS READS: a DOOR; any TELL -/
section RX
variable {θ : zS} {Q : Option zV → zS → zM → Prop} {μ μ0 : zM} {K : Nat → Nat} {V W st : Nat → Int} {Z U : Nat} {π : zP}
theorem cDoorEnd {d p q n : Nat} {a b o : Int} {F : Option (Nat × Nat)} {cs : Nat} {μt : zM} (hr : RdC θ U) (hd : 2 ≤ d) (hq : q ≤ Z) (hcq : cs ≤ q) (hM : PM W U cs π μ) (hl : (pD π).length < 6) (hT : TK K V W st Z μt) (hf : Fr (RA U) μ0 μt) (h3 : μt 60 3 = (q : Nat)) (h4 : μt 60 4 = 0) (hF : LF F st μt)
    (hx : ∀ x, x ≠ U → x ≠ U + 2 → x ≠ U + 3 → x ≠ U + 4 → x ≠ 60 → μt x = μ x) (e2 : μt (U + 2) = zup (μ (U + 2)) (pD π).length a) (e3 : μt (U + 3) = zup (μ (U + 3)) (pD π).length b) (e4 : μt (U + 4) = zup (μ (U + 4)) (pD π).length (W n))
    (e14 : μt U 14 = ((pD π).length : Nat)) (e15 : (o = 0 ∧ μt U 15 = μ U 15) ∨ (o = 1 ∧ μt U 15 = zor (μ U 15) (zshl 1 ((pD π).length : Nat)))) (e16 : μt U 16 = μ U 16)
    (hQ : cRQ (RA U) st μ0 θ Q 0 (expG K 4 q (upD (upF π F) (n, a, b, o))) (fun q π' μ' => PT W st U q π' μ0 μ')) : Ex d 48 127 [vr 60, vi ((pD π).length : Nat)] [] θ μt Q := by
  have hr' := hr
  obtain ⟨hc, hU, hu, h60⟩ := hr'
  have hd0 : 0 < d := by omega
  have hl1 : (pD π).length < 2147483647 := by omega
  simp only [x48_0, x48_1, x48_4, x48_7, x48_8, x48_9, x48_11, x48_14, x48_15, x48_16, x48_19, x48_20, x48_21, x48_24, x48_27, x48_28, x48_29, x48_32, x48_35, x48_36, x48_37, x48_38, x48_41, x48_44, x48_45, x48_46, x48_47, x48_48, x48_51, x48_52, x48_53, x48_56, x48_59, x48_60, x48_61, x48_62, x48_65, x48_68, x48_69, x48_70, x48_71, x48_73, x48_76, x48_77, x48_78, x48_81, x48_84, x48_85, x48_86, x48_87, x48_90, x48_93, x48_94, x48_97, x48_98, x48_100, x48_103, x48_104, x48_107, x48_108, x48_111, x48_112, x48_113, x48_114, x48_115, x48_118, x48_119, x48_122, x48_125, x48_126, x48_127, x48_128, x48_131, x48_132, x48_135, x48_136, x48_137, x48_140, x48_141, x48_142, x48_145, ↓reduceIte, Bool.false_eq_true, Nat.reduceAdd, Nat.reduceLT, Nat.reduceLeDiff, Nat.reduceSub, Nat.reduceEqDiff, Int.reduceToNat, Int.reduceEq, Int.reduceLT, Int.reduceLE, Int.reduceAdd, Int.reduceSub, zg, zI, zJ, zR, zst, zkl, zn, zcat, zok, zraw, List.length_cons, List.length_nil, Option.toList, List.nil_append, List.cons_append, true_and, and_true, if_true, if_false, ne_eq, not_true, not_false_eq_true, and_self, true_or, or_true, false_or, or_false, false_and, and_false, b_2 hc, b_3 hc, b_9 hc, b_12 hc, b_26 hc, b_40 hc, b_46 hc, b_47 hc, b_60 hc, b_62 hc, b_63 hc, b_76 hc, b_77 hc, b_90 hc, b_91 hc, b_104 hc, b_107 hc, b_114 hc, b_115 hc, b_122 hc, b_123 hc, b_131 hc, b_60 hc, r_60_1 hc, h60, tb hU, Tq2 hU, e14, ua_eq, w32_s hl1, hd0]
  have M4 : PM W U cs (upD (upF π F) (n, a, b, o)) (us μt U (zup (μt U) 14 (((pD π).length + 1 : Nat) : Int))) := by
    refine PM_D (π := upF π F) hr hM hl (fun x x0 x2 x3 x4 x60 => by rw [us_ne x0]; exact hx x x0 x2 x3 x4 x60) ?_ ?_ ?_ ?_ ?_ ?_
    · rw [us_ne (by omega)]; exact e2
    · rw [us_ne (by omega)]; exact e3
    · rw [us_ne (by omega)]; exact e4
    · rw [us_same, zup_same rfl]; rfl
    · rw [us_same, zup_ne (by decide)]; exact e15
    · rw [us_same, zup_ne (by decide)]; exact e16
  have H4 : PT W st U q (upD (upF π F) (n, a, b, o)) μ0 (us μt U (zup (μt U) 14 (((pD π).length + 1 : Nat) : Int))) := by
    refine ⟨Fr.us (by unfold RA; simp) hf, ?_, ?_, ?_, cs, hcq, M4⟩
    · rw [us_ne (by omega)]; exact h3
    · rw [us_ne (by omega)]; exact h4
    · exact LF_fr hF (by rw [us_ne (by omega)]) (by rw [us_ne (by omega)])
  have T4 : TK K V W st Z (us μt U (zup (μt U) 14 (((pD π).length + 1 : Nat) : Int))) := TK_T hr hT (Fr.us (by unfold RA; simp) Fr.refl)
  refine cSemi (d := d - 1) (A := []) hr (by omega) hq T4 H4 ?_
  generalize expG K 4 q (upD (upF π F) (n, a, b, o)) = r at hQ ⊢
  cases r with
  | inl e =>
    intro μ5 f5 g4 g0
    simp only [x48_0, x48_1, x48_4, x48_7, x48_8, x48_9, x48_11, x48_14, x48_15, x48_16, x48_19, x48_20, x48_21, x48_24, x48_27, x48_28, x48_29, x48_32, x48_35, x48_36, x48_37, x48_38, x48_41, x48_44, x48_45, x48_46, x48_47, x48_48, x48_51, x48_52, x48_53, x48_56, x48_59, x48_60, x48_61, x48_62, x48_65, x48_68, x48_69, x48_70, x48_71, x48_73, x48_76, x48_77, x48_78, x48_81, x48_84, x48_85, x48_86, x48_87, x48_90, x48_93, x48_94, x48_97, x48_98, x48_100, x48_103, x48_104, x48_107, x48_108, x48_111, x48_112, x48_113, x48_114, x48_115, x48_118, x48_119, x48_122, x48_125, x48_126, x48_127, x48_128, x48_131, x48_132, x48_135, x48_136, x48_137, x48_140, x48_141, x48_142, x48_145, ↓reduceIte, Bool.false_eq_true, Nat.reduceAdd, Nat.reduceLT, Nat.reduceLeDiff, Nat.reduceSub, Nat.reduceEqDiff, Int.reduceToNat, Int.reduceEq, Int.reduceLT, Int.reduceLE, Int.reduceAdd, Int.reduceSub, zg, zI, zJ, zR, zst, zkl, zn, zcat, zok, zraw, List.length_cons, List.length_nil, Option.toList, List.nil_append, List.cons_append, true_and, and_true, if_true, if_false, ne_eq, not_true, not_false_eq_true, and_self, true_or, or_true, false_or, or_false, false_and, and_false]
    exact hQ μ5 f5 g4 g0
  | inr x =>
    intro μ5 H5
    simp only [x48_0, x48_1, x48_4, x48_7, x48_8, x48_9, x48_11, x48_14, x48_15, x48_16, x48_19, x48_20, x48_21, x48_24, x48_27, x48_28, x48_29, x48_32, x48_35, x48_36, x48_37, x48_38, x48_41, x48_44, x48_45, x48_46, x48_47, x48_48, x48_51, x48_52, x48_53, x48_56, x48_59, x48_60, x48_61, x48_62, x48_65, x48_68, x48_69, x48_70, x48_71, x48_73, x48_76, x48_77, x48_78, x48_81, x48_84, x48_85, x48_86, x48_87, x48_90, x48_93, x48_94, x48_97, x48_98, x48_100, x48_103, x48_104, x48_107, x48_108, x48_111, x48_112, x48_113, x48_114, x48_115, x48_118, x48_119, x48_122, x48_125, x48_126, x48_127, x48_128, x48_131, x48_132, x48_135, x48_136, x48_137, x48_140, x48_141, x48_142, x48_145, ↓reduceIte, Bool.false_eq_true, Nat.reduceAdd, Nat.reduceLT, Nat.reduceLeDiff, Nat.reduceSub, Nat.reduceEqDiff, Int.reduceToNat, Int.reduceEq, Int.reduceLT, Int.reduceLE, Int.reduceAdd, Int.reduceSub, zg, zI, zJ, zR, zst, zkl, zn, zcat, zok, zraw, List.length_cons, List.length_nil, Option.toList, List.nil_append, List.cons_append, true_and, and_true, if_true, if_false, ne_eq, not_true, not_false_eq_true, and_self, true_or, or_true, false_or, or_false, false_and, and_false]
    exact hQ μ5 H5
theorem cDoorT {d p : Nat} {x1 : zV} (hr : RdC θ U) (hd : 4 ≤ d) (hp : p ≤ Z) (k30 : K p = 30) (hT : TK K V W st Z μ) (h : PT W st U p π μ0 μ) (hl6 : (pD π).length ≤ 6)
    (hQ : cRQ (RA U) st μ0 θ Q 0 (doorG K V W p π) (fun q π' μ' => PT W st U q π' μ0 μ')) : Ex d 48 0 [vr 60, x1] [] θ μ Q := by
  have hr' := hr
  obtain ⟨hc, hU, hu, h60⟩ := hr'
  have hd0 : 0 < d := by omega
  have h6A : ∀ a ∈ [60], a ∈ RA U := by unfold RA; simp
  have hz := hT.1.1
  unfold doorG at hQ
  obtain ⟨hf, h3, h4', hF, cs, hcs, hM⟩ := h
  have e14 : μ U 14 = ((pD π).length : Nat) := hM.2.1.1
  by_cases h6 : 6 ≤ (pD π).length
  · rw [if_pos h6] at hQ
    have h6' : ¬ (((pD π).length : Nat) : Int) < 6 := by omega
    simp only [x48_0, x48_1, x48_4, x48_7, x48_8, x48_9, x48_11, x48_14, x48_15, x48_16, x48_19, x48_20, x48_21, x48_24, x48_27, x48_28, x48_29, x48_32, x48_35, x48_36, x48_37, x48_38, x48_41, x48_44, x48_45, x48_46, x48_47, x48_48, x48_51, x48_52, x48_53, x48_56, x48_59, x48_60, x48_61, x48_62, x48_65, x48_68, x48_69, x48_70, x48_71, x48_73, x48_76, x48_77, x48_78, x48_81, x48_84, x48_85, x48_86, x48_87, x48_90, x48_93, x48_94, x48_97, x48_98, x48_100, x48_103, x48_104, x48_107, x48_108, x48_111, x48_112, x48_113, x48_114, x48_115, x48_118, x48_119, x48_122, x48_125, x48_126, x48_127, x48_128, x48_131, x48_132, x48_135, x48_136, x48_137, x48_140, x48_141, x48_142, x48_145, ↓reduceIte, Bool.false_eq_true, Nat.reduceAdd, Nat.reduceLT, Nat.reduceLeDiff, Nat.reduceSub, Nat.reduceEqDiff, Int.reduceToNat, Int.reduceEq, Int.reduceLT, Int.reduceLE, Int.reduceAdd, Int.reduceSub, zg, zI, zJ, zR, zst, zkl, zn, zcat, zok, zraw, List.length_cons, List.length_nil, Option.toList, List.nil_append, List.cons_append, true_and, and_true, if_true, if_false, ne_eq, not_true, not_false_eq_true, and_self, true_or, or_true, false_or, or_false, false_and, and_false, b_2 hc, b_3 hc, b_9 hc, b_12 hc, b_26 hc, b_40 hc, b_46 hc, b_47 hc, b_60 hc, b_62 hc, b_63 hc, b_76 hc, b_77 hc, b_90 hc, b_91 hc, b_104 hc, b_107 hc, b_114 hc, b_115 hc, b_122 hc, b_123 hc, b_131 hc, b_60 hc, r_60_1 hc, h60, tb hU, e14, h6', hd0]
    refine cRefuse (d := d - 1) hr hT hp h3 (fun μ3 f3 g4 g0 => ?_)
    simp only [x48_0, x48_1, x48_4, x48_7, x48_8, x48_9, x48_11, x48_14, x48_15, x48_16, x48_19, x48_20, x48_21, x48_24, x48_27, x48_28, x48_29, x48_32, x48_35, x48_36, x48_37, x48_38, x48_41, x48_44, x48_45, x48_46, x48_47, x48_48, x48_51, x48_52, x48_53, x48_56, x48_59, x48_60, x48_61, x48_62, x48_65, x48_68, x48_69, x48_70, x48_71, x48_73, x48_76, x48_77, x48_78, x48_81, x48_84, x48_85, x48_86, x48_87, x48_90, x48_93, x48_94, x48_97, x48_98, x48_100, x48_103, x48_104, x48_107, x48_108, x48_111, x48_112, x48_113, x48_114, x48_115, x48_118, x48_119, x48_122, x48_125, x48_126, x48_127, x48_128, x48_131, x48_132, x48_135, x48_136, x48_137, x48_140, x48_141, x48_142, x48_145, ↓reduceIte, Bool.false_eq_true, Nat.reduceAdd, Nat.reduceLT, Nat.reduceLeDiff, Nat.reduceSub, Nat.reduceEqDiff, Int.reduceToNat, Int.reduceEq, Int.reduceLT, Int.reduceLE, Int.reduceAdd, Int.reduceSub, zg, zI, zJ, zR, zst, zkl, zn, zcat, zok, zraw, List.length_cons, List.length_nil, Option.toList, List.nil_append, List.cons_append, true_and, and_true, if_true, if_false, ne_eq, not_true, not_false_eq_true, and_self, true_or, or_true, false_or, or_false, false_and, and_false]
    exact hQ μ3 (hf.trans (f3.mono h6A)) g4 g0
  · rw [if_neg h6] at hQ
    have h6' : (((pD π).length : Nat) : Int) < 6 := by omega
    have d1 : (0 : Int) ≤ (((pD π).length : Nat) : Int) := by omega
    simp only [x48_0, x48_1, x48_4, x48_7, x48_8, x48_9, x48_11, x48_14, x48_15, x48_16, x48_19, x48_20, x48_21, x48_24, x48_27, x48_28, x48_29, x48_32, x48_35, x48_36, x48_37, x48_38, x48_41, x48_44, x48_45, x48_46, x48_47, x48_48, x48_51, x48_52, x48_53, x48_56, x48_59, x48_60, x48_61, x48_62, x48_65, x48_68, x48_69, x48_70, x48_71, x48_73, x48_76, x48_77, x48_78, x48_81, x48_84, x48_85, x48_86, x48_87, x48_90, x48_93, x48_94, x48_97, x48_98, x48_100, x48_103, x48_104, x48_107, x48_108, x48_111, x48_112, x48_113, x48_114, x48_115, x48_118, x48_119, x48_122, x48_125, x48_126, x48_127, x48_128, x48_131, x48_132, x48_135, x48_136, x48_137, x48_140, x48_141, x48_142, x48_145, ↓reduceIte, Bool.false_eq_true, Nat.reduceAdd, Nat.reduceLT, Nat.reduceLeDiff, Nat.reduceSub, Nat.reduceEqDiff, Int.reduceToNat, Int.reduceEq, Int.reduceLT, Int.reduceLE, Int.reduceAdd, Int.reduceSub, zg, zI, zJ, zR, zst, zkl, zn, zcat, zok, zraw, List.length_cons, List.length_nil, Option.toList, List.nil_append, List.cons_append, true_and, and_true, if_true, if_false, ne_eq, not_true, not_false_eq_true, and_self, true_or, or_true, false_or, or_false, false_and, and_false, b_2 hc, b_3 hc, b_9 hc, b_12 hc, b_26 hc, b_40 hc, b_46 hc, b_47 hc, b_60 hc, b_62 hc, b_63 hc, b_76 hc, b_77 hc, b_90 hc, b_91 hc, b_104 hc, b_107 hc, b_114 hc, b_115 hc, b_122 hc, b_123 hc, b_131 hc, b_60 hc, r_60_1 hc, h60, tb hU, e14, h6', hd0]
    refine cPass (d := d - 1) hr hT hp h3 (fun h4 => ?_) (fun h4 μ2 f2 g4 g0 => ?_)
    · rw [nx_lt h4] at hQ
      simp only [bnd] at hQ
      have hp1 := hT.1.2 p h4 hp (by omega)
      obtain ⟨μ1, hμ1⟩ : ∃ μ1, μ1 = us μ 60 (zup (μ 60) 3 ((p + 1 : Nat) : Int)) := ⟨_, rfl⟩
      have f01 : Fr [60] μ μ1 := by rw [hμ1]; exact Fr.us (by simp) Fr.refl
      have H1 : PT W st U (p + 1) π μ0 μ1 := by rw [hμ1]; exact PT_at hr ⟨hf, h3, h4', hF, cs, hcs, hM⟩ (by omega)
      have M1 : PM W U cs π μ1 := PM_60 hr hM f01
      have T1 := TK_60 hT f01
      simp only [x48_0, x48_1, x48_4, x48_7, x48_8, x48_9, x48_11, x48_14, x48_15, x48_16, x48_19, x48_20, x48_21, x48_24, x48_27, x48_28, x48_29, x48_32, x48_35, x48_36, x48_37, x48_38, x48_41, x48_44, x48_45, x48_46, x48_47, x48_48, x48_51, x48_52, x48_53, x48_56, x48_59, x48_60, x48_61, x48_62, x48_65, x48_68, x48_69, x48_70, x48_71, x48_73, x48_76, x48_77, x48_78, x48_81, x48_84, x48_85, x48_86, x48_87, x48_90, x48_93, x48_94, x48_97, x48_98, x48_100, x48_103, x48_104, x48_107, x48_108, x48_111, x48_112, x48_113, x48_114, x48_115, x48_118, x48_119, x48_122, x48_125, x48_126, x48_127, x48_128, x48_131, x48_132, x48_135, x48_136, x48_137, x48_140, x48_141, x48_142, x48_145, ↓reduceIte, Bool.false_eq_true, Nat.reduceAdd, Nat.reduceLT, Nat.reduceLeDiff, Nat.reduceSub, Nat.reduceEqDiff, Int.reduceToNat, Int.reduceEq, Int.reduceLT, Int.reduceLE, Int.reduceAdd, Int.reduceSub, zg, zI, zJ, zR, zst, zkl, zn, zcat, zok, zraw, List.length_cons, List.length_nil, Option.toList, List.nil_append, List.cons_append, true_and, and_true, if_true, if_false, ne_eq, not_true, not_false_eq_true, and_self, true_or, or_true, false_or, or_false, false_and, and_false, b_60 hc, hd0]
      rw [← hμ1]
      clear hμ1
      have hnx : ∀ x, (expG K 3 (p + 1) () : pR Unit) = .inr x → p + 1 < x.1 ∧ x.1 ≤ Z := fun x hx => by
        have := okG_exp (K := K) (Z := Z) (k := 3) (x := ()) (P := fun _ _ => True) hT.1 hp1 (by decide) (fun _ => trivial)
        rw [hx] at this; exact ⟨this.1, this.2.1⟩
      refine cName (d := d - 1) (π := π) (F := pF π) hr (by omega) T1 hp1 H1.2.1 H1.2.2.2.1 (by omega) (fun k hk => (M1.2.1.2.2 k hk).1.2.2) ?_
      generalize (expG K 3 (p + 1) () : pR Unit) = r at hQ hnx ⊢
      cases r with
      | inl e =>
        intro μ2 f2 g4 g0
        simp only [x48_0, x48_1, x48_4, x48_7, x48_8, x48_9, x48_11, x48_14, x48_15, x48_16, x48_19, x48_20, x48_21, x48_24, x48_27, x48_28, x48_29, x48_32, x48_35, x48_36, x48_37, x48_38, x48_41, x48_44, x48_45, x48_46, x48_47, x48_48, x48_51, x48_52, x48_53, x48_56, x48_59, x48_60, x48_61, x48_62, x48_65, x48_68, x48_69, x48_70, x48_71, x48_73, x48_76, x48_77, x48_78, x48_81, x48_84, x48_85, x48_86, x48_87, x48_90, x48_93, x48_94, x48_97, x48_98, x48_100, x48_103, x48_104, x48_107, x48_108, x48_111, x48_112, x48_113, x48_114, x48_115, x48_118, x48_119, x48_122, x48_125, x48_126, x48_127, x48_128, x48_131, x48_132, x48_135, x48_136, x48_137, x48_140, x48_141, x48_142, x48_145, ↓reduceIte, Bool.false_eq_true, Nat.reduceAdd, Nat.reduceLT, Nat.reduceLeDiff, Nat.reduceSub, Nat.reduceEqDiff, Int.reduceToNat, Int.reduceEq, Int.reduceLT, Int.reduceLE, Int.reduceAdd, Int.reduceSub, zg, zI, zJ, zR, zst, zkl, zn, zcat, zok, zraw, List.length_cons, List.length_nil, Option.toList, List.nil_append, List.cons_append, true_and, and_true, if_true, if_false, ne_eq, not_true, not_false_eq_true, and_self, true_or, or_true, false_or, or_false, false_and, and_false]
        exact hQ μ2 (H1.1.trans (f2.mono (by unfold RA; simp))) g4 g0
      | inr x =>
        obtain ⟨hx1, hx2⟩ := hnx x rfl
        intro μ2 f2 g23 g24 g2F g27
        simp only [bnd] at hQ
        generalize hF2 : (if twO W π (p + 1) = true then ltO (pF π) 3 (p + 1) else pF π) = F2 at hQ g2F
        have T2 : TK K V W st Z μ2 := TK_T hr T1 (f2.mono (by unfold RA; simp))
        simp only [x48_0, x48_1, x48_4, x48_7, x48_8, x48_9, x48_11, x48_14, x48_15, x48_16, x48_19, x48_20, x48_21, x48_24, x48_27, x48_28, x48_29, x48_32, x48_35, x48_36, x48_37, x48_38, x48_41, x48_44, x48_45, x48_46, x48_47, x48_48, x48_51, x48_52, x48_53, x48_56, x48_59, x48_60, x48_61, x48_62, x48_65, x48_68, x48_69, x48_70, x48_71, x48_73, x48_76, x48_77, x48_78, x48_81, x48_84, x48_85, x48_86, x48_87, x48_90, x48_93, x48_94, x48_97, x48_98, x48_100, x48_103, x48_104, x48_107, x48_108, x48_111, x48_112, x48_113, x48_114, x48_115, x48_118, x48_119, x48_122, x48_125, x48_126, x48_127, x48_128, x48_131, x48_132, x48_135, x48_136, x48_137, x48_140, x48_141, x48_142, x48_145, ↓reduceIte, Bool.false_eq_true, Nat.reduceAdd, Nat.reduceLT, Nat.reduceLeDiff, Nat.reduceSub, Nat.reduceEqDiff, Int.reduceToNat, Int.reduceEq, Int.reduceLT, Int.reduceLE, Int.reduceAdd, Int.reduceSub, zg, zI, zJ, zR, zst, zkl, zn, zcat, zok, zraw, List.length_cons, List.length_nil, Option.toList, List.nil_append, List.cons_append, true_and, and_true, if_true, if_false, ne_eq, not_true, not_false_eq_true, and_self, true_or, or_true, false_or, or_false, false_and, and_false, b_2 hc, b_3 hc, b_9 hc, b_12 hc, b_26 hc, b_40 hc, b_46 hc, b_47 hc, b_60 hc, b_62 hc, b_63 hc, b_76 hc, b_77 hc, b_90 hc, b_91 hc, b_104 hc, b_107 hc, b_114 hc, b_115 hc, b_122 hc, b_123 hc, b_131 hc, b_60 hc, r_60_1 hc, h60, tb hU, hd0]
        have N1 := okG_num (lo := 0) (hi := 3) (F := F2) (V := V) hT.1 hx2
        refine cInt (d := d - 1) (F := F2) hr (by omega) T2 hx2 g23 g2F ?_
        generalize numG K V 0 3 x.1 F2 = r at hQ N1 ⊢
        have n1 : 60 ≠ U + 2 := by omega
        have n2 : 60 ≠ U + 3 := by omega
        cases r with
        | inl e =>
          intro μ3 f3 g4 g0
          have e0 : ¬ ((e.1 : Nat) : Int) = 0 := by have := N1.1; omega
          simp only [x48_0, x48_1, x48_4, x48_7, x48_8, x48_9, x48_11, x48_14, x48_15, x48_16, x48_19, x48_20, x48_21, x48_24, x48_27, x48_28, x48_29, x48_32, x48_35, x48_36, x48_37, x48_38, x48_41, x48_44, x48_45, x48_46, x48_47, x48_48, x48_51, x48_52, x48_53, x48_56, x48_59, x48_60, x48_61, x48_62, x48_65, x48_68, x48_69, x48_70, x48_71, x48_73, x48_76, x48_77, x48_78, x48_81, x48_84, x48_85, x48_86, x48_87, x48_90, x48_93, x48_94, x48_97, x48_98, x48_100, x48_103, x48_104, x48_107, x48_108, x48_111, x48_112, x48_113, x48_114, x48_115, x48_118, x48_119, x48_122, x48_125, x48_126, x48_127, x48_128, x48_131, x48_132, x48_135, x48_136, x48_137, x48_140, x48_141, x48_142, x48_145, ↓reduceIte, Bool.false_eq_true, Nat.reduceAdd, Nat.reduceLT, Nat.reduceLeDiff, Nat.reduceSub, Nat.reduceEqDiff, Int.reduceToNat, Int.reduceEq, Int.reduceLT, Int.reduceLE, Int.reduceAdd, Int.reduceSub, zg, zI, zJ, zR, zst, zkl, zn, zcat, zok, zraw, List.length_cons, List.length_nil, Option.toList, List.nil_append, List.cons_append, true_and, and_true, if_true, if_false, ne_eq, not_true, not_false_eq_true, and_self, true_or, or_true, false_or, or_false, false_and, and_false, b_2 hc, b_3 hc, b_9 hc, b_12 hc, b_26 hc, b_40 hc, b_46 hc, b_47 hc, b_60 hc, b_62 hc, b_63 hc, b_76 hc, b_77 hc, b_90 hc, b_91 hc, b_104 hc, b_107 hc, b_114 hc, b_115 hc, b_122 hc, b_123 hc, b_131 hc, b_60 hc, r_60_1 hc, h60, tb hU, tr_1 hU, tx_2 hU d1 h6', Nat.le_add_right_of_le (Tq2 hU), ua_eq, us_ne n1, g4, e0, hd0]
          refine hQ _ (Fr.us (by unfold RA; simp) ((H1.1.trans (f2.mono (by unfold RA; simp))).trans (f3.mono h6A))) ?_ ?_
          · rw [us_ne n1]; exact g4
          · rw [us_ne n1]; exact g0
        | inr a =>
          intro μ3 f3 g33 g34 g3F
          obtain ⟨ha1, ha2, _⟩ := N1
          simp only [bnd] at hQ
          have z3 : μ3 60 4 = 0 := by rw [g34, g24]; exact H1.2.2.1
          simp only [x48_0, x48_1, x48_4, x48_7, x48_8, x48_9, x48_11, x48_14, x48_15, x48_16, x48_19, x48_20, x48_21, x48_24, x48_27, x48_28, x48_29, x48_32, x48_35, x48_36, x48_37, x48_38, x48_41, x48_44, x48_45, x48_46, x48_47, x48_48, x48_51, x48_52, x48_53, x48_56, x48_59, x48_60, x48_61, x48_62, x48_65, x48_68, x48_69, x48_70, x48_71, x48_73, x48_76, x48_77, x48_78, x48_81, x48_84, x48_85, x48_86, x48_87, x48_90, x48_93, x48_94, x48_97, x48_98, x48_100, x48_103, x48_104, x48_107, x48_108, x48_111, x48_112, x48_113, x48_114, x48_115, x48_118, x48_119, x48_122, x48_125, x48_126, x48_127, x48_128, x48_131, x48_132, x48_135, x48_136, x48_137, x48_140, x48_141, x48_142, x48_145, ↓reduceIte, Bool.false_eq_true, Nat.reduceAdd, Nat.reduceLT, Nat.reduceLeDiff, Nat.reduceSub, Nat.reduceEqDiff, Int.reduceToNat, Int.reduceEq, Int.reduceLT, Int.reduceLE, Int.reduceAdd, Int.reduceSub, zg, zI, zJ, zR, zst, zkl, zn, zcat, zok, zraw, List.length_cons, List.length_nil, Option.toList, List.nil_append, List.cons_append, true_and, and_true, if_true, if_false, ne_eq, not_true, not_false_eq_true, and_self, true_or, or_true, false_or, or_false, false_and, and_false, b_2 hc, b_3 hc, b_9 hc, b_12 hc, b_26 hc, b_40 hc, b_46 hc, b_47 hc, b_60 hc, b_62 hc, b_63 hc, b_76 hc, b_77 hc, b_90 hc, b_91 hc, b_104 hc, b_107 hc, b_114 hc, b_115 hc, b_122 hc, b_123 hc, b_131 hc, b_60 hc, r_60_1 hc, h60, tb hU, tr_1 hU, tx_2 hU d1 h6', Nat.le_add_right_of_le (Tq2 hU), ua_eq, us_ne n1, z3, Int.toNat_natCast, hd0]
          obtain ⟨μ4, hμ4⟩ : ∃ μ4, μ4 = us μ3 (U + 2) (zup (μ3 (U + 2)) (pD π).length a.2.1) := ⟨_, rfl⟩
          rw [← hμ4]
          have f34 : Fr [U + 2] μ3 μ4 := by rw [hμ4]; exact Fr.us (by simp) Fr.refl
          have e42 : μ4 (U + 2) = zup (μ3 (U + 2)) (pD π).length a.2.1 := by rw [hμ4, us_same]
          clear hμ4
          have e460 : μ4 60 = μ3 60 := f34 60 (by simp; omega)
          have T4 : TK K V W st Z μ4 := TK_T hr (TK_60 T2 f3) (f34.mono (by unfold RA; simp))
          have N2 := okG_num (lo := 1) (hi := 9) (F := a.2.2) (V := V) hT.1 ha2
          refine cInt (d := d - 1) (F := a.2.2) hr (by omega) T4 ha2 (by rw [e460]; exact g33) (LF_fr g3F (by rw [e460]) (by rw [e460])) ?_
          generalize numG K V 1 9 a.1 a.2.2 = r at hQ N2 ⊢
          have fr4 : Fr (RA U) μ0 μ4 := ((H1.1.trans (f2.mono (by unfold RA; simp))).trans (f3.mono h6A)).trans (f34.mono (by unfold RA; simp))
          cases r with
          | inl e =>
            intro μ5 f5 g4 g0
            have e0 : ¬ ((e.1 : Nat) : Int) = 0 := by have := N2.1; omega
            simp only [x48_0, x48_1, x48_4, x48_7, x48_8, x48_9, x48_11, x48_14, x48_15, x48_16, x48_19, x48_20, x48_21, x48_24, x48_27, x48_28, x48_29, x48_32, x48_35, x48_36, x48_37, x48_38, x48_41, x48_44, x48_45, x48_46, x48_47, x48_48, x48_51, x48_52, x48_53, x48_56, x48_59, x48_60, x48_61, x48_62, x48_65, x48_68, x48_69, x48_70, x48_71, x48_73, x48_76, x48_77, x48_78, x48_81, x48_84, x48_85, x48_86, x48_87, x48_90, x48_93, x48_94, x48_97, x48_98, x48_100, x48_103, x48_104, x48_107, x48_108, x48_111, x48_112, x48_113, x48_114, x48_115, x48_118, x48_119, x48_122, x48_125, x48_126, x48_127, x48_128, x48_131, x48_132, x48_135, x48_136, x48_137, x48_140, x48_141, x48_142, x48_145, ↓reduceIte, Bool.false_eq_true, Nat.reduceAdd, Nat.reduceLT, Nat.reduceLeDiff, Nat.reduceSub, Nat.reduceEqDiff, Int.reduceToNat, Int.reduceEq, Int.reduceLT, Int.reduceLE, Int.reduceAdd, Int.reduceSub, zg, zI, zJ, zR, zst, zkl, zn, zcat, zok, zraw, List.length_cons, List.length_nil, Option.toList, List.nil_append, List.cons_append, true_and, and_true, if_true, if_false, ne_eq, not_true, not_false_eq_true, and_self, true_or, or_true, false_or, or_false, false_and, and_false, b_2 hc, b_3 hc, b_9 hc, b_12 hc, b_26 hc, b_40 hc, b_46 hc, b_47 hc, b_60 hc, b_62 hc, b_63 hc, b_76 hc, b_77 hc, b_90 hc, b_91 hc, b_104 hc, b_107 hc, b_114 hc, b_115 hc, b_122 hc, b_123 hc, b_131 hc, b_60 hc, r_60_1 hc, h60, tb hU, tr_2 hU, tx_3 hU d1 h6', Nat.le_add_right_of_le (Tq2 hU), ua_eq, us_ne n2, g4, e0, hd0]
            refine hQ _ (Fr.us (by unfold RA; simp) (fr4.trans (f5.mono h6A))) ?_ ?_
            · rw [us_ne n2]; exact g4
            · rw [us_ne n2]; exact g0
          | inr b =>
            intro μ5 f5 g53 g54 g5F
            obtain ⟨hb1, hb2, _⟩ := N2
            simp only [bnd] at hQ
            have z5 : μ5 60 4 = 0 := by rw [g54, e460]; exact z3
            have j1 : (0 : Int) ≤ ((b.1 : Nat) : Int) := by omega
            have j2 : ((b.1 : Nat) : Int) < 401 := by omega
            have hcb : cs ≤ b.1 := by omega
            obtain ⟨μ6, hμ6⟩ : ∃ μ6, μ6 = us μ5 (U + 3) (zup (μ5 (U + 3)) (pD π).length b.2.1) := ⟨_, rfl⟩
            have f56 : Fr [U + 3] μ5 μ6 := by rw [hμ6]; exact Fr.us (by simp) Fr.refl
            have e660 : μ6 60 = μ5 60 := f56 60 (by simp; omega)
            have e63 : μ6 (U + 3) = zup (μ (U + 3)) (pD π).length b.2.1 := by
              rw [hμ6, us_same, f5 (U + 3) (by simp; omega), f34 (U + 3) (by simp), f3 (U + 3) (by simp; omega), f2 (U + 3) (by simp; omega), f01 (U + 3) (by simp; omega)]
            have e62 : μ6 (U + 2) = zup (μ (U + 2)) (pD π).length a.2.1 := by
              rw [f56 (U + 2) (by simp), f5 (U + 2) (by simp; omega), e42, f3 (U + 2) (by simp; omega), f2 (U + 2) (by simp; omega), f01 (U + 2) (by simp; omega)]
            have e64 : μ6 (U + 4) = zup (μ (U + 4)) (pD π).length (W (p + 1)) := by
              rw [f56 (U + 4) (by simp), f5 (U + 4) (by simp; omega), f34 (U + 4) (by simp), f3 (U + 4) (by simp; omega), g27, f01 (U + 4) (by simp; omega)]
            have e6x : ∀ x, x ≠ U + 2 → x ≠ U + 3 → x ≠ U + 4 → x ≠ 60 → μ6 x = μ x := fun x x2 x3 x4 x60 => by
              rw [f56 x (by simp; exact x3), f5 x (by simp; exact x60), f34 x (by simp; exact x2), f3 x (by simp; exact x60), f2 x (by simp; exact ⟨x60, x4⟩), f01 x (by simp; exact x60)]
            have e6U : μ6 U = μ U := e6x U (by omega) (by omega) (by omega) (by omega)
            have T6 : TK K V W st Z μ6 := TK_T hr (TK_60 T4 f5) (f56.mono (by unfold RA; simp))
            have fr6 : Fr (RA U) μ0 μ6 := (fr4.trans (f5.mono h6A)).trans (f56.mono (by unfold RA; simp))
            have gk := (T6.2.2.2 b.1 hb2).1
            have g63 : μ6 60 3 = (b.1 : Nat) := by rw [e660]; exact g53
            have z6 : μ6 60 4 = 0 := by rw [e660]; exact z5
            have g6F : LF b.2.2 st μ6 := LF_fr g5F (by rw [e660]) (by rw [e660])
            have e615 : μ6 U 15 = μ U 15 := by rw [e6U]
            by_cases k31 : K b.1 = 31
            · rw [if_pos k31] at hQ
              have k31' : ((K b.1 : Nat) : Int) = 31 := by omega
              rw [k31'] at gk
              simp only [x48_0, x48_1, x48_4, x48_7, x48_8, x48_9, x48_11, x48_14, x48_15, x48_16, x48_19, x48_20, x48_21, x48_24, x48_27, x48_28, x48_29, x48_32, x48_35, x48_36, x48_37, x48_38, x48_41, x48_44, x48_45, x48_46, x48_47, x48_48, x48_51, x48_52, x48_53, x48_56, x48_59, x48_60, x48_61, x48_62, x48_65, x48_68, x48_69, x48_70, x48_71, x48_73, x48_76, x48_77, x48_78, x48_81, x48_84, x48_85, x48_86, x48_87, x48_90, x48_93, x48_94, x48_97, x48_98, x48_100, x48_103, x48_104, x48_107, x48_108, x48_111, x48_112, x48_113, x48_114, x48_115, x48_118, x48_119, x48_122, x48_125, x48_126, x48_128, x48_131, x48_132, x48_135, x48_136, x48_137, x48_140, x48_141, x48_142, x48_145, ↓reduceIte, Bool.false_eq_true, Nat.reduceAdd, Nat.reduceLT, Nat.reduceLeDiff, Nat.reduceSub, Nat.reduceEqDiff, Int.reduceToNat, Int.reduceEq, Int.reduceLT, Int.reduceLE, Int.reduceAdd, Int.reduceSub, zg, zI, zJ, zR, zst, zkl, zn, zcat, zok, zraw, List.length_cons, List.length_nil, Option.toList, List.nil_append, List.cons_append, true_and, and_true, if_true, if_false, ne_eq, not_true, not_false_eq_true, and_self, true_or, or_true, false_or, or_false, false_and, and_false, b_2 hc, b_3 hc, b_9 hc, b_12 hc, b_26 hc, b_40 hc, b_46 hc, b_47 hc, b_60 hc, b_62 hc, b_63 hc, b_76 hc, b_77 hc, b_90 hc, b_91 hc, b_104 hc, b_107 hc, b_114 hc, b_115 hc, b_122 hc, b_123 hc, b_131 hc, b_3 hc, r_3_0 hc, x_4 hc, r_3_1 hc, x_5 hc, r_3_2 hc, x_6 hc, r_3_4 hc, x_7 hc, n_7 hc, r_3_5 hc, x_8 hc, b_60 hc, r_60_1 hc, h60, tb hU, Tq2 hU, tr_2 hU, tx_3 hU d1 h6', Nat.le_add_right_of_le (Tq2 hU), ua_eq, Int.toNat_natCast, ← hμ6, z6, x_4 hc j1 j2, g63, gk, hd0]
              have f67 : Fr [U] μ6 (us μ6 U (zup (μ6 U) 15 (zor (μ6 U 15) (zshl 1 ((pD π).length : Nat))))) := Fr.us (by simp) Fr.refl
              have n3 : 60 ≠ U := by omega
              refine cPass (d := d - 1) hr (TK_T hr T6 (f67.mono (by unfold RA; simp))) hb2 (by rw [us_ne n3]; exact g63) (fun h7 => ?_) (fun h7 μ8 f8 g4 g0 => ?_)
              · rw [nx_lt h7] at hQ
                have hb3 := hT.1.2 b.1 h7 hb2 (by omega)
                simp only [bnd] at hQ
                simp only [x48_0, x48_1, x48_4, x48_7, x48_8, x48_9, x48_11, x48_14, x48_15, x48_16, x48_19, x48_20, x48_21, x48_24, x48_27, x48_28, x48_29, x48_32, x48_35, x48_36, x48_37, x48_38, x48_41, x48_44, x48_45, x48_46, x48_47, x48_48, x48_51, x48_52, x48_53, x48_56, x48_59, x48_60, x48_61, x48_62, x48_65, x48_68, x48_69, x48_70, x48_71, x48_73, x48_76, x48_77, x48_78, x48_81, x48_84, x48_85, x48_86, x48_87, x48_90, x48_93, x48_94, x48_97, x48_98, x48_100, x48_103, x48_104, x48_107, x48_108, x48_111, x48_112, x48_113, x48_114, x48_115, x48_118, x48_119, x48_122, x48_125, x48_126, x48_128, x48_131, x48_132, x48_135, x48_136, x48_137, x48_140, x48_141, x48_142, x48_145, ↓reduceIte, Bool.false_eq_true, Nat.reduceAdd, Nat.reduceLT, Nat.reduceLeDiff, Nat.reduceSub, Nat.reduceEqDiff, Int.reduceToNat, Int.reduceEq, Int.reduceLT, Int.reduceLE, Int.reduceAdd, Int.reduceSub, zg, zI, zJ, zR, zst, zkl, zn, zcat, zok, zraw, List.length_cons, List.length_nil, Option.toList, List.nil_append, List.cons_append, true_and, and_true, if_true, if_false, ne_eq, not_true, not_false_eq_true, and_self, true_or, or_true, false_or, or_false, false_and, and_false]
                refine cDoorEnd (d := d) (p := p) (q := b.1 + 1) (n := p + 1) (a := a.2.1) (b := b.2.1) (o := 1) (F := b.2.2) (cs := cs) (μ := μ) hr (by omega) hb3 (by omega) hM (by omega) (TK_60 (TK_T hr T6 (f67.mono (by unfold RA; simp))) (Fr.us (by simp) Fr.refl)) (Fr.us (by unfold RA; simp) (fr6.trans (f67.mono (by unfold RA; simp)))) (by rw [us_same, zup_same rfl]) ?_ ?_ ?_ ?_ ?_ ?_ ?_ ?_ ?_ hQ
                · rw [us_same, zup_ne (by decide), us_ne n3]; exact z6
                · exact LF_fr g6F (by rw [us_same, zup_ne (by decide), us_ne n3]) (by rw [us_same, zup_ne (by decide), us_ne n3])
                · intro x x0 x2 x3 x4 x60; rw [us_ne x60, us_ne x0]; exact e6x x x2 x3 x4 x60
                · rw [us_ne (by omega), us_ne (by omega)]; exact e62
                · rw [us_ne (by omega), us_ne (by omega)]; exact e63
                · rw [us_ne (by omega), us_ne (by omega)]; exact e64
                · rw [us_ne (by omega), us_same, zup_ne (by decide), e6U]; exact e14
                · rw [us_ne (by omega), us_same, zup_same rfl, e615]; exact Or.inr ⟨rfl, rfl⟩
                · rw [us_ne (by omega), us_same, zup_ne (by decide), e6U]
              · rw [nx_ge h7] at hQ
                simp only [x48_0, x48_1, x48_4, x48_7, x48_8, x48_9, x48_11, x48_14, x48_15, x48_16, x48_19, x48_20, x48_21, x48_24, x48_27, x48_28, x48_29, x48_32, x48_35, x48_36, x48_37, x48_38, x48_41, x48_44, x48_45, x48_46, x48_47, x48_48, x48_51, x48_52, x48_53, x48_56, x48_59, x48_60, x48_61, x48_62, x48_65, x48_68, x48_69, x48_70, x48_71, x48_73, x48_76, x48_77, x48_78, x48_81, x48_84, x48_85, x48_86, x48_87, x48_90, x48_93, x48_94, x48_97, x48_98, x48_100, x48_103, x48_104, x48_107, x48_108, x48_111, x48_112, x48_113, x48_114, x48_115, x48_118, x48_119, x48_122, x48_125, x48_126, x48_128, x48_131, x48_132, x48_135, x48_136, x48_137, x48_140, x48_141, x48_142, x48_145, ↓reduceIte, Bool.false_eq_true, Nat.reduceAdd, Nat.reduceLT, Nat.reduceLeDiff, Nat.reduceSub, Nat.reduceEqDiff, Int.reduceToNat, Int.reduceEq, Int.reduceLT, Int.reduceLE, Int.reduceAdd, Int.reduceSub, zg, zI, zJ, zR, zst, zkl, zn, zcat, zok, zraw, List.length_cons, List.length_nil, Option.toList, List.nil_append, List.cons_append, true_and, and_true, if_true, if_false, ne_eq, not_true, not_false_eq_true, and_self, true_or, or_true, false_or, or_false, false_and, and_false]
                exact hQ μ8 (fr6.trans ((f67.mono (by unfold RA; simp)).trans (f8.mono h6A))) g4 g0
            · rw [if_neg k31] at hQ
              have k31' : ¬ ((K b.1 : Nat) : Int) = 31 := by omega
              simp only [x48_0, x48_1, x48_4, x48_7, x48_8, x48_9, x48_11, x48_14, x48_15, x48_16, x48_19, x48_20, x48_21, x48_24, x48_27, x48_28, x48_29, x48_32, x48_35, x48_36, x48_37, x48_38, x48_41, x48_44, x48_45, x48_46, x48_47, x48_48, x48_51, x48_52, x48_53, x48_56, x48_59, x48_60, x48_61, x48_62, x48_65, x48_68, x48_69, x48_70, x48_71, x48_73, x48_76, x48_77, x48_78, x48_81, x48_84, x48_85, x48_86, x48_87, x48_90, x48_93, x48_94, x48_97, x48_98, x48_100, x48_103, x48_104, x48_107, x48_108, x48_111, x48_112, x48_113, x48_114, x48_115, x48_118, x48_119, x48_122, x48_125, x48_126, x48_128, x48_131, x48_132, x48_135, x48_136, x48_137, x48_140, x48_141, x48_142, x48_145, ↓reduceIte, Bool.false_eq_true, Nat.reduceAdd, Nat.reduceLT, Nat.reduceLeDiff, Nat.reduceSub, Nat.reduceEqDiff, Int.reduceToNat, Int.reduceEq, Int.reduceLT, Int.reduceLE, Int.reduceAdd, Int.reduceSub, zg, zI, zJ, zR, zst, zkl, zn, zcat, zok, zraw, List.length_cons, List.length_nil, Option.toList, List.nil_append, List.cons_append, true_and, and_true, if_true, if_false, ne_eq, not_true, not_false_eq_true, and_self, true_or, or_true, false_or, or_false, false_and, and_false, b_2 hc, b_3 hc, b_9 hc, b_12 hc, b_26 hc, b_40 hc, b_46 hc, b_47 hc, b_60 hc, b_62 hc, b_63 hc, b_76 hc, b_77 hc, b_90 hc, b_91 hc, b_104 hc, b_107 hc, b_114 hc, b_115 hc, b_122 hc, b_123 hc, b_131 hc, b_3 hc, r_3_0 hc, x_4 hc, r_3_1 hc, x_5 hc, r_3_2 hc, x_6 hc, r_3_4 hc, x_7 hc, n_7 hc, r_3_5 hc, x_8 hc, b_60 hc, r_60_1 hc, h60, tb hU, Tq2 hU, tr_2 hU, tx_3 hU d1 h6', Nat.le_add_right_of_le (Tq2 hU), ua_eq, Int.toNat_natCast, ← hμ6, z6, x_4 hc j1 j2, g63, gk, k31', hd0]
              exact cDoorEnd (d := d) (p := p) (q := b.1) (n := p + 1) (a := a.2.1) (b := b.2.1) (o := 0) (F := b.2.2) (cs := cs) (μ := μ) hr (by omega) hb2 hcb hM (by omega) T6 fr6 g63 z6 g6F (fun x x0 x2 x3 x4 x60 => e6x x x2 x3 x4 x60) e62 e63 e64 (by rw [e6U]; exact e14) (Or.inl ⟨rfl, e615⟩) (by rw [e6U]) hQ
    · rw [nx_ge h4] at hQ
      simp only [x48_0, x48_1, x48_4, x48_7, x48_8, x48_9, x48_11, x48_14, x48_15, x48_16, x48_19, x48_20, x48_21, x48_24, x48_27, x48_28, x48_29, x48_32, x48_35, x48_36, x48_37, x48_38, x48_41, x48_44, x48_45, x48_46, x48_47, x48_48, x48_51, x48_52, x48_53, x48_56, x48_59, x48_60, x48_61, x48_62, x48_65, x48_68, x48_69, x48_70, x48_71, x48_73, x48_76, x48_77, x48_78, x48_81, x48_84, x48_85, x48_86, x48_87, x48_90, x48_93, x48_94, x48_97, x48_98, x48_100, x48_103, x48_104, x48_107, x48_108, x48_111, x48_112, x48_113, x48_114, x48_115, x48_118, x48_119, x48_122, x48_125, x48_126, x48_127, x48_128, x48_131, x48_132, x48_135, x48_136, x48_137, x48_140, x48_141, x48_142, x48_145, ↓reduceIte, Bool.false_eq_true, Nat.reduceAdd, Nat.reduceLT, Nat.reduceLeDiff, Nat.reduceSub, Nat.reduceEqDiff, Int.reduceToNat, Int.reduceEq, Int.reduceLT, Int.reduceLE, Int.reduceAdd, Int.reduceSub, zg, zI, zJ, zR, zst, zkl, zn, zcat, zok, zraw, List.length_cons, List.length_nil, Option.toList, List.nil_append, List.cons_append, true_and, and_true, if_true, if_false, ne_eq, not_true, not_false_eq_true, and_self, true_or, or_true, false_or, or_false, false_and, and_false]
      exact hQ μ2 (hf.trans (f2.mono h6A)) g4 g0
end RX
