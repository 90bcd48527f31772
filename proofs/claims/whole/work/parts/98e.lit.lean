/-! THE REFERENCE reads: a LIT behind its nots -/
section LK
variable {θ : zS} {Q : Option zV → zS → zM → Prop} {μ μ0 : zM} {K : Nat → Nat} {V W st : Nat → Int} {Z a : Nat}
theorem QE_app {c1 c2 : zC} {μ1 μ2 : zM} (h : QE a [] c1 μ0 μ1) (g : QE (a + c1.length) [] c2 μ1 μ2) : QE a [] (c1 ++ c2) μ0 μ2 := by
  obtain ⟨hf, h47, hw, h43, hj, ha, hc⟩ := h
  obtain ⟨gf, g47, gw, g43, gj, ga, gc⟩ := g
  refine ⟨hf.trans gf, g47, gw, ?_, fun j j1 j2 j3 j4 => by rw [gj j j1 j2 j3 j4, hj j j1 j2 j3 j4], fun i hi => ?_, fun i hi => ?_⟩
  · rw [g43]; simp; omega
  · have := ga i (by omega); rw [this.1, this.2]; exact ha i hi
  · by_cases q : i < c1.length
    · have := ga (a + i) (by omega); rw [this.1, this.2, List.getElem_append_left q]; exact hc i q
    · have hi' : i - c1.length < c2.length := by simp at hi; omega
      have := gc (i - c1.length) hi'
      rw [show a + c1.length + (i - c1.length) = a + i by omega] at this
      rw [List.getElem_append_right (by omega)]; exact this
theorem FQ_QE {w : List Nat} {c : zC} {e : Nat × Nat} {μ' : zM} (h : QE a w c μ0 μ) (g : FQ st e μ μ') : FQ st e μ0 μ' :=
  ⟨h.1.trans g.1, g.2.1, g.2.2.1, g.2.2.2.1, fun j j1 j2 j3 j4 j5 j6 => by rw [g.2.2.2.2.1 j j1 j2 j3 j4 j5 j6]; exact h.2.2.2.2.1 j j1 j2 j5 j6, g.2.2.2.2.2⟩
end LK
