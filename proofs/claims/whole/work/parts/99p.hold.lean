/-! CALLS: hold, restore, of the reference: the whole of them -/
section RHR
variable {θ : zS} {σ : zSt} {Q : Option zV → zS → zM → Prop} {μ μ' : zM} {s N : Nat} {γ : zG}
def RHA : List Nat := [198, 199, 200, 201, 202, 203, 204, 205, 206, 207, 208, 209, 210, 211, 212, 213]
theorem MS_hold (hN3 : N < 3) (h : MS θ σ s μ) (F : Fr RHA μ μ') (R198 : μ' 198 = zup (μ 198) N 1) (R199 : μ' 199 = hcO (μ 172) (μ 199) (36 * N) 36) (R200 : μ' 200 = hcO (μ 173) (μ 200) (36 * N) 36) (R201 : μ' 201 = hcO (μ 174) (μ 201) (36 * N) 36) (R202 : μ' 202 = hcO (μ 175) (μ 202) (36 * N) 36) (R203 : μ' 203 = hcO (μ 176) (μ 203) (36 * N) 36)
    (R204 : μ' 204 = hcO (μ 177) (μ 204) (6 * N) 6) (R205 : μ' 205 = zup (μ 205) N (μ 138 57)) (R206 : μ' 206 = hcO (μ 178) (μ 206) (480 * N) 480) (R207 : μ' 207 = zup (μ 207) N (μ 138 59)) (R208 : μ' 208 = hcO (μ 179) (μ 208) (8 * N) 8) (R209 : μ' 209 = hcO (μ 180) (μ 209) (8 * N) 8)
    (R210 : μ' 210 = zup (μ 210) N (μ 138 62)) (R211 : μ' 211 = hcO (μ 181) (μ 211) (4 * N) 4) (R212 : μ' 212 = hcO (μ 182) (μ 212) (4 * N) 4) (R213 : μ' 213 = hcO (μ 183) (μ 213) (4 * N) 4) : MS θ (slS σ N (sG σ)) s μ' := by
  have hwT := MS_wt h
  have htn := tn_b hwT
  have hD : tD (sT σ) ≤ 6 := hwT.2.2.2.2.1
  have h8 := h.2.1.2.1.2.2.1.1
  have h4 := h.2.1.2.1.2.2.2.1
  obtain ⟨hX, hws, hR, hl, hv, htp, hp⟩ := h
  have e : ∀ a, a ∉ RHA → μ' a = μ a := fun a ha => F a ha
  have e138 : μ' 138 = μ 138 := e 138 (by decide)
  refine ⟨MX_fr hX F (by decide) (by rw [e138]), slS_w hws, ?_, ?_, ?_, ?_, ?_⟩
  · show MSn (sT σ) (sG σ) μ'
    unfold MSn MR ML MU
    rw [e138, e 172 (by decide), e 173 (by decide), e 174 (by decide), e 175 (by decide), e 176 (by decide), e 177 (by decide), e 178 (by decide), e 179 (by decide), e 180 (by decide), e 181 (by decide), e 182 (by decide), e 183 (by decide)]
    exact hR
  · intro j hj
    show match (if j = N then some (sG σ) else sL σ j) with
      | none => μ' 198 j = 0
      | some γ => μ' 198 j = 1 ∧ MHn (sT σ) γ j μ'
    by_cases ej : j = N
    · rw [if_pos ej, ej]
      obtain ⟨⟨⟨hwF, m1, m2, m3⟩, m0⟩, hy, ⟨hc1, hc2⟩, hu1, hu2⟩ := hR
      refine ⟨by rw [R198, zup_same rfl], ⟨fun t ht => ?_, fun k hk => ?_, ?_⟩, fun k hk => ?_, ⟨?_, fun k hk => ?_⟩, ?_, fun k hk => ?_⟩
      · rw [R199, R200, R201, R202, R203, hc_in (show t < 36 by omega), hc_in (show t < 36 by omega), hc_in (show t < 36 by omega), hc_in (show t < 36 by omega), hc_in (show t < 36 by omega)]
        have := m1 t ht
        exact ⟨⟨m0 t ht, this.1⟩, this.2⟩
      · rw [R204, hc_in (show k < 6 by omega)]; exact m2 k hk
      · rw [R205, zup_same rfl]; exact m3
      · rw [R206, hc_in hk]; exact hy k hk
      · rw [R207, zup_same rfl]; exact hc1
      · rw [R208, R209, hc_in (show k < 8 by omega), hc_in (show k < 8 by omega)]; exact hc2 k hk
      · rw [R210, zup_same rfl]; exact hu1
      · rw [R211, R212, R213, hc_in (show k < 4 by omega), hc_in (show k < 4 by omega), hc_in (show k < 4 by omega)]; exact hu2 k hk
    · rw [if_neg ej]
      have := hl j hj
      cases hs : sL σ j with
      | none => rw [hs] at this; simp only at this ⊢; rw [R198, zup_ne ej]; exact this
      | some γ =>
        rw [hs] at this
        simp only at this ⊢
        have wγ := hws.2.2.1 j γ hj hs
        have k8 := wγ.2.2.1.1
        have k4 := wγ.2.2.2.1
        obtain ⟨t198, ⟨m1, m2, m3⟩, hy, ⟨hc1, hc2⟩, hu1, hu2⟩ := this
        refine ⟨by rw [R198, zup_ne ej]; exact t198, ⟨fun t ht => ?_, fun k hk => ?_, ?_⟩, fun k hk => ?_, ⟨?_, fun k hk => ?_⟩, ?_, fun k hk => ?_⟩
        · have q : ¬ (36 * N ≤ 36 * j + t ∧ 36 * j + t < 36 * N + 36) := by omega
          rw [R199, R200, R201, R202, R203, hc_out q, hc_out q, hc_out q, hc_out q, hc_out q]
          exact m1 t ht
        · rw [R204, hc_out (by omega)]; exact m2 k hk
        · rw [R205, zup_ne ej]; exact m3
        · rw [R206, hc_out (by omega)]; exact hy k hk
        · rw [R207, zup_ne ej]; exact hc1
        · have q : ¬ (8 * N ≤ 8 * j + k ∧ 8 * j + k < 8 * N + 8) := by omega
          rw [R208, R209, hc_out q, hc_out q]; exact hc2 k hk
        · rw [R210, zup_ne ej]; exact hu1
        · have q : ¬ (4 * N ≤ 4 * j + k ∧ 4 * j + k < 4 * N + 4) := by omega
          rw [R211, R212, R213, hc_out q, hc_out q, hc_out q]; exact hu2 k hk
  · show MV2 (sV σ) μ'
    unfold MV2; rw [e138, e 193 (by decide), e 194 (by decide), e 195 (by decide), e 196 (by decide), e 197 (by decide)]; exact hv
  · rw [e138, e 139 (by decide)]; exact htp
  · rw [e138]; unfold MKd; rw [e 145 (by decide)]
    refine ⟨hp.1, hp.2.1, ?_⟩
    show TS (sT σ) s μ'
    unfold TS TQb; rw [e 152 (by decide), e 153 (by decide), e 155 (by decide), e 156 (by decide), e 164 (by decide), e 166 (by decide)]; exact hp.2.2
theorem MS_rest (hN3 : N < 3) (h : MS θ σ s μ) (hL : sL σ N = some γ) (F : Fr [138, 172, 173, 174, 175, 176, 177, 178, 179, 180, 181, 182, 183] μ μ') (hj : ∀ j, j ≠ 57 → j ≠ 59 → j ≠ 62 → μ' 138 j = μ 138 j)
    (R199 : μ' 172 = hrO (μ 199) (μ 172) (36 * N) 36) (R200 : μ' 173 = hrO (μ 200) (μ 173) (36 * N) 36) (R201 : μ' 174 = hrO (μ 201) (μ 174) (36 * N) 36) (R202 : μ' 175 = hrO (μ 202) (μ 175) (36 * N) 36) (R203 : μ' 176 = hrO (μ 203) (μ 176) (36 * N) 36)
    (R204 : μ' 177 = hrO (μ 204) (μ 177) (6 * N) 6) (R205 : μ' 138 57 = μ 205 N) (R206 : μ' 178 = hrO (μ 206) (μ 178) (480 * N) 480) (R207 : μ' 138 59 = μ 207 N) (R208 : μ' 179 = hrO (μ 208) (μ 179) (8 * N) 8) (R209 : μ' 180 = hrO (μ 209) (μ 180) (8 * N) 8)
    (R210 : μ' 138 62 = μ 210 N) (R211 : μ' 181 = hrO (μ 211) (μ 181) (4 * N) 4) (R212 : μ' 182 = hrO (μ 212) (μ 182) (4 * N) 4) (R213 : μ' 183 = hrO (μ 213) (μ 183) (4 * N) 4) : MS θ (setS σ γ (sM σ)) s μ' := by
  have hwT := MS_wt h
  have htn := tn_b hwT
  have hD : tD (sT σ) ≤ 6 := hwT.2.2.2.2.1
  have wγ := h.2.1.2.2.1 N γ hN3 hL
  have hM := h.2.1.2.2.2.2.2
  have k8 := wγ.2.2.1.1
  have k4 := wγ.2.2.2.1
  have hl := h.2.2.2.1 N hN3
  rw [hL] at hl
  obtain ⟨_, ⟨m1, m2, m3⟩, hy, ⟨hc1, hc2⟩, hu1, hu2⟩ := hl
  refine MS_set h ⟨Nat.le_refl _, hM⟩ (F.mono (by simp)) (fun j hh => hj j (by omega) (by omega) (by omega)) wγ ⟨⟨⟨wγ.1, fun t ht => ?_, fun k hk => ?_, ?_⟩, fun t ht => ?_⟩, fun k hk => ?_, ⟨?_, fun k hk => ?_⟩, ?_, fun k hk => ?_⟩
  · rw [R200, R201, R202, R203, hr_in (show t < 36 by omega), hr_in (show t < 36 by omega), hr_in (show t < 36 by omega), hr_in (show t < 36 by omega)]
    have := m1 t ht
    exact ⟨this.1.2, this.2⟩
  · rw [R204, hr_in (show k < 6 by omega)]; exact m2 k hk
  · rw [R205]; exact m3
  · rw [R199, hr_in (show t < 36 by omega)]; exact (m1 t ht).1.1
  · rw [R206, hr_in hk]; exact hy k hk
  · rw [R207]; exact hc1
  · rw [R208, R209, hr_in (show k < 8 by omega), hr_in (show k < 8 by omega)]; exact hc2 k hk
  · rw [R210]; exact hu1
  · rw [R211, R212, R213, hr_in (show k < 4 by omega), hr_in (show k < 4 by omega), hr_in (show k < 4 by omega)]; exact hu2 k hk
end RHR
