/-! one instruction of the mini machine on the machine: memory and branches -/
theorem zob_iff {θ : zS} {a c : Nat} : zob θ a c = true ↔ θ.1[a]? = some (.inl c) := by
  unfold zob
  constructor
  · intro h
    cases ha : θ.1[a]? with
    | none => rw [ha] at h; exact absurd (show false = true from h) (fun q => by cases q)
    | some q =>
      rw [ha] at h
      cases q with
      | inl x =>
        have h : (x == c) = true := h
        rw [beq_iff_eq] at h
        rw [h]
      | inr x => exact absurd (show false = true from h) (fun q => by cases q)
  · intro h
    rw [h]
    show (c == c) = true
    exact beq_self_eq_true c
theorem zix_iff {θ : zS} {t : FieldType} {a : Nat} {i : Int} : zix θ t a i = true ↔ ∃ n : Nat, θ.1[a]? = some (.inr (t, n)) ∧ 0 ≤ i ∧ i < (n : Int) := by
  unfold zix
  constructor
  · intro h
    split at h
    · rename_i u n hu
      simp only [Bool.and_eq_true, beq_iff_eq, decide_eq_true_eq] at h
      obtain ⟨rfl, h1, h2⟩ := h
      exact ⟨n, hu, h1, h2⟩
    · cases h
  · rintro ⟨n, h, h1, h2⟩
    rw [h]
    simp only [beq_self_eq_true, Bool.true_and, decide_eq_true_eq]
    exact ⟨h1, h2⟩
theorem zlt_of {θ : zS} {a : Nat} {q : Nat ⊕ (FieldType × Nat)} (h : θ.1[a]? = some q) : a < θ.1.length := (List.getElem?_eq_some_iff.mp h).1
theorem zWF.two {θ : zS} {μ : zM} {Lx : Nat} {xs : Nat → Int32} {a c : Nat} (h : zWF θ μ Lx xs) (ha : θ.1[a]? = some (.inl c)) (hc : c < 13) : 2 ≤ a := by
  rcases a with _ | _ | a
  · rw [h.2.1] at ha; cases ha; omega
  · rw [h.2.2.1] at ha; cases ha
  · omega
theorem zWF.wua {θ : zS} {μ : zM} {Lx : Nat} {xs : Nat → Int32} {a j : Nat} {x : Int} (h : zWF θ μ Lx xs) (h2 : 2 ≤ a) (hx : if zlg θ a j = true then R64 x else R32 x) : zWF θ (ua μ a j x) Lx xs := by
  obtain ⟨q1, q2, q3, q4, q5, q6, q7, q8⟩ := h
  refine ⟨q1, q2, q3, fun k hk => ?_, q5, q6, q7, fun b k => ?_⟩
  · unfold ua; rw [if_neg (fun q => by omega)]; exact q4 k hk
  · unfold ua
    by_cases hq : b = a ∧ k = j
    · rw [if_pos hq, hq.1, hq.2]; exact hx
    · rw [if_neg hq]; exact q8 b k
theorem zWF.wur {θ : zS} {μ : zM} {Lx : Nat} {xs : Nat → Int32} {a j : Nat} {r : Option Nat} (h : zWF θ μ Lx xs) (hr : ∀ b, r = some b → b < θ.1.length) : zWF (θ.1, ur θ.2 a j r) μ Lx xs := by
  obtain ⟨q1, q2, q3, q4, q5, q6, q7, q8⟩ := h
  refine ⟨q1, q2, q3, q4, q5, q6, fun b k b2 hb => ?_, q8⟩
  have hb : ur θ.2 a j r b k = some b2 := hb
  unfold ur at hb
  by_cases hq : b = a ∧ k = j
  · rw [if_pos hq] at hb; exact hr _ hb
  · rw [if_neg hq] at hb; exact q7 b k b2 hb
theorem zcel_o {ad : Nat → Nat} {ca : FieldType → ClassId} {θ : zS} {μ : zM} {a c : Nat} (h : θ.1[a]? = some (.inl c)) : zcel ad ca θ μ a = .inr (c, zfs ad θ μ a c) := by unfold zcel; rw [h]
theorem zcel_a {ad : Nat → Nat} {ca : FieldType → ClassId} {θ : zS} {μ : zM} {a n : Nat} {t : FieldType} (h : θ.1[a]? = some (.inr (t, n))) : zcel ad ca θ μ a = .inl (ca t, n, zarr ad θ μ a t) := by unfold zcel; rw [h]
theorem zfv_i {ad : Nat → Nat} {θ : zS} {μ : zM} {a c j : Nat} (h : zfk c j % 10 = 0 ∨ zfk c j % 10 = 3) : zfv ad θ μ a c j = .int (Int32.ofInt (μ a j)) := by unfold zfv; rcases h with h | h <;> rw [h] <;> rfl
theorem zfv_l {ad : Nat → Nat} {θ : zS} {μ : zM} {a c j : Nat} (h : zfk c j % 10 = 1) : zfv ad θ μ a c j = .long (Int64.ofInt (μ a j)) := by unfold zfv; rw [h]; rfl
theorem zfv_r {ad : Nat → Nat} {θ : zS} {μ : zM} {a c j : Nat} (h : zfk c j % 10 = 2) : zfv ad θ μ a c j = va_rf ((θ.2 a j).map ad) := by unfold zfv; rw [h]; rfl
theorem zlg_o {θ : zS} {a c j : Nat} (h : θ.1[a]? = some (.inl c)) : zlg θ a j = (zfk c j % 10 == 1) := by unfold zlg; rw [h]
theorem zlg_a {θ : zS} {a n j : Nat} {t : FieldType} (h : θ.1[a]? = some (.inr (t, n))) : zlg θ a j = (t == .long) := by unfold zlg; rw [h]
theorem zWF.r32 {θ : zS} {μ : zM} {Lx : Nat} {xs : Nat → Int32} {a j : Nat} (h : zWF θ μ Lx xs) (hl : zlg θ a j = false) : R32 (μ a j) := by
  have := h.2.2.2.2.2.2.2 a j
  rw [hl] at this
  exact this
theorem zWF.r64 {θ : zS} {μ : zM} {Lx : Nat} {xs : Nat → Int32} {a j : Nat} (h : zWF θ μ Lx xs) (hl : zlg θ a j = true) : R64 (μ a j) := by
  have := h.2.2.2.2.2.2.2 a j
  rw [hl] at this
  exact this
theorem zTf_eq {ci j : Nat} {C : String} {T : u_T} {N : Nat} (h : vwCl[ci]? = some (C, T, N)) : zTf ci j = T j := by unfold zTf; rw [h]
theorem vp_inI {i : Int} {n : Nat} (hi : R32 i) (h0 : 0 ≤ i) (h1 : i < (n : Int)) : vp_in (Int32.ofInt i) n := by
  unfold vp_in
  rintro (h | h)
  · have := (e32_lt hi (show R32 0 by constructor <;> omega)).mp h
    omega
  · rw [e32_nat hi] at h
    omega
theorem nar_z {x : Int} (h : x = 0 ∨ x = 1) : narrow .boolean (.int (Int32.ofInt x)) = .int (Int32.ofInt x) ∧ fits .boolean (.int (Int32.ofInt x)) = true := by
  rcases h with rfl | rfl
  · exact ⟨narrow_b0, rfl⟩
  · exact ⟨narrow_b1, rfl⟩
section ZB
variable {p : Program} {l : Launch} {e : Env} {R : Room} {s : State} {m : MethodId} {args : Array Value} {below : List Frame} {meth : Method} {c : Code} {H : Heap} {locs : List Loc} {cells slots : Nat} {Q : State → Prop}
variable {D : va_G} {ca : FieldType → ClassId} {z0 Lx : Nat} {xs : Nat → Int32} {ad : Nat → Nat} {θ θ' : zS} {μ μ' : zM} {z pc pc' n : Nat} {L S L' S' : List zV} {ls : Array Slot}
/-- a write to an object's field, in the words of the mini machine -/
theorem zMem.putO {a c0 j : Nat} {v : Value} {H1 : Heap} (hM : zMem D ca z0 Lx xs ad θ μ H) (ha : θ.1[a]? = some (.inl c0)) (h2 : 2 ≤ a) (hθ : θ'.1 = θ.1) (hW : zWF θ' μ' Lx xs) (hne : ∀ b, b ≠ a → zcel ad ca θ' μ' b = zcel ad ca θ μ b)
    (hf : ∀ k, k ≠ j → zfv ad θ' μ' a c0 k = zfv ad θ μ a c0 k) (hv : zfv ad θ' μ' a c0 j = v) (hP : va_P D vwCl ((zwl ad ca θ μ).set (a - 2) (ad a, .inr (c0, (zfs ad θ μ a c0).set j v))) H1) (hD : va_D (fun q => z0 ≤ q) ((zwl ad ca θ μ).set (a - 2) (ad a, .inr (c0, (zfs ad θ μ a c0).set j v)))) : zMem D ca z0 Lx xs ad θ' μ' H1 := by
  have e1 : (ad a, (.inr (c0, (zfs ad θ μ a c0).set j v) : va_E)) = (ad a, zcel ad ca θ' μ' a) := by
    rw [zcel_o (by rw [hθ]; exact ha), ← hv, zfs_set hf]
  rw [e1, zwl_set h2 (zlt_of ha) (by rw [hθ]) hne] at hP hD
  exact ⟨hP, hD, hW⟩
theorem zMem.putA {a k : Nat} {t : FieldType} {x : (Nat → Int32) ⊕ (Nat → Int64) ⊕ (Nat → UInt32) ⊕ (Nat → UInt64) ⊕ (Nat → Option Nat)} {H1 : Heap} (_hM : zMem D ca z0 Lx xs ad θ μ H) (ha : θ.1[a]? = some (.inr (t, k))) (h2 : 2 ≤ a) (hθ : θ'.1 = θ.1) (hW : zWF θ' μ' Lx xs) (hne : ∀ b, b ≠ a → zcel ad ca θ' μ' b = zcel ad ca θ μ b)
    (hv : zarr ad θ' μ' a t = x) (hP : va_P D vwCl ((zwl ad ca θ μ).set (a - 2) (ad a, .inl (ca t, k, x))) H1) (hD : va_D (fun q => z0 ≤ q) ((zwl ad ca θ μ).set (a - 2) (ad a, .inl (ca t, k, x)))) : zMem D ca z0 Lx xs ad θ' μ' H1 := by
  have e1 : (ad a, (.inl (ca t, k, x) : va_E)) = (ad a, zcel ad ca θ' μ' a) := by
    rw [zcel_a (by rw [hθ]; exact ha), ← hv]
  rw [e1, zwl_set h2 (zlt_of ha) (by rw [hθ]) hne] at hP hD
  exact ⟨hP, hD, hW⟩

theorem s_getfield {k : Nat} (hC : zCtx p s m args meth c z L.length) (hE : zEnv D ca z0 Lx xs ad s) (hO : zOn D ca z0 Lx xs s ad L S θ μ H locs ls) (hft : ft z pc = some (.getfield k, n)) (hs : zstep z (.getfield k) n pc L S θ μ = some (pc', L', S', θ', μ')) (kk : ∀ (H1 : Heap) (locs1 : List Loc) (ls1 : Array Slot), zOn D ca z0 Lx xs s ad L' S' θ' μ' H1 locs1 ls1 → W p l e R s m args below meth c H1 locs1 cells slots Q (F0 m pc' ls1 (S'.map (zabs ad)))) : W p l e R s m args below meth c H locs cells slots Q (F0 m pc ls (S.map (zabs ad))) := by
  obtain ⟨hd, rfl⟩ := ft_n hft rfl
  rcases S with _ | ⟨x | x | _ | _ | a, S⟩ <;> try (exact absurd (show (none : Option (Nat × List zV × List zV × zS × zM)) = _ from hs) (fun q => by cases q))
  simp only [zstep] at hs
  split at hs
  · rename_i c0 j hfr
    split at hs
    · rename_i ho
      obtain ⟨hw, hc13, hj⟩ := zfr_ok hfr
      obtain ⟨C, T, N, ty0, hv, hN, hin, hty, hnm, hF, hzc⟩ := zCok_all c0 hc13
      have ha := zob_iff.mp ho
      have h2 := hO.1.2.2.two ha hc13
      have hlink : (Cond.fieldLink (zcl (zcz z)) k (T j).1 (T j).2.1 (T j).2.2.1).before args s = true := by
        have h := hC.2.2.2.2.1 _ hw
        rw [zTf_eq hv] at h
        exact h
      have he : (zwl ad ca θ μ)[a - 2]? = some (ad a, .inr (c0, zfs ad θ μ a c0)) := by rw [zwl_at h2 (zlt_of ha), zcel_o ha]
      obtain ⟨hF1, hF2, hF3⟩ := hF j (by rw [hN]; exact hj)
      have hgo : ∀ v : zV, zabs ad v = zfv ad θ μ a c0 j → zvw θ.1.length v → zOn D ca z0 Lx xs s ad L (v :: S) θ μ H locs ls ∧ (W p l e R s m args below meth c H locs cells slots Q (F0 m (pc + 3) ls ((v :: S).map (zabs ad))) → W p l e R s m args below meth c H locs cells slots Q (F0 m pc ls ((vr a :: S).map (zabs ad)))) := by
        intro v hv1 hv2
        refine ⟨hO.stk (zvw_cons hv2 (zvw_tl hO.2.2.2.1)), fun hk => ?_⟩
        refine va_get hC.1 hC.2.1 hC.2.2.2.2.1 hin hC.2.2.2.1 hE.1.1 hO.1.1 (a - 2) he hv j (by rw [hN]; exact hj) hlink (fun x h => h) (zfs_at hj) hd ?_
        rw [← hv1]
        exact hk
      split at hs
      · rename_i hk
        cases hs
        obtain ⟨h3, h4⟩ := hgo (vi (μ a j)) (zfv_i (Or.inl hk)).symm (hO.1.2.2.r32 (by rw [zlg_o ha, hk]; rfl))
        exact h4 (kk _ _ _ h3)
      · rename_i hk
        cases hs
        obtain ⟨h3, h4⟩ := hgo (vi (μ a j)) (zfv_i (Or.inr hk)).symm (hO.1.2.2.r32 (by rw [zlg_o ha, hk]; rfl))
        exact h4 (kk _ _ _ h3)
      · rename_i hk
        cases hs
        obtain ⟨h3, h4⟩ := hgo (vl (μ a j)) (zfv_l hk).symm (hO.1.2.2.r64 (by rw [zlg_o ha, hk]; rfl))
        exact h4 (kk _ _ _ h3)
      · rename_i hk
        cases hs
        obtain ⟨h3, h4⟩ := hgo (vo (θ.2 a j)) (zfv_r hk).symm (by
          cases hr : θ.2 a j with
          | none => trivial
          | some r => exact hO.1.2.2.2.2.2.2.2.2.1 a j r hr)
        exact h4 (kk _ _ _ h3)
      · cases hs
    · cases hs
  · cases hs
theorem s_putfield {k : Nat} (hC : zCtx p s m args meth c z L.length) (hE : zEnv D ca z0 Lx xs ad s) (hO : zOn D ca z0 Lx xs s ad L S θ μ H locs ls) (hft : ft z pc = some (.putfield k, n)) (hs : zstep z (.putfield k) n pc L S θ μ = some (pc', L', S', θ', μ')) (kk : ∀ (H1 : Heap) (locs1 : List Loc) (ls1 : Array Slot), zOn D ca z0 Lx xs s ad L' S' θ' μ' H1 locs1 ls1 → W p l e R s m args below meth c H1 locs1 cells slots Q (F0 m pc' ls1 (S'.map (zabs ad)))) : W p l e R s m args below meth c H locs cells slots Q (F0 m pc ls (S.map (zabs ad))) := by
  obtain ⟨hd, rfl⟩ := ft_n hft rfl
  rcases S with _ | ⟨v, _ | ⟨x | x | _ | _ | a, S⟩⟩ <;> try (exact absurd (show (none : Option (Nat × List zV × List zV × zS × zM)) = _ from hs) (fun q => by cases q))
  simp only [zstep] at hs
  split at hs
  · rename_i c0 j hfr
    split at hs
    · rename_i hox
      obtain ⟨ho, h2, hfin⟩ := hox
      obtain ⟨hw, hc13, hj⟩ := zfr_ok hfr
      obtain ⟨C, T, N, ty0, hv, hN, hin, hty, hnm, hF, hzc⟩ := zCok_all c0 hc13
      have ha := zob_iff.mp ho
      have hlink : (Cond.fieldLink (zcl (zcz z)) k (T j).1 (T j).2.1 (T j).2.2.1).before args s = true := by
        have h := hC.2.2.2.2.1 _ hw
        rw [zTf_eq hv] at h
        exact h
      have he : (zwl ad ca θ μ)[a - 2]? = some (ad a, .inr (c0, zfs ad θ μ a c0)) := by rw [zwl_at h2 (zlt_of ha), zcel_o ha]
      obtain ⟨hF1, hF2, hF3⟩ := hF j (by rw [hN]; exact hj)
      have hgo : ∀ (θ2 : zS) (μ2 : zM), θ2.1 = θ.1 → zWF θ2 μ2 Lx xs → (∀ b, b ≠ a → zcel ad ca θ2 μ2 b = zcel ad ca θ μ b) → (∀ q, q ≠ j → zfv ad θ2 μ2 a c0 q = zfv ad θ μ a c0 q) → zfv ad θ2 μ2 a c0 j = zabs ad v → narrow (ty0 j) (zabs ad v) = zabs ad v → fits (ty0 j) (zabs ad v) = true →
          (∀ (H1 : Heap) (locs1 : List Loc) (ls1 : Array Slot), zOn D ca z0 Lx xs s ad L S θ2 μ2 H1 locs1 ls1 → W p l e R s m args below meth c H1 locs1 cells slots Q (F0 m (pc + 3) ls1 (S.map (zabs ad)))) → W p l e R s m args below meth c H locs cells slots Q (F0 m pc ls ((v :: vr a :: S).map (zabs ad))) := by
        intro θ2 μ2 hθ hW hne hf hv1 hnar hfit hk
        have hfl : ∀ v ∈ L, v = vU ∨ zvw θ2.1.length v := by rw [hθ]; exact hO.2.2.2.2
        have hst : ∀ v ∈ S, zvw θ2.1.length v := by rw [hθ]; exact zvw_tl (zvw_tl hO.2.2.2.1)
        rcases hfin with hfin | hfin
        · refine va_put hC.1 hC.2.1 hC.2.2.2.2.1 hin ty0 hty hnm hC.2.2.2.1 hE.1.1 hO.1.1 hO.1.2.1 hO.2.1 (a - 2) he hv j (by rw [hN]; exact hj) hlink (fun x h => h) (by rw [hF2]; exact decide_eq_false (by omega)) (hty j (by rw [hN]; exact hj)) hnar hfit (by rw [zfs_len]; exact hj) hd (fun H1 locs1 hP1 hD1 hS1 => ?_)
          exact hk H1 locs1 ls ⟨hO.1.putO ha h2 hθ hW hne hf hv1 hP1 hD1, hS1, hO.2.2.1, hst, hfl⟩
        · by_cases h10 : zfk c0 j < 10
          · refine va_put hC.1 hC.2.1 hC.2.2.2.2.1 hin ty0 hty hnm hC.2.2.2.1 hE.1.1 hO.1.1 hO.1.2.1 hO.2.1 (a - 2) he hv j (by rw [hN]; exact hj) hlink (fun x h => h) (by rw [hF2]; exact decide_eq_false (by omega)) (hty j (by rw [hN]; exact hj)) hnar hfit (by rw [zfs_len]; exact hj) hd (fun H1 locs1 hP1 hD1 hS1 => ?_)
            exact hk H1 locs1 ls ⟨hO.1.putO ha h2 hθ hW hne hf hv1 hP1 hD1, hS1, hO.2.2.1, hst, hfl⟩
          · refine va_putF hC.1 hC.2.1 hC.2.2.2.2.1 hin ty0 hty hnm hC.2.2.2.1 hE.1.1 hO.1.1 hO.1.2.1 hO.2.1 (a - 2) he hv j (by rw [hN]; exact hj) hlink (fun x h => h) (by rw [hF2]; exact decide_eq_true (by omega)) (by rw [hC.2.2.2.2.2.2.1]; exact hfin.1) (by rw [hF1, ← hzc, hfin.2]) (hty j (by rw [hN]; exact hj)) hnar hfit (by rw [zfs_len]; exact hj) hd (fun H1 locs1 hP1 hD1 hS1 => ?_)
            exact hk H1 locs1 ls ⟨hO.1.putO ha h2 hθ hW hne hf hv1 hP1 hD1, hS1, hO.2.2.1, hst, hfl⟩
      have hvv := zvw_hd hO.2.2.2.1
      split at hs
      · rename_i x hk
        cases hs
        have ht : ty0 j = .int := by rcases hF3 with ⟨_, h⟩ | ⟨h, _⟩ | ⟨h, _⟩ | ⟨h, _⟩ <;> first | exact h | (rw [hk] at h; cases h)
        exact hgo θ (ua μ a j x) rfl (hO.1.2.2.wua h2 (by rw [zlg_o ha, hk]; exact hvv)) (fun b hb => zcel_ua_ne hb) (fun q hq => zfv_ua hq) (by rw [zfv_i (Or.inl hk)]; unfold ua; rw [if_pos ⟨rfl, rfl⟩]; rfl) (by rw [ht]; rfl) (by rw [ht]; rfl) kk
      · rename_i x hk
        split at hs
        · rename_i hx
          cases hs
          have ht : ty0 j = .boolean := by rcases hF3 with ⟨h, _⟩ | ⟨_, h⟩ | ⟨h, _⟩ | ⟨h, _⟩ <;> first | exact h | (rw [hk] at h; cases h)
          exact hgo θ (ua μ a j x) rfl (hO.1.2.2.wua h2 (by rw [zlg_o ha, hk]; exact hvv)) (fun b hb => zcel_ua_ne hb) (fun q hq => zfv_ua hq) (by rw [zfv_i (Or.inr hk)]; unfold ua; rw [if_pos ⟨rfl, rfl⟩]; rfl) (by rw [ht]; exact (nar_z hx).1) (by rw [ht]; exact (nar_z hx).2) kk
        · cases hs
      · rename_i x hk
        cases hs
        have ht : ty0 j = .long := by rcases hF3 with ⟨h, _⟩ | ⟨h, _⟩ | ⟨_, h⟩ | ⟨h, _⟩ <;> first | exact h | (rw [hk] at h; cases h)
        exact hgo θ (ua μ a j x) rfl (hO.1.2.2.wua h2 (by rw [zlg_o ha, hk]; exact hvv)) (fun b hb => zcel_ua_ne hb) (fun q hq => zfv_ua hq) (by rw [zfv_l hk]; unfold ua; rw [if_pos ⟨rfl, rfl⟩]; rfl) (by rw [ht]; rfl) (by rw [ht]; rfl) kk
      · rename_i r hk
        cases hs
        have ht : ∃ q, ty0 j = .object q ∨ ∃ q, ty0 j = .array q := by rcases hF3 with ⟨h, _⟩ | ⟨h, _⟩ | ⟨h, _⟩ | ⟨_, h⟩ <;> first | exact h | (rw [hk] at h; cases h)
        have hr : ∀ b, r = some b → b < θ.1.length := fun b hb => by subst hb; exact hvv
        refine hgo (θ.1, ur θ.2 a j r) μ rfl (hO.1.2.2.wur hr) (fun b hb => zcel_ur_ne hb) (fun q hq => zfv_ur hq) (by rw [zfv_r hk]; dsimp only; unfold ur; rw [if_pos ⟨rfl, rfl⟩]; rfl) ?_ ?_ kk
        · obtain ⟨q, ht | ⟨q2, ht⟩⟩ := ht <;> rw [ht] <;> cases r <;> rfl
        · obtain ⟨q, ht | ⟨q2, ht⟩⟩ := ht <;> rw [ht] <;> cases r <;> rfl
      · cases hs
    · cases hs
  · cases hs
theorem s_iaload (hC : zCtx p s m args meth c z L.length) (hE : zEnv D ca z0 Lx xs ad s) (hO : zOn D ca z0 Lx xs s ad L S θ μ H locs ls) (hft : ft z pc = some (.iaload, n)) (hs : zstep z (.iaload) n pc L S θ μ = some (pc', L', S', θ', μ')) (kk : ∀ (H1 : Heap) (locs1 : List Loc) (ls1 : Array Slot), zOn D ca z0 Lx xs s ad L' S' θ' μ' H1 locs1 ls1 → W p l e R s m args below meth c H1 locs1 cells slots Q (F0 m pc' ls1 (S'.map (zabs ad)))) : W p l e R s m args below meth c H locs cells slots Q (F0 m pc ls (S.map (zabs ad))) := by
  obtain ⟨hd, rfl⟩ := ft_n hft rfl
  rcases S with _ | ⟨i | i, _ | ⟨x | x | _ | _ | a, S⟩⟩ <;> try (exact absurd (show (none : Option (Nat × List zV × List zV × zS × zM)) = _ from hs) (fun q => by cases q))
  simp only [zstep] at hs
  split at hs
  · rename_i hx
    cases hs
    obtain ⟨k, ha, h0, h1⟩ := zix_iff.mp hx
    have hi : R32 i := zvw_hd hO.2.2.2.1
    have hin := vp_inI hi h0 h1
    have hr : R32 (μ a i.toNat) := hO.1.2.2.r32 (by rw [zlg_a ha]; rfl)
    have hk := kk H locs ls (hO.stk (zvw_cons (zvi hr) (zvw_tl (zvw_tl hO.2.2.2.1))))
    by_cases h2 : 2 ≤ a
    · refine va_iald hC.1 hC.2.1 (hE.1.at (t := .int) (by simp [zTys])) hO.1.1 (a - 2) 0 (n := k) (f := fun j => Int32.ofInt (μ a j)) (by rw [zwl_at h2 (zlt_of ha), zcel_a ha]; rfl) rfl hin hd ?_
      rw [e32_nat hi]
      exact hk
    · have h1a : a = 1 := by
        rcases a with _ | _ | a
        · rw [hO.1.2.2.2.1] at ha; cases ha
        · rfl
        · omega
      subst h1a
      have hL : k = Lx := by
        have := hO.1.2.2.2.2.1
        rw [this] at ha
        cases ha
        rfl
      subst hL
      refine va_sld hC.1 hC.2.1 hE.2.2.2.1 (Nat.lt_of_lt_of_le hE.2.2.2.2.1 hE.2.2.1) (Nat.not_le.mpr hE.2.2.2.2.1) hO.2.1 hin hd ?_
      rw [e32_nat hi, ← hO.1.2.2.2.2.2.1 i.toNat (by omega)]
      exact hk
  · cases hs
theorem s_baload (hC : zCtx p s m args meth c z L.length) (hE : zEnv D ca z0 Lx xs ad s) (hO : zOn D ca z0 Lx xs s ad L S θ μ H locs ls) (hft : ft z pc = some (.baload, n)) (hs : zstep z (.baload) n pc L S θ μ = some (pc', L', S', θ', μ')) (kk : ∀ (H1 : Heap) (locs1 : List Loc) (ls1 : Array Slot), zOn D ca z0 Lx xs s ad L' S' θ' μ' H1 locs1 ls1 → W p l e R s m args below meth c H1 locs1 cells slots Q (F0 m pc' ls1 (S'.map (zabs ad)))) : W p l e R s m args below meth c H locs cells slots Q (F0 m pc ls (S.map (zabs ad))) := by
  obtain ⟨hd, rfl⟩ := ft_n hft rfl
  rcases S with _ | ⟨i | i, _ | ⟨x | x | _ | _ | a, S⟩⟩ <;> try (exact absurd (show (none : Option (Nat × List zV × List zV × zS × zM)) = _ from hs) (fun q => by cases q))
  simp only [zstep] at hs
  split at hs
  · rename_i hx
    cases hs
    obtain ⟨hx, h2⟩ := hx
    have hi : R32 i := zvw_hd hO.2.2.2.1
    rcases hx with hx | hx
    · obtain ⟨k, ha, h0, h1⟩ := zix_iff.mp hx
      have hr : R32 (μ a i.toNat) := hO.1.2.2.r32 (by rw [zlg_a ha]; rfl)
      have hk := kk H locs ls (hO.stk (zvw_cons (zvi hr) (zvw_tl (zvw_tl hO.2.2.2.1))))
      refine va_bald hC.1 hC.2.1 (hE.1.at (t := .byte) (by simp [zTys])) hO.1.1 (a - 2) 0 (n := k) (f := fun j => Int32.ofInt (μ a j)) (by rw [zwl_at h2 (zlt_of ha), zcel_a ha]; rfl) rfl (vp_inI hi h0 h1) hd ?_
      rw [e32_nat hi]
      exact hk
    · obtain ⟨k, ha, h0, h1⟩ := zix_iff.mp hx
      have hr : R32 (μ a i.toNat) := hO.1.2.2.r32 (by rw [zlg_a ha]; rfl)
      have hk := kk H locs ls (hO.stk (zvw_cons (zvi hr) (zvw_tl (zvw_tl hO.2.2.2.1))))
      refine va_zald hC.1 hC.2.1 (hE.1.at (t := .boolean) (by simp [zTys])) hO.1.1 (a - 2) 0 (n := k) (f := fun j => Int32.ofInt (μ a j)) (by rw [zwl_at h2 (zlt_of ha), zcel_a ha]; rfl) rfl (vp_inI hi h0 h1) hd ?_
      rw [e32_nat hi]
      exact hk
  · cases hs
theorem s_laload (hC : zCtx p s m args meth c z L.length) (hE : zEnv D ca z0 Lx xs ad s) (hO : zOn D ca z0 Lx xs s ad L S θ μ H locs ls) (hft : ft z pc = some (.laload, n)) (hs : zstep z (.laload) n pc L S θ μ = some (pc', L', S', θ', μ')) (kk : ∀ (H1 : Heap) (locs1 : List Loc) (ls1 : Array Slot), zOn D ca z0 Lx xs s ad L' S' θ' μ' H1 locs1 ls1 → W p l e R s m args below meth c H1 locs1 cells slots Q (F0 m pc' ls1 (S'.map (zabs ad)))) : W p l e R s m args below meth c H locs cells slots Q (F0 m pc ls (S.map (zabs ad))) := by
  obtain ⟨hd, rfl⟩ := ft_n hft rfl
  rcases S with _ | ⟨i | i, _ | ⟨x | x | _ | _ | a, S⟩⟩ <;> try (exact absurd (show (none : Option (Nat × List zV × List zV × zS × zM)) = _ from hs) (fun q => by cases q))
  simp only [zstep] at hs
  split at hs
  · rename_i hx
    cases hs
    obtain ⟨hx, h2⟩ := hx
    have hi : R32 i := zvw_hd hO.2.2.2.1
    obtain ⟨k, ha, h0, h1⟩ := zix_iff.mp hx
    have hr : R64 (μ a i.toNat) := hO.1.2.2.r64 (by rw [zlg_a ha]; rfl)
    have hk := kk H locs ls (hO.stk (zvw_cons (zvl hr) (zvw_tl (zvw_tl hO.2.2.2.1))))
    refine va_lald hC.1 hC.2.1 (hE.1.at (t := .long) (by simp [zTys])) hO.1.1 (a - 2) 0 (n := k) (f := fun j => Int64.ofInt (μ a j)) (by rw [zwl_at h2 (zlt_of ha), zcel_a ha]; rfl) rfl (vp_inI hi h0 h1) hd ?_
    rw [e32_nat hi]
    exact hk
  · cases hs
theorem s_aaload (hC : zCtx p s m args meth c z L.length) (hE : zEnv D ca z0 Lx xs ad s) (hO : zOn D ca z0 Lx xs s ad L S θ μ H locs ls) (hft : ft z pc = some (.aaload, n)) (hs : zstep z (.aaload) n pc L S θ μ = some (pc', L', S', θ', μ')) (kk : ∀ (H1 : Heap) (locs1 : List Loc) (ls1 : Array Slot), zOn D ca z0 Lx xs s ad L' S' θ' μ' H1 locs1 ls1 → W p l e R s m args below meth c H1 locs1 cells slots Q (F0 m pc' ls1 (S'.map (zabs ad)))) : W p l e R s m args below meth c H locs cells slots Q (F0 m pc ls (S.map (zabs ad))) := by
  obtain ⟨hd, rfl⟩ := ft_n hft rfl
  rcases S with _ | ⟨i | i, _ | ⟨x | x | _ | _ | a, S⟩⟩ <;> try (exact absurd (show (none : Option (Nat × List zV × List zV × zS × zM)) = _ from hs) (fun q => by cases q))
  simp only [zstep] at hs
  split at hs
  · rename_i hx
    cases hs
    obtain ⟨hx, h2⟩ := hx
    have hi : R32 i := zvw_hd hO.2.2.2.1
    have hr : zvw θ.1.length (vo (θ.2 a i.toNat)) := by
      cases hr : θ.2 a i.toNat with
      | none => trivial
      | some r => exact hO.1.2.2.2.2.2.2.2.2.1 a i.toNat r hr
    have hk := kk H locs ls (hO.stk (zvw_cons hr (zvw_tl (zvw_tl hO.2.2.2.1))))
    have hgo : ∀ (t : FieldType) (k : Nat), θ.1[a]? = some (.inr (t, k)) → (t = .array .int ∨ t = .object "GaleRoof$Scene") → 0 ≤ i → i < (k : Int) → W p l e R s m args below meth c H locs cells slots Q (F0 m pc ls ((vi i :: vr a :: S).map (zabs ad))) := by
      intro t k ha ht h0 h1
      have hz : zarr ad θ μ a t = .inr (.inr (.inr (.inr fun j => (θ.2 a j).map ad))) := by rcases ht with rfl | rfl <;> rfl
      have htt : t ∈ zTys := by rcases ht with rfl | rfl <;> simp [zTys]
      have hin := vp_inI hi h0 h1
      have hlt : (Int32.ofInt i).toNatClampNeg < k := Nat.not_le.mp fun q => hin (Or.inr q)
      have hP := hO.1.1 (a - 2) _ (zwl_at h2 (zlt_of ha))
      rw [zcel_a ha, hz] at hP
      refine W.aald (v := va_rf ((θ.2 a (Int32.ofInt i).toNatClampNeg).map ad)) (ty := t) hC.1 hC.2.1 hP ((hE.1.2 t htt).1 k (fun j => va_rf ((θ.2 a j).map ad))) (by rcases ht with rfl | rfl <;> rfl) (fun q => by cases q) (by show ¬ (Int32.ofInt i < 0 ∨ (arrV _ _ _).slots.size ≤ _); rw [arrV_size]; exact hin) (by show (arrV _ _ _).slots[_]? = _; rw [arrV_read _ _ hlt]) rfl rfl hd ?_
      rw [e32_nat hi]
      exact hk
    rcases hx with hx | hx
    · obtain ⟨k, ha, h0, h1⟩ := zix_iff.mp hx
      exact hgo _ k ha (Or.inl rfl) h0 h1
    · obtain ⟨k, ha, h0, h1⟩ := zix_iff.mp hx
      exact hgo _ k ha (Or.inr rfl) h0 h1
  · cases hs
theorem s_iastore (hC : zCtx p s m args meth c z L.length) (hE : zEnv D ca z0 Lx xs ad s) (hO : zOn D ca z0 Lx xs s ad L S θ μ H locs ls) (hft : ft z pc = some (.iastore, n)) (hs : zstep z (.iastore) n pc L S θ μ = some (pc', L', S', θ', μ')) (kk : ∀ (H1 : Heap) (locs1 : List Loc) (ls1 : Array Slot), zOn D ca z0 Lx xs s ad L' S' θ' μ' H1 locs1 ls1 → W p l e R s m args below meth c H1 locs1 cells slots Q (F0 m pc' ls1 (S'.map (zabs ad)))) : W p l e R s m args below meth c H locs cells slots Q (F0 m pc ls (S.map (zabs ad))) := by
  obtain ⟨hd, rfl⟩ := ft_n hft rfl
  rcases S with _ | ⟨x | x, _ | ⟨i | i, _ | ⟨y | y | _ | _ | a, S⟩⟩⟩ <;> try (exact absurd (show (none : Option (Nat × List zV × List zV × zS × zM)) = _ from hs) (fun q => by cases q))
  simp only [zstep] at hs
  split at hs
  · rename_i hx
    cases hs
    obtain ⟨hx, h2⟩ := hx
    have hxr : R32 x := zvw_hd hO.2.2.2.1
    have hi : R32 i := zvw_hd (zvw_tl hO.2.2.2.1)
    obtain ⟨k, ha, h0, h1⟩ := zix_iff.mp hx
    refine va_iast hC.1 hC.2.1 (hE.1.at (t := .int) (by simp [zTys])) hO.1.1 hO.1.2.1 hO.2.1 (a - 2) 0 (n := k) (f := fun j => Int32.ofInt (μ a j)) (by rw [zwl_at h2 (zlt_of ha), zcel_a ha]; rfl) rfl (vp_inI hi h0 h1) hd (fun H1 locs1 hP1 hD1 hS1 => ?_)
    refine kk H1 locs1 ls ⟨hO.1.putA ha h2 rfl (hO.1.2.2.wua h2 (by rw [zlg_a ha]; exact hxr)) (fun b hb => zcel_ua_ne hb) ?_ hP1 hD1, hS1, hO.2.2.1, zvw_tl (zvw_tl (zvw_tl hO.2.2.2.1)), hO.2.2.2.2⟩
    show Sum.inl (fun j => Int32.ofInt (ua μ a i.toNat x a j)) = _
    congr 1
    funext q
    unfold ua upd
    rw [e32_nat hi]
    by_cases hq : q = i.toNat
    · rw [if_pos ⟨rfl, hq⟩, if_pos hq]
    · rw [if_neg (fun z => hq z.2), if_neg hq]
  · cases hs
theorem s_bastore (hC : zCtx p s m args meth c z L.length) (hE : zEnv D ca z0 Lx xs ad s) (hO : zOn D ca z0 Lx xs s ad L S θ μ H locs ls) (hft : ft z pc = some (.bastore, n)) (hs : zstep z (.bastore) n pc L S θ μ = some (pc', L', S', θ', μ')) (kk : ∀ (H1 : Heap) (locs1 : List Loc) (ls1 : Array Slot), zOn D ca z0 Lx xs s ad L' S' θ' μ' H1 locs1 ls1 → W p l e R s m args below meth c H1 locs1 cells slots Q (F0 m pc' ls1 (S'.map (zabs ad)))) : W p l e R s m args below meth c H locs cells slots Q (F0 m pc ls (S.map (zabs ad))) := by
  obtain ⟨hd, rfl⟩ := ft_n hft rfl
  rcases S with _ | ⟨x | x, _ | ⟨i | i, _ | ⟨y | y | _ | _ | a, S⟩⟩⟩ <;> try (exact absurd (show (none : Option (Nat × List zV × List zV × zS × zM)) = _ from hs) (fun q => by cases q))
  simp only [zstep] at hs
  split at hs
  · rename_i hx
    cases hs
    obtain ⟨hx, h2⟩ := hx
    have hx0 : R32 x := zvw_hd hO.2.2.2.1
    have hxr : R32 (w8 x) := w8_R x
    have hi : R32 i := zvw_hd (zvw_tl hO.2.2.2.1)
    obtain ⟨k, ha, h0, h1⟩ := zix_iff.mp hx
    have hnar : vp_nar .byte (Int32.ofInt x) = Int32.ofInt (w8 x) := e8_i2b hx0
    refine va_bast hC.1 hC.2.1 (hE.1.at (t := .byte) (by simp [zTys])) hO.1.1 hO.1.2.1 hO.2.1 (a - 2) 0 (n := k) (f := fun j => Int32.ofInt (μ a j)) (by rw [zwl_at h2 (zlt_of ha), zcel_a ha]; rfl) rfl (vp_inI hi h0 h1) hd (fun H1 locs1 hP1 hD1 hS1 => ?_)
    refine kk H1 locs1 ls ⟨hO.1.putA ha h2 rfl (hO.1.2.2.wua h2 (by rw [zlg_a ha]; exact hxr)) (fun b hb => zcel_ua_ne hb) ?_ hP1 hD1, hS1, hO.2.2.1, zvw_tl (zvw_tl (zvw_tl hO.2.2.2.1)), hO.2.2.2.2⟩
    rw [hnar]
    show Sum.inl (fun j => Int32.ofInt (ua μ a i.toNat (w8 x) a j)) = _
    congr 1
    funext q
    unfold ua upd
    rw [e32_nat hi]
    by_cases hq : q = i.toNat
    · rw [if_pos ⟨rfl, hq⟩, if_pos hq]
    · rw [if_neg (fun z => hq z.2), if_neg hq]
  · split at hs
    · rename_i hx
      cases hs
      obtain ⟨hx, h2, hxx⟩ := hx
      have hxr : R32 x := zvw_hd hO.2.2.2.1
      have hi : R32 i := zvw_hd (zvw_tl hO.2.2.2.1)
      obtain ⟨k, ha, h0, h1⟩ := zix_iff.mp hx
      have hnar : vp_nar .boolean (Int32.ofInt x) = Int32.ofInt x := by rcases hxx with rfl | rfl <;> rfl
      refine va_zast hC.1 hC.2.1 (hE.1.at (t := .boolean) (by simp [zTys])) hO.1.1 hO.1.2.1 hO.2.1 (a - 2) 0 (n := k) (f := fun j => Int32.ofInt (μ a j)) (by rw [zwl_at h2 (zlt_of ha), zcel_a ha]; rfl) rfl (vp_inI hi h0 h1) hd (fun H1 locs1 hP1 hD1 hS1 => ?_)
      refine kk H1 locs1 ls ⟨hO.1.putA ha h2 rfl (hO.1.2.2.wua h2 (by rw [zlg_a ha]; exact hxr)) (fun b hb => zcel_ua_ne hb) ?_ hP1 hD1, hS1, hO.2.2.1, zvw_tl (zvw_tl (zvw_tl hO.2.2.2.1)), hO.2.2.2.2⟩
      rw [hnar]
      show Sum.inl (fun j => Int32.ofInt (ua μ a i.toNat x a j)) = _
      congr 1
      funext q
      unfold ua upd
      rw [e32_nat hi]
      by_cases hq : q = i.toNat
      · rw [if_pos ⟨rfl, hq⟩, if_pos hq]
      · rw [if_neg (fun z => hq z.2), if_neg hq]
    · cases hs
theorem s_lastore (hC : zCtx p s m args meth c z L.length) (hE : zEnv D ca z0 Lx xs ad s) (hO : zOn D ca z0 Lx xs s ad L S θ μ H locs ls) (hft : ft z pc = some (.lastore, n)) (hs : zstep z (.lastore) n pc L S θ μ = some (pc', L', S', θ', μ')) (kk : ∀ (H1 : Heap) (locs1 : List Loc) (ls1 : Array Slot), zOn D ca z0 Lx xs s ad L' S' θ' μ' H1 locs1 ls1 → W p l e R s m args below meth c H1 locs1 cells slots Q (F0 m pc' ls1 (S'.map (zabs ad)))) : W p l e R s m args below meth c H locs cells slots Q (F0 m pc ls (S.map (zabs ad))) := by
  obtain ⟨hd, rfl⟩ := ft_n hft rfl
  rcases S with _ | ⟨x | x | x, _ | ⟨i | i, _ | ⟨y | y | _ | _ | a, S⟩⟩⟩ <;> try (exact absurd (show (none : Option (Nat × List zV × List zV × zS × zM)) = _ from hs) (fun q => by cases q))
  simp only [zstep] at hs
  split at hs
  · rename_i hx
    cases hs
    obtain ⟨hx, h2⟩ := hx
    have hxr : R64 x := zvw_hd hO.2.2.2.1
    have hi : R32 i := zvw_hd (zvw_tl hO.2.2.2.1)
    obtain ⟨k, ha, h0, h1⟩ := zix_iff.mp hx
    refine va_last hC.1 hC.2.1 (hE.1.at (t := .long) (by simp [zTys])) hO.1.1 hO.1.2.1 hO.2.1 (a - 2) 0 (n := k) (f := fun j => Int64.ofInt (μ a j)) (by rw [zwl_at h2 (zlt_of ha), zcel_a ha]; rfl) rfl (vp_inI hi h0 h1) hd (fun H1 locs1 hP1 hD1 hS1 => ?_)
    refine kk H1 locs1 ls ⟨hO.1.putA ha h2 rfl (hO.1.2.2.wua h2 (by rw [zlg_a ha]; exact hxr)) (fun b hb => zcel_ua_ne hb) ?_ hP1 hD1, hS1, hO.2.2.1, zvw_tl (zvw_tl (zvw_tl hO.2.2.2.1)), hO.2.2.2.2⟩
    show Sum.inr (Sum.inl (fun j => Int64.ofInt (ua μ a i.toNat x a j))) = _
    congr 2
    funext q
    unfold ua vp_updL
    rw [e32_nat hi]
    by_cases hq : q = i.toNat
    · rw [if_pos ⟨rfl, hq⟩, if_pos hq]
    · rw [if_neg (fun z => hq z.2), if_neg hq]
  · cases hs
theorem s_arraylength (hC : zCtx p s m args meth c z L.length) (hE : zEnv D ca z0 Lx xs ad s) (hO : zOn D ca z0 Lx xs s ad L S θ μ H locs ls) (hft : ft z pc = some (.arraylength, n)) (hs : zstep z (.arraylength) n pc L S θ μ = some (pc', L', S', θ', μ')) (kk : ∀ (H1 : Heap) (locs1 : List Loc) (ls1 : Array Slot), zOn D ca z0 Lx xs s ad L' S' θ' μ' H1 locs1 ls1 → W p l e R s m args below meth c H1 locs1 cells slots Q (F0 m pc' ls1 (S'.map (zabs ad)))) : W p l e R s m args below meth c H locs cells slots Q (F0 m pc ls (S.map (zabs ad))) := by
  obtain ⟨hd, rfl⟩ := ft_n hft rfl
  rcases S with _ | ⟨x | x | _ | _ | a, S⟩ <;> try (exact absurd (show (none : Option (Nat × List zV × List zV × zS × zM)) = _ from hs) (fun q => by cases q))
  simp only [zstep] at hs
  split at hs
  · rename_i t k ha
    split at hs
    · rename_i ht
      cases hs
      subst ht
      have hk4 := (hO.1.2.2.2.2.2.2.2.1 a .int k ha).2
      have hr : R32 (k : Int) := by constructor <;> omega
      have hk := kk H locs ls (hO.stk (zvw_cons (zvi hr) (zvw_tl hO.2.2.2.1)))
      by_cases h2 : 2 ≤ a
      · exact va_alen (v := Int32.ofInt (k : Int)) hC.1 hC.2.1 (hE.1.at (t := .int) (by simp [zTys])) hO.1.1 (a - 2) 0 (x := (k, .inl fun j => Int32.ofInt (μ a j))) (by rw [zwl_at h2 (zlt_of ha), zcel_a ha]; rfl) (ty := .int) rfl rfl hd hk
      · have h1a : a = 1 := by
          rcases a with _ | _ | a
          · rw [hO.1.2.2.2.1] at ha; cases ha
          · rfl
          · omega
        subst h1a
        have hL : k = Lx := by
          have := hO.1.2.2.2.2.1
          rw [this] at ha
          cases ha
          rfl
        subst hL
        exact va_slen hC.1 hC.2.1 hE.2.2.2.1 (Nat.lt_of_lt_of_le hE.2.2.2.2.1 hE.2.2.1) (Nat.not_le.mpr hE.2.2.2.2.1) hO.2.1 hd hk
    · cases hs
  · cases hs
theorem s_ldc {k : Nat} (hC : zCtx p s m args meth c z L.length) (hE : zEnv D ca z0 Lx xs ad s) (hO : zOn D ca z0 Lx xs s ad L S θ μ H locs ls) (hft : ft z pc = some (.ldc k, n)) (hs : zstep z (.ldc k) n pc L S θ μ = some (pc', L', S', θ', μ')) (kk : ∀ (H1 : Heap) (locs1 : List Loc) (ls1 : Array Slot), zOn D ca z0 Lx xs s ad L' S' θ' μ' H1 locs1 ls1 → W p l e R s m args below meth c H1 locs1 cells slots Q (F0 m pc' ls1 (S'.map (zabs ad)))) : W p l e R s m args below meth c H locs cells slots Q (F0 m pc ls (S.map (zabs ad))) := by
  obtain ⟨hd, rfl⟩ := ft_n hft rfl
  simp only [zstep] at hs
  split at hs
  · rename_i hz
    cases hs
    have hown : s.vm.findClass "GaleRoof$Tape" = some m.cls := by
      have h := hC.2.2.2.1
      rw [hz.1] at h
      exact h
    obtain ⟨h7, rfl⟩ := hz
    exact va_ldcS hC.1 hC.2.1 hown hE.2.2.2.2.2.1 hd (kk H locs ls (hO.stk (zvw_cons (v := vr 0) (show 0 < θ.1.length from Nat.lt_of_lt_of_le (by omega) hO.1.2.2.1) hO.2.2.2.1)))
  · split at hs
    · rename_i v hv
      cases hs
      obtain ⟨h1, h2⟩ := zci_ok hv
      exact lv_ldc hC.1 hC.2.1 hC.2.2.2.1 (hC.2.2.2.2.1 _ h1) hd (kk H locs ls (hO.stk (zvw_cons (zvi h2) hO.2.2.2.1)))
    · cases hs
theorem s_ldc_w {k : Nat} (hC : zCtx p s m args meth c z L.length) (hE : zEnv D ca z0 Lx xs ad s) (hO : zOn D ca z0 Lx xs s ad L S θ μ H locs ls) (hft : ft z pc = some (.ldc_w k, n)) (hs : zstep z (.ldc_w k) n pc L S θ μ = some (pc', L', S', θ', μ')) (kk : ∀ (H1 : Heap) (locs1 : List Loc) (ls1 : Array Slot), zOn D ca z0 Lx xs s ad L' S' θ' μ' H1 locs1 ls1 → W p l e R s m args below meth c H1 locs1 cells slots Q (F0 m pc' ls1 (S'.map (zabs ad)))) : W p l e R s m args below meth c H locs cells slots Q (F0 m pc ls (S.map (zabs ad))) := by
  obtain ⟨hd, rfl⟩ := ft_n hft rfl
  simp only [zstep] at hs
  split at hs
  · rename_i v hv
    cases hs
    obtain ⟨h1, h2⟩ := zci_ok hv
    exact lv_ldcw hC.1 hC.2.1 hC.2.2.2.1 (hC.2.2.2.2.1 _ h1) hd (kk H locs ls (hO.stk (zvw_cons (zvi h2) hO.2.2.2.1)))
  · cases hs
theorem s_ldc2_w {k : Nat} (hC : zCtx p s m args meth c z L.length) (hE : zEnv D ca z0 Lx xs ad s) (hO : zOn D ca z0 Lx xs s ad L S θ μ H locs ls) (hft : ft z pc = some (.ldc2_w k, n)) (hs : zstep z (.ldc2_w k) n pc L S θ μ = some (pc', L', S', θ', μ')) (kk : ∀ (H1 : Heap) (locs1 : List Loc) (ls1 : Array Slot), zOn D ca z0 Lx xs s ad L' S' θ' μ' H1 locs1 ls1 → W p l e R s m args below meth c H1 locs1 cells slots Q (F0 m pc' ls1 (S'.map (zabs ad)))) : W p l e R s m args below meth c H locs cells slots Q (F0 m pc ls (S.map (zabs ad))) := by
  obtain ⟨hd, rfl⟩ := ft_n hft rfl
  simp only [zstep] at hs
  split at hs
  · rename_i v hv
    cases hs
    obtain ⟨h1, h2⟩ := zcg_ok hv
    exact lv_ldc2 hC.1 hC.2.1 hC.2.2.2.1 (hC.2.2.2.2.1 _ h1) hd (kk H locs ls (hO.stk (zvw_cons (zvl h2) hO.2.2.2.1)))
  · cases hs
theorem zjmp_eq {pc : Nat} {off : Int} (h : 0 ≤ (pc : Int) + off) : (pc : Int) + off = ((zjmp pc off : Nat) : Int) := (Int.toNat_of_nonneg h).symm
theorem s_goto {off : Int} (hC : zCtx p s m args meth c z L.length) (hE : zEnv D ca z0 Lx xs ad s) (hO : zOn D ca z0 Lx xs s ad L S θ μ H locs ls) (hft : ft z pc = some (.goto off, n)) (hs : zstep z (.goto off) n pc L S θ μ = some (pc', L', S', θ', μ')) (kk : ∀ (H1 : Heap) (locs1 : List Loc) (ls1 : Array Slot), zOn D ca z0 Lx xs s ad L' S' θ' μ' H1 locs1 ls1 → W p l e R s m args below meth c H1 locs1 cells slots Q (F0 m pc' ls1 (S'.map (zabs ad)))) : W p l e R s m args below meth c H locs cells slots Q (F0 m pc ls (S.map (zabs ad))) := by
  obtain ⟨hd, rfl⟩ := ft_n hft rfl
  simp only [zstep] at hs
  split at hs
  · rename_i h0
    cases hs
    exact lv_goto hC.1 hC.2.1 hd (zjmp_eq h0) (kk H locs ls hO)
  · cases hs
theorem s_ifCond {cd : ClassFile.Cond} {off : Int} (hC : zCtx p s m args meth c z L.length) (hE : zEnv D ca z0 Lx xs ad s) (hO : zOn D ca z0 Lx xs s ad L S θ μ H locs ls) (hft : ft z pc = some (.ifCond cd off, n)) (hs : zstep z (.ifCond cd off) n pc L S θ μ = some (pc', L', S', θ', μ')) (kk : ∀ (H1 : Heap) (locs1 : List Loc) (ls1 : Array Slot), zOn D ca z0 Lx xs s ad L' S' θ' μ' H1 locs1 ls1 → W p l e R s m args below meth c H1 locs1 cells slots Q (F0 m pc' ls1 (S'.map (zabs ad)))) : W p l e R s m args below meth c H locs cells slots Q (F0 m pc ls (S.map (zabs ad))) := by
  obtain ⟨hd, rfl⟩ := ft_n hft rfl
  rcases S with _ | ⟨x | x, S⟩ <;> try (exact absurd (show (none : Option (Nat × List zV × List zV × zS × zM)) = _ from hs) (fun q => by cases q))
  simp only [zstep] at hs
  split at hs
  · rename_i h0
    have hx : R32 x := zvw_hd hO.2.2.2.1
    have hy : R32 0 := by constructor <;> omega
    have h1 : ∀ b : Bool, zcond cd x 0 = b → W p l e R s m args below meth c H locs cells slots Q (F0 m (if b = true then zjmp pc off else pc + 3) ls (S.map (zabs ad))) := by
      intro b hb
      cases b with
      | true =>
        rw [if_pos hb] at hs
        cases hs
        exact kk H locs ls (hO.stk (zvw_tl hO.2.2.2.1))
      | false =>
        rw [if_neg (by rw [hb]; exact Bool.false_ne_true)] at hs
        cases hs
        exact kk H locs ls (hO.stk (zvw_tl hO.2.2.2.1))
    cases cd with
    | eq => exact lv_if_eq hC.1 hC.2.1 hd (zjmp_eq h0) (fun h => h1 true (decide_eq_true ((e32_inj hx hy).mp h))) (fun h => h1 false (decide_eq_false (fun q => h ((e32_inj hx hy).mpr q))))
    | ne => exact lv_if_ne hC.1 hC.2.1 hd (zjmp_eq h0) (fun h => h1 true (decide_eq_true (fun q => h ((e32_inj hx hy).mpr q)))) (fun h => h1 false (decide_eq_false (fun q => q ((e32_inj hx hy).mp h))))
    | lt => exact lv_if_lt hC.1 hC.2.1 hd (zjmp_eq h0) (fun h => h1 true (decide_eq_true ((e32_lt hx hy).mp h))) (fun h => h1 false (decide_eq_false (fun q => h ((e32_lt hx hy).mpr q))))
    | ge => exact lv_if_ge hC.1 hC.2.1 hd (zjmp_eq h0) (fun h => h1 true (decide_eq_true ((e32_le hy hx).mp h))) (fun h => h1 false (decide_eq_false (fun q => h ((e32_le hy hx).mpr q))))
    | gt => exact lv_if_gt hC.1 hC.2.1 hd (zjmp_eq h0) (fun h => h1 true (decide_eq_true ((e32_lt hy hx).mp h))) (fun h => h1 false (decide_eq_false (fun q => h ((e32_lt hy hx).mpr q))))
    | le => exact lv_if_le hC.1 hC.2.1 hd (zjmp_eq h0) (fun h => h1 true (decide_eq_true ((e32_le hx hy).mp h))) (fun h => h1 false (decide_eq_false (fun q => h ((e32_le hx hy).mpr q))))
  · cases hs
theorem s_if_icmp {cd : ClassFile.Cond} {off : Int} (hC : zCtx p s m args meth c z L.length) (hE : zEnv D ca z0 Lx xs ad s) (hO : zOn D ca z0 Lx xs s ad L S θ μ H locs ls) (hft : ft z pc = some (.if_icmp cd off, n)) (hs : zstep z (.if_icmp cd off) n pc L S θ μ = some (pc', L', S', θ', μ')) (kk : ∀ (H1 : Heap) (locs1 : List Loc) (ls1 : Array Slot), zOn D ca z0 Lx xs s ad L' S' θ' μ' H1 locs1 ls1 → W p l e R s m args below meth c H1 locs1 cells slots Q (F0 m pc' ls1 (S'.map (zabs ad)))) : W p l e R s m args below meth c H locs cells slots Q (F0 m pc ls (S.map (zabs ad))) := by
  obtain ⟨hd, rfl⟩ := ft_n hft rfl
  rcases S with _ | ⟨y | y, _ | ⟨x | x, S⟩⟩ <;> try (exact absurd (show (none : Option (Nat × List zV × List zV × zS × zM)) = _ from hs) (fun q => by cases q))
  simp only [zstep] at hs
  split at hs
  · rename_i h0
    have hx : R32 x := zvw_hd (zvw_tl hO.2.2.2.1)
    have hy : R32 y := zvw_hd hO.2.2.2.1
    have h1 : ∀ b : Bool, zcond cd x y = b → W p l e R s m args below meth c H locs cells slots Q (F0 m (if b = true then zjmp pc off else pc + 3) ls (S.map (zabs ad))) := by
      intro b hb
      cases b with
      | true =>
        rw [if_pos hb] at hs
        cases hs
        exact kk H locs ls (hO.stk (zvw_tl (zvw_tl hO.2.2.2.1)))
      | false =>
        rw [if_neg (by rw [hb]; exact Bool.false_ne_true)] at hs
        cases hs
        exact kk H locs ls (hO.stk (zvw_tl (zvw_tl hO.2.2.2.1)))
    cases cd with
    | eq => exact lv_icmp_eq hC.1 hC.2.1 hd (zjmp_eq h0) (fun h => h1 true (decide_eq_true ((e32_inj hx hy).mp h))) (fun h => h1 false (decide_eq_false (fun q => h ((e32_inj hx hy).mpr q))))
    | ne => exact lv_icmp_ne hC.1 hC.2.1 hd (zjmp_eq h0) (fun h => h1 true (decide_eq_true (fun q => h ((e32_inj hx hy).mpr q)))) (fun h => h1 false (decide_eq_false (fun q => q ((e32_inj hx hy).mp h))))
    | lt => exact lv_icmp_lt hC.1 hC.2.1 hd (zjmp_eq h0) (fun h => h1 true (decide_eq_true ((e32_lt hx hy).mp h))) (fun h => h1 false (decide_eq_false (fun q => h ((e32_lt hx hy).mpr q))))
    | ge => exact lv_icmp_ge hC.1 hC.2.1 hd (zjmp_eq h0) (fun h => h1 true (decide_eq_true ((e32_le hy hx).mp h))) (fun h => h1 false (decide_eq_false (fun q => h ((e32_le hy hx).mpr q))))
    | gt => exact lv_icmp_gt hC.1 hC.2.1 hd (zjmp_eq h0) (fun h => h1 true (decide_eq_true ((e32_lt hy hx).mp h))) (fun h => h1 false (decide_eq_false (fun q => h ((e32_lt hy hx).mpr q))))
    | le => exact lv_icmp_le hC.1 hC.2.1 hd (zjmp_eq h0) (fun h => h1 true (decide_eq_true ((e32_le hx hy).mp h))) (fun h => h1 false (decide_eq_false (fun q => h ((e32_le hx hy).mpr q))))
  · cases hs
theorem s_tableswitch {dflt lo hi : Int} {offs : Array Int} (hC : zCtx p s m args meth c z L.length) (hE : zEnv D ca z0 Lx xs ad s) (hO : zOn D ca z0 Lx xs s ad L S θ μ H locs ls) (hft : ft z pc = some (.tableswitch dflt lo hi offs, n)) (hs : zstep z (.tableswitch dflt lo hi offs) n pc L S θ μ = some (pc', L', S', θ', μ')) (kk : ∀ (H1 : Heap) (locs1 : List Loc) (ls1 : Array Slot), zOn D ca z0 Lx xs s ad L' S' θ' μ' H1 locs1 ls1 → W p l e R s m args below meth c H1 locs1 cells slots Q (F0 m pc' ls1 (S'.map (zabs ad)))) : W p l e R s m args below meth c H locs cells slots Q (F0 m pc ls (S.map (zabs ad))) := by
  obtain ⟨hd, -⟩ := ft_dec hft
  rcases S with _ | ⟨x | x, S⟩ <;> try (exact absurd (show (none : Option (Nat × List zV × List zV × zS × zM)) = _ from hs) (fun q => by cases q))
  simp only [zstep] at hs
  have hx : R32 x := zvw_hd hO.2.2.2.1
  have hxe := e32_to hx
  split at hs
  · rename_i hq
    split at hs
    · rename_i h0
      cases hs
      exact lv_tableOut hC.1 hC.2.1 hd (by rw [hxe]; exact hq) (zjmp_eq h0) (kk H locs ls (hO.stk (zvw_tl hO.2.2.2.1)))
    · cases hs
  · rename_i hq
    split at hs
    · rename_i off ho
      split at hs
      · rename_i h0
        cases hs
        exact lv_tableIn hC.1 hC.2.1 hd (by rw [hxe]; exact fun q => hq (Or.inl q)) (by rw [hxe]; exact fun q => hq (Or.inr q)) (by rw [hxe]; exact ho) (zjmp_eq h0) (kk H locs ls (hO.stk (zvw_tl hO.2.2.2.1)))
      · cases hs
    · cases hs
theorem s_lookupswitch {dflt : Int} {ps : Array (Int × Int)} (hC : zCtx p s m args meth c z L.length) (hE : zEnv D ca z0 Lx xs ad s) (hO : zOn D ca z0 Lx xs s ad L S θ μ H locs ls) (hft : ft z pc = some (.lookupswitch dflt ps, n)) (hs : zstep z (.lookupswitch dflt ps) n pc L S θ μ = some (pc', L', S', θ', μ')) (kk : ∀ (H1 : Heap) (locs1 : List Loc) (ls1 : Array Slot), zOn D ca z0 Lx xs s ad L' S' θ' μ' H1 locs1 ls1 → W p l e R s m args below meth c H1 locs1 cells slots Q (F0 m pc' ls1 (S'.map (zabs ad)))) : W p l e R s m args below meth c H locs cells slots Q (F0 m pc ls (S.map (zabs ad))) := by
  obtain ⟨hd, -⟩ := ft_dec hft
  rcases S with _ | ⟨x | x, S⟩ <;> try (exact absurd (show (none : Option (Nat × List zV × List zV × zS × zM)) = _ from hs) (fun q => by cases q))
  simp only [zstep] at hs
  have hx : R32 x := zvw_hd hO.2.2.2.1
  have hxe := e32_to hx
  split at hs
  · rename_i hq
    cases hs
    exact lv_lookup hC.1 hC.2.1 hd hq.1 (by rw [hxe]) (zjmp_eq hq.2) (kk H locs ls (hO.stk (zvw_tl hO.2.2.2.1)))
  · cases hs
end ZB
