/-! one instruction of the mini machine on the machine: what makes something new -/
def zsz (q : Nat ⊕ (FieldType × Nat)) : Nat := match q with
  | .inl c => (zFk.getD c []).length
  | .inr t => t.2
def zSl (θ : zS) : Nat := (θ.1.map zsz).sum
theorem zabs_ext {ad ad' : Nat → Nat} {N : Nat} {v : zV} (h : zvw N v) (ha : ∀ b, b < N → ad' b = ad b) : zabs ad' v = zabs ad v := by
  rcases v with x | x | _ | _ | r
  · rfl
  · rfl
  · rfl
  · rfl
  · show va_rf (some (ad' r)) = va_rf (some (ad r))
    rw [ha r h]
theorem zmap_ext {ad ad' : Nat → Nat} {N : Nat} {S : List zV} (h : ∀ v ∈ S, zvw N v) (ha : ∀ b, b < N → ad' b = ad b) : S.map (zabs ad') = S.map (zabs ad) := List.map_congr_left fun v hv => zabs_ext (h v hv) ha
theorem zvw_mono {N N' : Nat} {v : zV} (h : zvw N v) (hn : N ≤ N') : zvw N' v := by
  rcases v with x | x | _ | _ | r
  · exact h
  · exact h
  · exact h
  · exact h
  · exact Nat.lt_of_lt_of_le h hn
theorem zLoc_ext {ad ad' : Nat → Nat} {N : Nat} {L : List zV} {ls : Array Slot} (h : zLoc ad L ls) (hL : ∀ v ∈ L, v = vU ∨ zvw N v) (ha : ∀ b, b < N → ad' b = ad b) : zLoc ad' L ls := by
  refine ⟨h.1, h.2.1, fun k v hk hv => ?_⟩
  rw [h.2.2 k v hk hv]
  rcases hL v (List.mem_of_getElem? hk) with rfl | h1
  · cases hv
  · rw [zabs_ext h1 ha]
theorem zcel_grow {ad ad' : Nat → Nat} {ca : FieldType → ClassId} {θ θ' : zS} {μ μ' : zM} {Lx : Nat} {xs : Nat → Int32} {b : Nat} (hW : zWF θ μ Lx xs) (h1 : θ'.1[b]? = θ.1[b]?) (h2 : ∀ j, θ'.2 b j = θ.2 b j) (h3 : ∀ j, μ' b j = μ b j) (ha : ∀ r, r < θ.1.length → ad' r = ad r) : zcel ad' ca θ' μ' b = zcel ad ca θ μ b := by
  have hm : ∀ j, (θ'.2 b j).map ad' = (θ.2 b j).map ad := by
    intro j
    rw [h2]
    cases hr : θ.2 b j with
    | none => rfl
    | some r =>
      show some (ad' r) = some (ad r)
      rw [ha r (hW.2.2.2.2.2.2.1 b j r hr)]
  unfold zcel
  rw [h1]
  cases hs : θ.1[b]? with
  | none => rfl
  | some q =>
    cases q with
    | inl c =>
      have e : zfv ad' θ' μ' b c = zfv ad θ μ b c := funext fun j => by unfold zfv; rw [hm, h3]
      simp only [zfs, e]
    | inr q =>
      simp only [zarr, hm, h3]
/-- what holds behind the making of new cells -/
theorem zOn.grow {D : va_G} {ca : FieldType → ClassId} {z0 Lx : Nat} {xs : Nat → Int32} {s : State} {ad ad' : Nat → Nat} {L S S' : List zV} {θ θ' : zS} {μ μ' : zM} {H H1 : Heap} {locs locs1 : List Loc} {ls : Array Slot} {cells : va_W} {k : Nat}
    (hO : zOn D ca z0 Lx xs s ad L S θ μ H locs ls) (ha : ∀ b, b < θ.1.length → ad' b = ad b) (hl : θ'.1.length = θ.1.length + k) (h1 : ∀ b, b < θ.1.length → θ'.1[b]? = θ.1[b]?) (h2 : ∀ b j, b < θ.1.length → θ'.2 b j = θ.2 b j) (h3 : ∀ b j, b < θ.1.length → μ' b j = μ b j)
    (hW : zWF θ' μ' Lx xs) (hc : cells = (List.range k).map (fun i => (ad' (θ.1.length + i), zcel ad' ca θ' μ' (θ.1.length + i)))) (hP : va_P D vwCl (zwl ad ca θ μ ++ cells) H1) (hD : va_D (fun q => z0 ≤ q) (zwl ad ca θ μ ++ cells)) (hS : va_S (fun q => z0 ≤ q) s.heap H1 locs1) (hS' : ∀ v ∈ S', zvw θ'.1.length v) :
    zOn D ca z0 Lx xs s ad' L S' θ' μ' H1 locs1 ls := by
  have e := zwl_push (ad := ad) (ad' := ad') (ca := ca) (θ := θ) (θ' := θ') (μ := μ) (μ' := μ') hO.1.2.2.1 hl ha (fun b _ hb => zcel_grow hO.1.2.2 (h1 b hb) (fun j => h2 b j hb) (fun j => h3 b j hb) ha)
  rw [hc, ← e] at hP hD
  refine ⟨⟨hP, hD, hW⟩, hS, zLoc_ext hO.2.2.1 hO.2.2.2.2 ha, hS', fun v hv => ?_⟩
  rcases hO.2.2.2.2 v hv with h | h
  · exact Or.inl h
  · exact Or.inr (zvw_mono h (by omega))
theorem zWF.grow {θ θ' : zS} {μ μ' : zM} {Lx : Nat} {xs : Nat → Int32} (h : zWF θ μ Lx xs) (hl : θ.1.length ≤ θ'.1.length) (h1 : ∀ b, b < θ.1.length → θ'.1[b]? = θ.1[b]?) (h2 : ∀ b j, b < θ.1.length → θ'.2 b j = θ.2 b j) (h3 : ∀ b j, b < θ.1.length → μ' b j = μ b j)
    (hc : ∀ (a c : Nat), θ.1.length ≤ a → θ'.1[a]? = some (.inl c) → c < 13) (ht : ∀ (a : Nat) (t : FieldType) (k : Nat), θ.1.length ≤ a → θ'.1[a]? = some (.inr (t, k)) → t ∈ zTys ∧ k ≤ 4096) (hr : ∀ a j r, θ.1.length ≤ a → θ'.2 a j = some r → r < θ'.1.length) (hm : ∀ a j, θ.1.length ≤ a → μ' a j = 0) : zWF θ' μ' Lx xs := by
  obtain ⟨q1, q2, q3, q4, q5, q6, q7, q8⟩ := h
  have zl : ∀ a j, a < θ.1.length → zlg θ' a j = zlg θ a j := fun a j ha => by unfold zlg; rw [h1 a ha]
  refine ⟨by omega, by rw [h1 0 (by omega)]; exact q2, by rw [h1 1 (by omega)]; exact q3, fun j hj => by rw [h3 1 j (by omega)]; exact q4 j hj, fun a c h2 hac => ?_, fun a t k hat => ?_, fun a j r har => ?_, fun a j => ?_⟩
  · by_cases hal : a < θ.1.length
    · rw [h1 a hal] at hac; exact q5 a c h2 hac
    · exact hc a c (by omega) hac
  · by_cases hal : a < θ.1.length
    · rw [h1 a hal] at hat; exact q6 a t k hat
    · exact ht a t k (by omega) hat
  · by_cases hal : a < θ.1.length
    · rw [h2 a j hal] at har; exact Nat.lt_of_lt_of_le (q7 a j r har) hl
    · exact hr a j r (by omega) har
  · by_cases hal : a < θ.1.length
    · rw [zl a j hal, h3 a j hal]; exact q8 a j
    · rw [hm a j (by omega)]; split <;> constructor <;> omega
theorem zSl_app {l : List (Nat ⊕ (FieldType × Nat))} {ρ ρ' : Nat → Nat → Option Nat} {k : List (Nat ⊕ (FieldType × Nat))} : zSl (l ++ k, ρ) = zSl (l, ρ') + (k.map zsz).sum := by unfold zSl; simp [List.map_append, List.sum_append]
theorem zget_l {α : Type} {l k : List α} {b : Nat} (h : b < l.length) : (l ++ k)[b]? = l[b]? := List.getElem?_append_left h
theorem zget_1 {α : Type} {l : List α} {x q : α} {a : Nat} (ha : l.length ≤ a) (h : (l ++ [x])[a]? = some q) : q = x := by
  rw [List.getElem?_append_right ha] at h
  cases hk : a - l.length with
  | zero => rw [hk] at h; cases h; rfl
  | succ k => rw [hk] at h; cases h
theorem zwf_new {θ : zS} {μ : zM} {Lx : Nat} {xs : Nat → Int32} {q : Nat ⊕ (FieldType × Nat)} (h : zWF θ μ Lx xs) (hc : ∀ c, q = .inl c → c < 13) (ht : ∀ t k, q = .inr (t, k) → t ∈ zTys ∧ k ≤ 4096) : zWF (θ.1 ++ [q], zr0 θ.2 θ.1.length) (zm0 μ θ.1.length) Lx xs := by
  refine h.grow (by simp) (fun b hb => zget_l hb) (fun b j hb => ?_) (fun b j hb => ?_) (fun a c ha hac => hc c (zget_1 ha hac).symm) (fun a t k ha hat => ht t k (zget_1 ha hat).symm) (fun a j r ha har => ?_) (fun a j ha => ?_)
  · show zr0 θ.2 θ.1.length b j = _
    unfold zr0; rw [if_neg (by omega)]
  · unfold zm0; rw [if_neg (by omega)]
  · have har : zr0 θ.2 θ.1.length a j = some r := har
    unfold zr0 at har
    rw [if_pos ha] at har
    cases har
  · unfold zm0; rw [if_pos ha]
section ZN
variable {p : Program} {l : Launch} {e : Env} {R : Room} {s : State} {m : MethodId} {args : Array Value} {below : List Frame} {meth : Method} {c : Code} {H : Heap} {locs : List Loc} {cells slots : Nat} {Q : State → Prop}
variable {D : va_G} {ca : FieldType → ClassId} {z0 Lx : Nat} {xs : Nat → Int32} {ad : Nat → Nat} {θ θ' : zS} {μ μ' : zM} {z pc pc' n : Nat} {L S L' S' : List zV} {ls : Array Slot}
/-- one new cell: what the making row gives, in the words of the mini machine -/
theorem zOn.new1 {q : Nat} {k : Nat ⊕ (FieldType × Nat)} {en : va_E} {H1 : Heap} {locs1 : List Loc} (hO : zOn D ca z0 Lx xs s ad L S θ μ H locs ls) (hW : zWF (θ.1 ++ [k], zr0 θ.2 θ.1.length) (zm0 μ θ.1.length) Lx xs)
    (he : ∀ ad2 : Nat → Nat, zcel ad2 ca (θ.1 ++ [k], zr0 θ.2 θ.1.length) (zm0 μ θ.1.length) θ.1.length = en) (hP : va_P D vwCl (zwl ad ca θ μ ++ [(q, en)]) H1) (hD : va_D (fun q => z0 ≤ q) (zwl ad ca θ μ ++ [(q, en)])) (hS : va_S (fun q => z0 ≤ q) s.heap H1 locs1) (hst : ∀ v ∈ S', zvw θ.1.length v) :
    zOn D ca z0 Lx xs s (fun b => if b = θ.1.length then q else ad b) L (vr θ.1.length :: S') (θ.1 ++ [k], zr0 θ.2 θ.1.length) (zm0 μ θ.1.length) H1 locs1 ls := by
  refine hO.grow (k := 1) (fun b hb => if_neg (by omega)) (by simp) (fun b hb => zget_l hb) (fun b j hb => ?_) (fun b j hb => ?_) hW (cells := [(q, en)]) ?_ hP hD hS ?_
  · show zr0 θ.2 θ.1.length b j = _
    unfold zr0; rw [if_neg (by omega)]
  · unfold zm0; rw [if_neg (by omega)]
  · show _ = [((fun b => if b = θ.1.length then q else ad b) (θ.1.length + 0), _)]
    rw [Nat.add_zero, he]
    simp only [if_true]
  · refine zvw_cons ?_ (fun v hv => zvw_mono (hst v hv) (by simp))
    show θ.1.length < (θ.1 ++ [k]).length
    simp
theorem s_new {k : Nat} (hC : zCtx p s m args meth c z L.length) (hE : zEnv D ca z0 Lx xs ad s) (hO : zOn D ca z0 Lx xs s ad L S θ μ H locs ls) (hft : ft z pc = some (.new k, n)) (hs : zstep z (.new k) n pc L S θ μ = some (pc', L', S', θ', μ'))
    (hr1 : cells + (θ'.1.length - θ.1.length) ≤ R.cells) (hr2 : slots + (zSl θ' - zSl θ) ≤ R.slots)
    (kk : ∀ (ad' : Nat → Nat) (H1 : Heap) (locs1 : List Loc) (ls1 : Array Slot), (∀ b, b < θ.1.length → ad' b = ad b) → zOn D ca z0 Lx xs s ad' L' S' θ' μ' H1 locs1 ls1 → W p l e R s m args below meth c H1 locs1 (cells + (θ'.1.length - θ.1.length)) (slots + (zSl θ' - zSl θ)) Q (F0 m pc' ls1 (S'.map (zabs ad')))) :
    W p l e R s m args below meth c H locs cells slots Q (F0 m pc ls (S.map (zabs ad))) := by
  obtain ⟨hd, rfl⟩ := ft_n hft rfl
  simp only [zstep] at hs
  split at hs
  · rename_i ci hnw
    cases hs
    obtain ⟨w1, w2, w3, hc13⟩ := znw_ok hnw
    obtain ⟨C, T, N, ty0, hv, hN, hin, hty, hnm, hF, hzc⟩ := zCok_all ci hc13
    have hW := zwf_new (q := .inl ci) hO.1.2.2 (fun c h => by cases h; exact hc13) (fun t k h => by cases h)
    have hcell : ∀ ad2 : Nat → Nat, zcel ad2 ca (θ.1 ++ [.inl ci], zr0 θ.2 θ.1.length) (zm0 μ θ.1.length) θ.1.length = .inr (ci, zfs ad (θ.1 ++ [.inl ci], zr0 θ.2 θ.1.length) (zm0 μ θ.1.length) θ.1.length ci) := by
      intro ad2
      rw [zcel_o (c := ci) (by simp)]
      have e1 : zfv ad2 (θ.1 ++ [.inl ci], zr0 θ.2 θ.1.length) (zm0 μ θ.1.length) θ.1.length ci = zfv ad (θ.1 ++ [.inl ci], zr0 θ.2 θ.1.length) (zm0 μ θ.1.length) θ.1.length ci := funext fun j => by
        unfold zfv
        have e2 : zr0 θ.2 θ.1.length θ.1.length j = none := by unfold zr0; rw [if_pos (Nat.le_refl _)]
        simp only [e2]
        rfl
      unfold zfs
      rw [e1]
    have e1 : (θ.1 ++ [Sum.inl ci]).length - θ.1.length = 1 := by simp
    have e2 : zSl (θ.1 ++ [Sum.inl ci], zr0 θ.2 θ.1.length) - zSl θ = N := by rw [zSl_app (ρ' := θ.2)]; simp [zsz, hN]
    simp only [e1, e2] at hr1 hr2 kk
    refine va_new hC.1 hC.2.1 (ci := ci) (C := C) (T := T) (N := N) (fs := zfs ad (θ.1 ++ [.inl ci], zr0 θ.2 θ.1.length) (zm0 μ θ.1.length) θ.1.length ci) hC.2.2.2.2.1 hin ty0 hty hC.2.2.2.1 (by rw [← hzc]; exact hC.2.2.2.2.1 _ w1) (by rw [← hzc, hN]; exact hC.2.2.2.2.1 _ w2) (by rw [← hzc]; exact hC.2.2.2.2.1 _ w3) hE.1.1 hO.1.1 hO.1.2.1 hO.2.1 (fun q hq => Nat.le_trans hE.2.2.1 hq) hv ?_ hr1 hr2 hd (fun q H1 hP1 hD1 hS1 => ?_)
    · intro j hj
      have hj' : j < (zFk.getD ci []).length := by rw [← hN]; exact hj
      unfold vp_V
      rw [List.getD_eq_getElem?_getD, zfs_at hj']
      show _ = zfv ad _ _ _ _ _
      have m0 : zm0 μ θ.1.length θ.1.length j = 0 := by unfold zm0; rw [if_pos (Nat.le_refl _)]
      have r0 : zr0 θ.2 θ.1.length θ.1.length j = none := by unfold zr0; rw [if_pos (Nat.le_refl _)]
      obtain ⟨-, -, h3⟩ := hF j hj
      rcases h3 with ⟨h, h4⟩ | ⟨h, h4⟩ | ⟨h, h4⟩ | ⟨h, q, h4 | ⟨q2, h4⟩⟩
      · rw [h4, zfv_i (Or.inl h), m0]; rfl
      · rw [h4, zfv_i (Or.inr h), m0]; rfl
      · rw [h4, zfv_l h, m0]; rfl
      · rw [h4, zfv_r h]; simp only [r0]; rfl
      · rw [h4, zfv_r h]; simp only [r0]; rfl
    · have hO1 := hO.new1 (S' := S) (q := q) hW hcell hP1 hD1 hS1 hO.2.2.2.1
      have h := kk (fun b => if b = θ.1.length then q else ad b) H1 locs ls (fun b hb => if_neg (by omega)) hO1
      have e3 : (vr θ.1.length :: S).map (zabs (fun b => if b = θ.1.length then q else ad b)) = .ref q :: S.map (zabs ad) := by
        show zabs _ (vr θ.1.length) :: S.map _ = _
        rw [zmap_ext hO.2.2.2.1 (fun b hb => if_neg (by omega))]
        show va_rf (some (if θ.1.length = θ.1.length then q else ad θ.1.length)) :: _ = _
        rw [if_pos rfl]
        rfl
      rw [e3] at h
      exact h
  · cases hs
theorem zca_eq {U : State} {t : FieldType} {c1 c2 : ClassId} (h1 : va_RA U c1 t) (h2 : va_RA U c2 t) : c1 = c2 := by
  cases t <;> first
    | (obtain ⟨-, -, -, -, -, h1⟩ := h1; obtain ⟨-, -, -, -, -, h2⟩ := h2; exact Option.some.inj (h1.symm.trans h2))
    | exact Option.some.inj ((show _ = some c1 from h1).symm.trans (show _ = some c2 from h2))
theorem s_newarray {t : ArrayType} (hC : zCtx p s m args meth c z L.length) (hE : zEnv D ca z0 Lx xs ad s) (hO : zOn D ca z0 Lx xs s ad L S θ μ H locs ls) (hft : ft z pc = some (.newarray t, n)) (hs : zstep z (.newarray t) n pc L S θ μ = some (pc', L', S', θ', μ'))
    (hr1 : cells + (θ'.1.length - θ.1.length) ≤ R.cells) (hr2 : slots + (zSl θ' - zSl θ) ≤ R.slots)
    (kk : ∀ (ad' : Nat → Nat) (H1 : Heap) (locs1 : List Loc) (ls1 : Array Slot), (∀ b, b < θ.1.length → ad' b = ad b) → zOn D ca z0 Lx xs s ad' L' S' θ' μ' H1 locs1 ls1 → W p l e R s m args below meth c H1 locs1 (cells + (θ'.1.length - θ.1.length)) (slots + (zSl θ' - zSl θ)) Q (F0 m pc' ls1 (S'.map (zabs ad')))) :
    W p l e R s m args below meth c H locs cells slots Q (F0 m pc ls (S.map (zabs ad))) := by
  obtain ⟨hd, rfl⟩ := ft_n hft rfl
  rcases S with _ | ⟨x | x, S⟩ <;> try (exact absurd (show (none : Option (Nat × List zV × List zV × zS × zM)) = _ from hs) (fun q => by cases q))
  simp only [zstep] at hs
  split at hs
  · rename_i u htu
    split at hs
    · rename_i hx
      cases hs
      have hxr : R32 x := zvw_hd hO.2.2.2.1
      have hut : u ∈ zTys ∧ newarray.typeOf t = u ∧ (Cond.arrayClass u).before args s = true ∧ componentBytes u ≤ 8 ∧ (∀ (ad2 : Nat → Nat) (cA : ClassId), vp_cell cA (x.toNat, zarr ad2 (θ.1 ++ [.inr (u, x.toNat)], zr0 θ.2 θ.1.length) (zm0 μ θ.1.length) θ.1.length u) = arrV cA x.toNat (fun _ => defaultValue u)) ∧ (∀ ad2 : Nat → Nat, zarr ad2 (θ.1 ++ [.inr (u, x.toNat)], zr0 θ.2 θ.1.length) (zm0 μ θ.1.length) θ.1.length u = zarr ad (θ.1 ++ [.inr (u, x.toNat)], zr0 θ.2 θ.1.length) (zm0 μ θ.1.length) θ.1.length u) := by
        have m0 : ∀ j, zm0 μ θ.1.length θ.1.length j = 0 := fun j => by unfold zm0; rw [if_pos (Nat.le_refl _)]
        cases t <;> cases htu
        · exact ⟨by simp [zTys], rfl, hC.2.2.2.2.1 _ zAw_boolean, by decide, fun ad2 cA => by simp only [zarr, m0]; rfl, fun ad2 => rfl⟩
        · exact ⟨by simp [zTys], rfl, hC.2.2.2.2.1 _ zAw_byte, by decide, fun ad2 cA => by simp only [zarr, m0]; rfl, fun ad2 => rfl⟩
        · exact ⟨by simp [zTys], rfl, hC.2.2.2.2.1 _ zAw_int, by decide, fun ad2 cA => by simp only [zarr, m0]; rfl, fun ad2 => rfl⟩
        · exact ⟨by simp [zTys], rfl, hC.2.2.2.2.1 _ zAw_long, by decide, fun ad2 cA => by simp only [zarr, m0]; rfl, fun ad2 => rfl⟩
      obtain ⟨u1, u2, u3, u4, u5, u6⟩ := hut
      have hW := zwf_new (q := .inr (u, x.toNat)) hO.1.2.2 (fun c h => by cases h) (fun t k h => by cases h; exact ⟨u1, by omega⟩)
      have e1 : (θ.1 ++ [Sum.inr (u, x.toNat)]).length - θ.1.length = 1 := by simp
      have e2 : zSl (θ.1 ++ [Sum.inr (u, x.toNat)], zr0 θ.2 θ.1.length) - zSl θ = x.toNat := by rw [zSl_app (ρ' := θ.2)]; simp [zsz]
      simp only [e1, e2] at hr1 hr2 kk
      refine va_newa hC.1 hC.2.1 (atype := t) (by rw [u2]; exact u3) u2 hE.1.1 hO.1.1 hO.1.2.1 hO.2.1 (fun q hq => Nat.le_trans hE.2.2.1 hq) (a0 := (x.toNat, zarr ad (θ.1 ++ [.inr (u, x.toNat)], zr0 θ.2 θ.1.length) (zm0 μ θ.1.length) θ.1.length u)) (u5 ad) (fun h => by have := (e32_lt hxr (show R32 0 by constructor <;> omega)).mp h; omega) (e32_nat hxr) (Nat.le_trans (Nat.mul_le_mul (show x.toNat ≤ 4096 by omega) u4) (by decide)) hr1 hr2 hd (fun q cA H1 hK1 hP1 hD1 hS1 => ?_)
      have hcA : cA = ca u := zca_eq (hK1.2 0 _ rfl).2 (hE.1.2 u u1).2
      subst hcA
      have hO1 := hO.new1 (S' := S) (q := q) hW (fun ad2 => by rw [zcel_a (t := u) (n := x.toNat) (by simp), u6 ad2]) hP1 hD1 hS1 (zvw_tl hO.2.2.2.1)
      have h := kk (fun b => if b = θ.1.length then q else ad b) H1 locs ls (fun b hb => if_neg (by omega)) hO1
      have e3 : (vr θ.1.length :: S).map (zabs (fun b => if b = θ.1.length then q else ad b)) = .ref q :: S.map (zabs ad) := by
        show zabs _ (vr θ.1.length) :: S.map _ = _
        rw [zmap_ext (zvw_tl hO.2.2.2.1) (fun b hb => if_neg (by omega))]
        show va_rf (some (if θ.1.length = θ.1.length then q else ad θ.1.length)) :: _ = _
        rw [if_pos rfl]
        rfl
      rw [e3] at h
      exact h
    · cases hs
  · cases hs
theorem s_anewarray {k : Nat} (hC : zCtx p s m args meth c z L.length) (hE : zEnv D ca z0 Lx xs ad s) (hO : zOn D ca z0 Lx xs s ad L S θ μ H locs ls) (hft : ft z pc = some (.anewarray k, n)) (hs : zstep z (.anewarray k) n pc L S θ μ = some (pc', L', S', θ', μ'))
    (hr1 : cells + (θ'.1.length - θ.1.length) ≤ R.cells) (hr2 : slots + (zSl θ' - zSl θ) ≤ R.slots)
    (kk : ∀ (ad' : Nat → Nat) (H1 : Heap) (locs1 : List Loc) (ls1 : Array Slot), (∀ b, b < θ.1.length → ad' b = ad b) → zOn D ca z0 Lx xs s ad' L' S' θ' μ' H1 locs1 ls1 → W p l e R s m args below meth c H1 locs1 (cells + (θ'.1.length - θ.1.length)) (slots + (zSl θ' - zSl θ)) Q (F0 m pc' ls1 (S'.map (zabs ad')))) :
    W p l e R s m args below meth c H locs cells slots Q (F0 m pc ls (S.map (zabs ad))) := by
  obtain ⟨hd, rfl⟩ := ft_n hft rfl
  rcases S with _ | ⟨x | x, S⟩ <;> try (exact absurd (show (none : Option (Nat × List zV × List zV × zS × zM)) = _ from hs) (fun q => by cases q))
  simp only [zstep] at hs
  split at hs
  · rename_i hx
    cases hs
    obtain ⟨hz, rfl, hx0, hx1⟩ := hx
    have hxr : R32 x := zvw_hd hO.2.2.2.1
    have u1 : FieldType.object "GaleRoof$Scene" ∈ zTys := by simp [zTys]
    have hW := zwf_new (q := .inr (.object "GaleRoof$Scene", x.toNat)) hO.1.2.2 (fun c h => by cases h) (fun t k h => by cases h; exact ⟨u1, by omega⟩)
    have e1 : (θ.1 ++ [Sum.inr (FieldType.object "GaleRoof$Scene", x.toNat)]).length - θ.1.length = 1 := by simp
    have e2 : zSl (θ.1 ++ [Sum.inr (FieldType.object "GaleRoof$Scene", x.toNat)], zr0 θ.2 θ.1.length) - zSl θ = x.toNat := by rw [zSl_app (ρ' := θ.2)]; simp [zsz]
    simp only [e1, e2] at hr1 hr2 kk
    have hown : s.vm.findClass (zcl 11) = some m.cls := by rw [← hz]; exact hC.2.2.2.1
    refine va_newq hC.1 hC.2.1 (C := "GaleRoof$Scene") hown (hC.2.2.2.2.1 _ zLw_an) hE.2.1.2.1 hE.1.1 hO.1.1 hO.1.2.1 hO.2.1 (fun q hq => Nat.le_trans hE.2.2.1 hq) (fun h => by have := (e32_lt hxr (show R32 0 by constructor <;> omega)).mp h; omega) (e32_nat hxr) (Nat.le_trans (Nat.mul_le_mul_right 4 (show x.toNat ≤ 4096 by omega)) (by decide)) hr1 hr2 hd (fun q cA H1 hK1 hP1 hD1 hS1 => ?_)
    have hcA : cA = ca (.object "GaleRoof$Scene") := zca_eq (hK1.2 0 _ rfl).2 (hE.1.2 _ u1).2
    subst hcA
    have hO1 := hO.new1 (S' := S) (q := q) hW (fun ad2 => by
      rw [zcel_a (t := .object "GaleRoof$Scene") (n := x.toNat) (by simp)]
      have e2 : ∀ j, zr0 θ.2 θ.1.length θ.1.length j = none := fun j => by unfold zr0; rw [if_pos (Nat.le_refl _)]
      simp only [zarr, e2]
      rfl) hP1 hD1 hS1 (zvw_tl hO.2.2.2.1)
    have h := kk (fun b => if b = θ.1.length then q else ad b) H1 locs ls (fun b hb => if_neg (by omega)) hO1
    have e3 : (vr θ.1.length :: S).map (zabs (fun b => if b = θ.1.length then q else ad b)) = .ref q :: S.map (zabs ad) := by
      show zabs _ (vr θ.1.length) :: S.map _ = _
      rw [zmap_ext (zvw_tl hO.2.2.2.1) (fun b hb => if_neg (by omega))]
      show va_rf (some (if θ.1.length = θ.1.length then q else ad θ.1.length)) :: _ = _
      rw [if_pos rfl]
      rfl
    rw [e3] at h
    exact h
  · cases hs
theorem s_aastore (hC : zCtx p s m args meth c z L.length) (hE : zEnv D ca z0 Lx xs ad s) (hO : zOn D ca z0 Lx xs s ad L S θ μ H locs ls) (hft : ft z pc = some (.aastore, n)) (hs : zstep z .aastore n pc L S θ μ = some (pc', L', S', θ', μ'))
    (kk : ∀ (H1 : Heap) (locs1 : List Loc) (ls1 : Array Slot), zOn D ca z0 Lx xs s ad L' S' θ' μ' H1 locs1 ls1 → W p l e R s m args below meth c H1 locs1 cells slots Q (F0 m pc' ls1 (S'.map (zabs ad)))) :
    W p l e R s m args below meth c H locs cells slots Q (F0 m pc ls (S.map (zabs ad))) := by
  obtain ⟨hd, rfl⟩ := ft_n hft rfl
  rcases S with _ | ⟨x | x | _ | _ | b, _ | ⟨i | i, _ | ⟨y | y | _ | _ | a, S⟩⟩⟩ <;> try (exact absurd (show (none : Option (Nat × List zV × List zV × zS × zM)) = _ from hs) (fun q => by cases q))
  simp only [zstep] at hs
  split at hs
  · rename_i hx
    cases hs
    obtain ⟨hx, h2, hb2, hb⟩ := hx
    obtain ⟨k, ha, h0, h1⟩ := zix_iff.mp hx
    have hi : R32 i := zvw_hd (zvw_tl hO.2.2.2.1)
    have hbb := zob_iff.mp hb
    refine va_astq hC.1 hC.2.1 (hE.1.at (t := .object "GaleRoof$Scene") (by simp [zTys])) hO.1.1 hO.1.2.1 hO.2.1 (a - 2) 0 (b - 2) 6 (r := (RX6, TX6, 10)) (n := k) (v := ad b) (vs := zfs ad θ μ b 6) (f := fun j => (θ.2 a j).map ad) (by rw [zwl_at h2 (zlt_of ha), zcel_a ha]; rfl) rfl (by rw [zwl_at hb2 (zlt_of hbb), zcel_o hbb]) rfl (vp_inI hi h0 h1) hd (fun H1 locs1 hP1 hD1 hS1 => ?_)
    refine kk H1 locs1 ls ⟨hO.1.putA ha h2 rfl (hO.1.2.2.wur (fun r hr => by cases hr; exact zlt_of hbb)) (fun b hb => zcel_ur_ne hb) ?_ hP1 hD1, hS1, hO.2.2.1, zvw_tl (zvw_tl (zvw_tl hO.2.2.2.1)), hO.2.2.2.2⟩
    show Sum.inr (Sum.inr (Sum.inr (Sum.inr (fun j => (ur θ.2 a i.toNat (some b) a j).map ad)))) = _
    congr 4
    funext q
    unfold ur va_up
    rw [e32_nat hi]
    by_cases hq : q = i.toNat
    · rw [if_pos ⟨rfl, hq⟩, if_pos hq]; rfl
    · rw [if_neg (fun z => hq z.2), if_neg hq]
  · cases hs
end ZN
