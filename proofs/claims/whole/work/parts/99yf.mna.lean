/-! the row of multianewarray, from what the machine does there (zMA; the last part proves it) -/
def zMA : Prop := ∀ (p : Program) (l : Launch) (e : Env) (R : Room) (s : State) (m : MethodId) (args : Array Value) (below : List Frame) (meth : Method) (c : Code) (H : Heap) (locs : List Loc) (cells slots : Nat) (Q : State → Prop) (D : va_G) (z0 pc : Nat) (ls : Array Slot) (rest : List Value) (cc : ByteArray) (own : String) (index : Nat) (cy : ClassId) (X : va_W) (n k : Int32) (N' K' : Nat),
  p.tables.exec = Jvm.exec → c.code = cc → s.vm.findClass own = some m.cls → (Cond.classLink own index "[[I").before args s = true → (Cond.arrayOver (.array .int)).before args s = true → (Cond.arrayClass .int).before args s = true → s.vm.findClass "[I" = some cy →
  va_K D vwCl [] s → va_P D vwCl X H → va_D (fun q => z0 ≤ q) X → va_S (fun q => z0 ≤ q) s.heap H locs → (∀ q, s.heap.size ≤ q → z0 ≤ q) → ¬ n < 0 → ¬ k < 0 → n.toNatClampNeg = N' → k.toNatClampNeg = K' → N' ≤ 4096 → K' ≤ 4096 → cells + (1 + N') ≤ R.cells → slots + (N' + N' * K') ≤ R.slots → decode cc pc = .ok (.multianewarray index 2, 4) →
  (∀ (q : Nat) (r : Nat → Nat) (cA : ClassId) (H1 : Heap), va_RA s cA (.array .int) →
    va_P D vwCl (X ++ ((q, .inl (cA, N', .inr (.inr (.inr (.inr (fun i => if i < N' then some (r i) else none)))))) :: (List.range N').map (fun i => (r i, .inl (cy, K', .inl fun _ => 0))))) H1 →
    va_D (fun q => z0 ≤ q) (X ++ ((q, .inl (cA, N', .inr (.inr (.inr (.inr (fun i => if i < N' then some (r i) else none)))))) :: (List.range N').map (fun i => (r i, .inl (cy, K', .inl fun _ => 0))))) → va_S (fun q => z0 ≤ q) s.heap H1 locs →
    W p l e R s m args below meth c H1 locs (cells + (1 + N')) (slots + (N' + N' * K')) Q (F0 m (pc + 4) ls (.ref q :: rest))) →
  W p l e R s m args below meth c H locs cells slots Q (F0 m pc ls (.int k :: .int n :: rest))
theorem rep_sum (n k : Nat) : ((List.replicate n (Sum.inr (FieldType.int, k) : Nat ⊕ (FieldType × Nat))).map zsz).sum = n * k := by
  rw [List.map_replicate, List.sum_replicate_nat]; rfl
set_option maxHeartbeats 4000000 in
theorem zstep_mn {z n pc k q pc' : Nat} {i : Instr} {L S L' S' : List zV} {θ θ' : zS} {μ μ' : zM} (hi : i = .multianewarray k q) (hs : zstep z i n pc L S θ μ = some (pc', L', S', θ', μ')) : ∃ (m l : Int) (S0 : List zV), S = .inl m :: .inl l :: S0 ∧ q = 2 ∧ (zcz z = 5 ∧ k = 9 ∧ 0 ≤ m ∧ m ≤ 4096 ∧ 0 ≤ l ∧ l ≤ 4096) ∧ pc' = pc + n ∧ L' = L ∧ S' = vr θ.1.length :: S0 ∧ μ' = zm0 μ θ.1.length ∧
    θ' = (θ.1 ++ (.inr (.array .int, l.toNat) :: List.replicate l.toNat (.inr (.int, m.toNat))), fun b j => if θ.1.length ≤ b then (if b = θ.1.length ∧ j < l.toNat then some (b + 1 + j) else none) else θ.2 b j) := by
  unfold zstep at hs
  split at hs
  all_goals first
    | (cases hi; done)
    | (cases hs; done)
    | (cases hi
       split at hs
       · rename_i h
         cases hs
         exact ⟨_, _, _, rfl, rfl, h, rfl, rfl, rfl, rfl, rfl⟩
       · cases hs)
set_option maxHeartbeats 4000000 in
theorem zMN_of (hMA : zMA) : zMN := by
  intro p l e R s m args below meth c H locs cells slots Q D ca z0 Lx xs ad θ θ' μ μ' z pc pc' n L S L' S' ls k q hC hE hO hft hs hr1 hr2 kk
  obtain ⟨hd, rfl⟩ := ft_n hft rfl
  obtain ⟨x, y, S0, rfl, rfl, ⟨hz, rfl, x0, x1, y0, y1⟩, rfl, rfl, rfl, rfl, rfl⟩ := zstep_mn rfl hs
  have hxr : R32 x := zvw_hd hO.2.2.2.1
  have hyr : R32 y := zvw_hd (zvw_tl hO.2.2.2.1)
  have hst0 := zvw_tl (zvw_tl hO.2.2.2.1)
  obtain ⟨N, hN⟩ : ∃ N, N = y.toNat := ⟨_, rfl⟩
  obtain ⟨K, hK⟩ : ∃ K, K = x.toNat := ⟨_, rfl⟩
  rw [← hN, ← hK] at kk hr1 hr2
  obtain ⟨T, hT⟩ : ∃ T : List (Nat ⊕ (FieldType × Nat)), T = .inr (.array .int, N) :: List.replicate N (.inr (.int, K)) := ⟨_, rfl⟩
  rw [← hT] at kk hr1 hr2
  have lT : T.length = 1 + N := by rw [hT, List.length_cons, List.length_replicate]; omega
  have e1 : (θ.1 ++ T).length - θ.1.length = 1 + N := by rw [List.length_append, lT]; omega
  obtain ⟨ρ, hρ⟩ : ∃ ρ : Nat → Nat → Option Nat, ρ = fun b j => if θ.1.length ≤ b then (if b = θ.1.length ∧ j < N then some (b + 1 + j) else none) else θ.2 b j := ⟨_, rfl⟩
  rw [← hρ] at kk hr1 hr2
  have e2 : zSl (θ.1 ++ T, ρ) - zSl θ = N + N * K := by
    rw [zSl_app (ρ' := θ.2), hT, List.map_cons, List.sum_cons, rep_sum]
    show zSl θ + (N + N * K) - zSl θ = _
    omega
  simp only [e1, e2] at hr1 hr2 kk
  have hown : s.vm.findClass (zcl 5) = some m.cls := by rw [← hz]; exact hC.2.2.2.1
  have i1 : FieldType.int ∈ zTys := by simp [zTys]
  have i2 : FieldType.array .int ∈ zTys := by simp [zTys]
  refine hMA p l e R s m args below meth c H locs cells slots Q D z0 pc ls (S0.map (zabs ad)) (zcb z) (zcl 5) 9 (ca .int) (zwl ad ca θ μ) (Int32.ofInt y) (Int32.ofInt x) N K hC.1 hC.2.1 hown (hC.2.2.2.2.1 _ zLw_mn) hE.2.1.2.2 (hC.2.2.2.2.1 _ zAw_int) (hE.1.2 _ i1).2 hE.1.1 hO.1.1 hO.1.2.1 hO.2.1 (fun q hq => Nat.le_trans hE.2.2.1 hq)
    (fun h => by have := (e32_lt hyr (show R32 0 by constructor <;> omega)).mp h; omega) (fun h => by have := (e32_lt hxr (show R32 0 by constructor <;> omega)).mp h; omega) (by rw [e32_nat hyr, hN]) (by rw [e32_nat hxr, hK]) (by omega) (by omega) hr1 hr2 hd (fun q r cA H1 hA hP1 hD1 hS1 => ?_)
  have hcA : cA = ca (.array .int) := zca_eq hA (hE.1.2 _ i2).2
  subst hcA
  obtain ⟨ad', had⟩ : ∃ ad' : Nat → Nat, ad' = fun b => if b < θ.1.length then ad b else if b = θ.1.length then q else r (b - (θ.1.length + 1)) := ⟨_, rfl⟩
  have a0 : ∀ b, b < θ.1.length → ad' b = ad b := fun b hb => by rw [had]; exact if_pos hb
  have a1 : ad' θ.1.length = q := by
    rw [had]
    show (if θ.1.length < θ.1.length then _ else if θ.1.length = θ.1.length then q else _) = q
    rw [if_neg (Nat.lt_irrefl _), if_pos rfl]
  have a2 : ∀ i, ad' (θ.1.length + (1 + i)) = r i := fun i => by
    rw [had]
    show (if θ.1.length + (1 + i) < θ.1.length then _ else if θ.1.length + (1 + i) = θ.1.length then q else r (θ.1.length + (1 + i) - (θ.1.length + 1))) = r i
    rw [if_neg (by omega), if_neg (by omega)]
    congr 1; omega
  have t0 : (θ.1 ++ T)[θ.1.length]? = some (.inr (.array .int, N)) := by rw [List.getElem?_append_right (Nat.le_refl _), Nat.sub_self, hT]; rfl
  have t1 : ∀ i, i < N → (θ.1 ++ T)[θ.1.length + (1 + i)]? = some (.inr (.int, K)) := fun i hi => by
    rw [List.getElem?_append_right (by omega), hT, show θ.1.length + (1 + i) - θ.1.length = i + 1 by omega, List.getElem?_cons_succ, List.getElem?_replicate, if_pos hi]
  have tc : ∀ a v, θ.1.length ≤ a → (θ.1 ++ T)[a]? = some v → v = .inr (.array .int, N) ∨ v = .inr (.int, K) := fun a v ha h => by
    by_cases e : a = θ.1.length
    · rw [e, t0] at h; exact Or.inl (Option.some.inj h).symm
    · by_cases e2 : a - (θ.1.length + 1) < N
      · have := t1 (a - (θ.1.length + 1)) e2
        rw [show θ.1.length + (1 + (a - (θ.1.length + 1))) = a by omega, h] at this
        exact Or.inr (Option.some.inj this)
      · rw [List.getElem?_eq_none (by rw [List.length_append, lT]; omega)] at h
        cases h
  have m0 : ∀ a j, θ.1.length ≤ a → zm0 μ θ.1.length a j = 0 := fun a j h => by unfold zm0; rw [if_pos h]
  have m1 : ∀ a j, a < θ.1.length → zm0 μ θ.1.length a j = μ a j := fun a j h => by unfold zm0; rw [if_neg (by omega)]
  have r0 : ∀ j, ρ θ.1.length j = if j < N then some (θ.1.length + 1 + j) else none := fun j => by
    rw [hρ]
    show (if θ.1.length ≤ θ.1.length then (if θ.1.length = θ.1.length ∧ j < N then some (θ.1.length + 1 + j) else none) else θ.2 θ.1.length j) = _
    rw [if_pos (Nat.le_refl _)]
    by_cases h : j < N
    · rw [if_pos ⟨rfl, h⟩, if_pos h]
    · rw [if_neg (fun hh => h hh.2), if_neg h]
  have r1 : ∀ b j, b < θ.1.length → ρ b j = θ.2 b j := fun b j h => by
    rw [hρ]
    show (if θ.1.length ≤ b then _ else θ.2 b j) = _
    rw [if_neg (by omega)]
  have r2 : ∀ b j v, θ.1.length ≤ b → ρ b j = some v → v < (θ.1 ++ T).length := fun b j v h e => by
    rw [hρ] at e
    have e' : (if θ.1.length ≤ b then (if b = θ.1.length ∧ j < N then some (b + 1 + j) else none) else θ.2 b j) = some v := e
    rw [if_pos h] at e'
    by_cases h2 : b = θ.1.length ∧ j < N
    · rw [if_pos h2] at e'
      cases e'
      rw [List.length_append, lT]; omega
    · rw [if_neg h2] at e'; cases e'
  have hW : zWF (θ.1 ++ T, ρ) (zm0 μ θ.1.length) Lx xs := by
    refine hO.1.2.2.grow (by show θ.1.length ≤ (θ.1 ++ T).length; rw [List.length_append]; omega) (fun b hb => zget_l hb) (fun b j hb => r1 b j hb) (fun b j hb => m1 b j hb) (fun a c ha h => ?_) (fun a t k ha h => ?_) (fun a j v ha h => r2 a j v ha h) (fun a j ha => m0 a j ha)
    · rcases tc a _ ha h with h | h <;> cases h
    · rcases tc a _ ha h with h | h
      · cases h; exact ⟨i2, by omega⟩
      · cases h; exact ⟨i1, by omega⟩
  have hO1 : zOn D ca z0 Lx xs s ad' L' (vr θ.1.length :: S0) (θ.1 ++ T, ρ) (zm0 μ θ.1.length) H1 locs ls := by
    refine hO.grow (k := 1 + N) a0 (by show (θ.1 ++ T).length = _; rw [List.length_append, lT]) (fun b hb => zget_l hb) (fun b j hb => r1 b j hb) (fun b j hb => m1 b j hb) hW ?_ hP1 hD1 hS1 ?_
    · rw [List.range_add, List.map_append, List.map_map]
      show _ = [(ad' (θ.1.length + 0), zcel ad' ca (θ.1 ++ T, ρ) (zm0 μ θ.1.length) (θ.1.length + 0))] ++ _
      rw [Nat.add_zero, a1, zcel_a (t := .array .int) (n := N) t0]
      show _ = (q, _) :: _
      have e3 : zarr ad' (θ.1 ++ T, ρ) (zm0 μ θ.1.length) θ.1.length (.array .int) = .inr (.inr (.inr (.inr (fun i => if i < N then some (r i) else none)))) := by
        show Sum.inr (Sum.inr (Sum.inr (Sum.inr (fun j => (ρ θ.1.length j).map ad')))) = _
        congr 4
        funext j
        rw [r0 j]
        by_cases h : j < N
        · rw [if_pos h, if_pos h]
          show some (ad' (θ.1.length + 1 + j)) = _
          rw [Nat.add_assoc, a2]
        · rw [if_neg h, if_neg h]; rfl
      rw [e3]
      congr 1
      apply List.map_congr_left
      intro i hi
      show _ = (ad' (θ.1.length + (1 + i)), zcel ad' ca (θ.1 ++ T, ρ) (zm0 μ θ.1.length) (θ.1.length + (1 + i)))
      rw [a2, zcel_a (t := .int) (n := K) (t1 i (List.mem_range.mp hi))]
      have e4 : zarr ad' (θ.1 ++ T, ρ) (zm0 μ θ.1.length) (θ.1.length + (1 + i)) .int = .inl fun _ => 0 := by
        show Sum.inl (fun j => Int32.ofInt (zm0 μ θ.1.length (θ.1.length + (1 + i)) j)) = _
        congr 1
        funext j
        rw [m0 _ j (by omega)]; rfl
      rw [e4]
    · refine zvw_cons ?_ (fun v hv => zvw_mono (hst0 v hv) (by show θ.1.length ≤ (θ.1 ++ T).length; rw [List.length_append]; omega))
      show θ.1.length < (θ.1 ++ T).length
      rw [List.length_append, lT]; omega
  have h := kk ad' H1 locs ls a0 hO1
  have e3 : (vr θ.1.length :: S0).map (zabs ad') = .ref q :: S0.map (zabs ad) := by
    show zabs _ (vr θ.1.length) :: S0.map _ = _
    rw [zmap_ext hst0 a0]
    show va_rf (some (ad' θ.1.length)) :: _ = _
    rw [a1]; rfl
  rw [e3] at h
  exact h
