/-! one instruction of the mini machine on the machine: what makes nothing new -/
def zEnv (D : va_G) (ca : FieldType → ClassId) (z0 Lx : Nat) (xs : Nat → Int32) (ad : Nat → Nat) (s : State) : Prop :=
  zK D ca s ∧ zNst s ∧ z0 ≤ s.heap.size ∧ va_X (ad 1) Lx xs s s.heap ∧ ad 1 < z0 ∧ vk_R "GaleRoof$Tape" 29 zText (ad 0) s ∧ ∃ aV : Nat, zStE (ad 0) aV z0 s
theorem zOn.stk {D : va_G} {ca : FieldType → ClassId} {z0 Lx : Nat} {xs : Nat → Int32} {s : State} {ad : Nat → Nat} {L S S' : List zV} {θ : zS} {μ : zM} {H : Heap} {locs : List Loc} {ls : Array Slot} (h : zOn D ca z0 Lx xs s ad L S θ μ H locs ls) (hS : ∀ v ∈ S', zvw θ.1.length v) : zOn D ca z0 Lx xs s ad L S' θ μ H locs ls := ⟨h.1, h.2.1, h.2.2.1, hS, h.2.2.2.2⟩
theorem zOn.loc {D : va_G} {ca : FieldType → ClassId} {z0 Lx : Nat} {xs : Nat → Int32} {s : State} {ad : Nat → Nat} {L L' S S' : List zV} {θ : zS} {μ : zM} {H : Heap} {locs : List Loc} {ls ls' : Array Slot} (h : zOn D ca z0 Lx xs s ad L S θ μ H locs ls) (hl : zLoc ad L' ls') (hS : ∀ v ∈ S', zvw θ.1.length v) (hL : ∀ v ∈ L', v = vU ∨ zvw θ.1.length v) : zOn D ca z0 Lx xs s ad L' S' θ μ H locs ls' := ⟨h.1, h.2.1, hl, hS, hL⟩
theorem zvw_tl {N : Nat} {v : zV} {S : List zV} (h : ∀ x ∈ v :: S, zvw N x) : ∀ x ∈ S, zvw N x := fun x hx => h x (List.mem_cons_of_mem _ hx)
theorem zvw_hd {N : Nat} {v : zV} {S : List zV} (h : ∀ x ∈ v :: S, zvw N x) : zvw N v := h v List.mem_cons_self
theorem zvw_cons {N : Nat} {v : zV} {S : List zV} (hv : zvw N v) (h : ∀ x ∈ S, zvw N x) : ∀ x ∈ v :: S, zvw N x := fun x hx => by
  rcases List.mem_cons.mp hx with rfl | hx
  · exact hv
  · exact h x hx
theorem zvw_ok {N : Nat} {v : zV} (h : zvw N v) : zok v = true := by
  rcases v with x | x | _ | _ | x <;> first | rfl | exact h.elim
theorem zL_st {N : Nat} {L : List zV} {v : zV} (hv : zvw N v) : ∀ (i : Nat), (∀ x ∈ L, x = vU ∨ zvw N x) → ∀ x ∈ zst L i v, x = vU ∨ zvw N x := by
  intro i h x hx
  by_cases hk : zok x = true
  · obtain ⟨k, hk2⟩ := List.getElem?_of_mem hx
    rcases zst_get L i v k x hk2 hk with ⟨-, rfl⟩ | ⟨-, h2, -⟩
    · exact Or.inr hv
    · exact h x (List.mem_of_getElem? h2)
  · rcases x with x | x | _ | _ | x
    · exact absurd rfl hk
    · exact absurd rfl hk
    · exact Or.inl rfl
    · exact absurd rfl hk
    · exact absurd rfl hk
theorem zL_raw {N : Nat} {L : List zV} (i : Nat) (h : ∀ x ∈ L, x = vU ∨ zvw N x) : ∀ x ∈ zraw L i vU, x = vU ∨ zvw N x := by
  intro x hx
  by_cases hk : zok x = true
  · obtain ⟨k, hk2⟩ := List.getElem?_of_mem hx
    exact h x (List.mem_of_getElem? (zraw_get L i k x hk2 hk).2)
  · rcases x with x | x | _ | _ | x
    · exact absurd rfl hk
    · exact absurd rfl hk
    · exact Or.inl rfl
    · exact absurd rfl hk
    · exact absurd rfl hk
theorem zg_vw {N k : Nat} {L : List zV} {v : zV} (h : ∀ x ∈ L, x = vU ∨ zvw N x) (hg : zg L k = v) (hv : zok v = true) : zvw N v := by
  rcases h v (List.mem_of_getElem? (zg_get L k hg hv)) with rfl | h1
  · cases hv
  · exact h1
theorem zvi {N : Nat} {x : Int} (h : R32 x) : zvw N (vi x) := h
theorem zvl {N : Nat} {x : Int} (h : R64 x) : zvw N (vl x) := h
section ZA
variable {p : Program} {l : Launch} {e : Env} {R : Room} {s : State} {m : MethodId} {args : Array Value} {below : List Frame} {meth : Method} {c : Code} {H : Heap} {locs : List Loc} {cells slots : Nat} {Q : State → Prop}
variable {D : va_G} {ca : FieldType → ClassId} {z0 Lx : Nat} {xs : Nat → Int32} {ad : Nat → Nat} {θ θ' : zS} {μ μ' : zM} {z pc pc' n : Nat} {L S L' S' : List zV} {ls : Array Slot}

theorem s_iload_n {k : Fin 4} (hC : zCtx p s m args meth c z L.length) (hO : zOn D ca z0 Lx xs s ad L S θ μ H locs ls) (hft : ft z pc = some (.iload_n k, n)) (hs : zstep z (.iload_n k) n pc L S θ μ = some (pc', L', S', θ', μ')) (kk : ∀ (H1 : Heap) (locs1 : List Loc) (ls1 : Array Slot), zOn D ca z0 Lx xs s ad L' S' θ' μ' H1 locs1 ls1 → W p l e R s m args below meth c H1 locs1 cells slots Q (F0 m pc' ls1 (S'.map (zabs ad)))) : W p l e R s m args below meth c H locs cells slots Q (F0 m pc ls (S.map (zabs ad))) := by
  obtain ⟨hd, rfl⟩ := ft_n hft rfl
  simp only [zstep] at hs
  split at hs
  · rename_i x hg
    cases hs
    refine lv_iload_n hC.1 hC.2.1 hd rfl (hO.2.2.1.2.2 k (vi x) (zg_get L k hg rfl) rfl) ?_
    exact kk H locs ls (hO.stk (zvw_cons (zg_vw hO.2.2.2.2 hg rfl) hO.2.2.2.1))
  · cases hs
theorem s_iload {k : Nat} (hC : zCtx p s m args meth c z L.length) (hO : zOn D ca z0 Lx xs s ad L S θ μ H locs ls) (hft : ft z pc = some (.iload k, n)) (hs : zstep z (.iload k) n pc L S θ μ = some (pc', L', S', θ', μ')) (kk : ∀ (H1 : Heap) (locs1 : List Loc) (ls1 : Array Slot), zOn D ca z0 Lx xs s ad L' S' θ' μ' H1 locs1 ls1 → W p l e R s m args below meth c H1 locs1 cells slots Q (F0 m pc' ls1 (S'.map (zabs ad)))) : W p l e R s m args below meth c H locs cells slots Q (F0 m pc ls (S.map (zabs ad))) := by
  obtain ⟨hd, rfl⟩ := ft_n hft rfl
  simp only [zstep] at hs
  split at hs
  · rename_i x hg
    cases hs
    refine lv_iload hC.1 hC.2.1 hd (hO.2.2.1.2.2 k (vi x) (zg_get L k hg rfl) rfl) ?_
    exact kk H locs ls (hO.stk (zvw_cons (zg_vw hO.2.2.2.2 hg rfl) hO.2.2.2.1))
  · cases hs
theorem s_lload_n {k : Fin 4} (hC : zCtx p s m args meth c z L.length) (hO : zOn D ca z0 Lx xs s ad L S θ μ H locs ls) (hft : ft z pc = some (.lload_n k, n)) (hs : zstep z (.lload_n k) n pc L S θ μ = some (pc', L', S', θ', μ')) (kk : ∀ (H1 : Heap) (locs1 : List Loc) (ls1 : Array Slot), zOn D ca z0 Lx xs s ad L' S' θ' μ' H1 locs1 ls1 → W p l e R s m args below meth c H1 locs1 cells slots Q (F0 m pc' ls1 (S'.map (zabs ad)))) : W p l e R s m args below meth c H locs cells slots Q (F0 m pc ls (S.map (zabs ad))) := by
  obtain ⟨hd, rfl⟩ := ft_n hft rfl
  simp only [zstep] at hs
  split at hs
  · rename_i x hg
    cases hs
    refine lv_lload_n hC.1 hC.2.1 hd rfl (hO.2.2.1.2.2 k (vl x) (zg_get L k hg rfl) rfl) ?_
    exact kk H locs ls (hO.stk (zvw_cons (zg_vw hO.2.2.2.2 hg rfl) hO.2.2.2.1))
  · cases hs
theorem s_lload {k : Nat} (hC : zCtx p s m args meth c z L.length) (hO : zOn D ca z0 Lx xs s ad L S θ μ H locs ls) (hft : ft z pc = some (.lload k, n)) (hs : zstep z (.lload k) n pc L S θ μ = some (pc', L', S', θ', μ')) (kk : ∀ (H1 : Heap) (locs1 : List Loc) (ls1 : Array Slot), zOn D ca z0 Lx xs s ad L' S' θ' μ' H1 locs1 ls1 → W p l e R s m args below meth c H1 locs1 cells slots Q (F0 m pc' ls1 (S'.map (zabs ad)))) : W p l e R s m args below meth c H locs cells slots Q (F0 m pc ls (S.map (zabs ad))) := by
  obtain ⟨hd, rfl⟩ := ft_n hft rfl
  simp only [zstep] at hs
  split at hs
  · rename_i x hg
    cases hs
    refine lv_lload hC.1 hC.2.1 hd (hO.2.2.1.2.2 k (vl x) (zg_get L k hg rfl) rfl) ?_
    exact kk H locs ls (hO.stk (zvw_cons (zg_vw hO.2.2.2.2 hg rfl) hO.2.2.2.1))
  · cases hs
theorem s_aload_n {k : Fin 4} (hC : zCtx p s m args meth c z L.length) (hO : zOn D ca z0 Lx xs s ad L S θ μ H locs ls) (hft : ft z pc = some (.aload_n k, n)) (hs : zstep z (.aload_n k) n pc L S θ μ = some (pc', L', S', θ', μ')) (kk : ∀ (H1 : Heap) (locs1 : List Loc) (ls1 : Array Slot), zOn D ca z0 Lx xs s ad L' S' θ' μ' H1 locs1 ls1 → W p l e R s m args below meth c H1 locs1 cells slots Q (F0 m pc' ls1 (S'.map (zabs ad)))) : W p l e R s m args below meth c H locs cells slots Q (F0 m pc ls (S.map (zabs ad))) := by
  obtain ⟨hd, rfl⟩ := ft_n hft rfl
  simp only [zstep] at hs
  split at hs
  · rename_i r hg
    cases hs
    cases r with
    | none =>
      refine lv_aload_nN hC.1 hC.2.1 hd rfl (hO.2.2.1.2.2 k vn (zg_get L k hg rfl) rfl) ?_
      exact kk H locs ls (hO.stk (zvw_cons (zg_vw hO.2.2.2.2 hg rfl) hO.2.2.2.1))
    | some a =>
      refine lv_aload_n hC.1 hC.2.1 hd rfl (hO.2.2.1.2.2 k (vr a) (zg_get L k hg rfl) rfl) ?_
      exact kk H locs ls (hO.stk (zvw_cons (zg_vw hO.2.2.2.2 hg rfl) hO.2.2.2.1))
  · cases hs
theorem s_aload {k : Nat} (hC : zCtx p s m args meth c z L.length) (hO : zOn D ca z0 Lx xs s ad L S θ μ H locs ls) (hft : ft z pc = some (.aload k, n)) (hs : zstep z (.aload k) n pc L S θ μ = some (pc', L', S', θ', μ')) (kk : ∀ (H1 : Heap) (locs1 : List Loc) (ls1 : Array Slot), zOn D ca z0 Lx xs s ad L' S' θ' μ' H1 locs1 ls1 → W p l e R s m args below meth c H1 locs1 cells slots Q (F0 m pc' ls1 (S'.map (zabs ad)))) : W p l e R s m args below meth c H locs cells slots Q (F0 m pc ls (S.map (zabs ad))) := by
  obtain ⟨hd, rfl⟩ := ft_n hft rfl
  simp only [zstep] at hs
  split at hs
  · rename_i r hg
    cases hs
    cases r with
    | none =>
      refine lv_aloadN hC.1 hC.2.1 hd (hO.2.2.1.2.2 k vn (zg_get L k hg rfl) rfl) ?_
      exact kk H locs ls (hO.stk (zvw_cons (zg_vw hO.2.2.2.2 hg rfl) hO.2.2.2.1))
    | some a =>
      refine lv_aload hC.1 hC.2.1 hd (hO.2.2.1.2.2 k (vr a) (zg_get L k hg rfl) rfl) ?_
      exact kk H locs ls (hO.stk (zvw_cons (zg_vw hO.2.2.2.2 hg rfl) hO.2.2.2.1))
  · cases hs
theorem s_istore_n {k : Fin 4} (hC : zCtx p s m args meth c z L.length) (hO : zOn D ca z0 Lx xs s ad L S θ μ H locs ls) (hft : ft z pc = some (.istore_n k, n)) (hs : zstep z (.istore_n k) n pc L S θ μ = some (pc', L', S', θ', μ')) (kk : ∀ (H1 : Heap) (locs1 : List Loc) (ls1 : Array Slot), zOn D ca z0 Lx xs s ad L' S' θ' μ' H1 locs1 ls1 → W p l e R s m args below meth c H1 locs1 cells slots Q (F0 m pc' ls1 (S'.map (zabs ad)))) : W p l e R s m args below meth c H locs cells slots Q (F0 m pc ls (S.map (zabs ad))) := by
  obtain ⟨hd, rfl⟩ := ft_n hft rfl
  rcases S with _ | ⟨x | x, S⟩
  · exact absurd (show (none : Option (Nat × List zV × List zV × zS × zM)) = _ from hs) (fun q => by cases q)
  · simp only [zstep] at hs
    split at hs
    · rename_i hk
      cases hs
      have hw := zvw_hd hO.2.2.2.1
      refine lv_istore_n (x := Int32.ofInt x) hC.1 hC.2.1 hd rfl hO.2.2.1.has hk rfl (fun ls1 h1 => ?_)
      exact kk H locs ls1 (hO.loc (zLoc.st (v := vi x) h1) (zvw_tl hO.2.2.2.1) (zL_st hw _ hO.2.2.2.2))
    · cases hs
  · exact absurd (show (none : Option (Nat × List zV × List zV × zS × zM)) = _ from hs) (fun q => by cases q)
theorem s_istore {k : Nat} (hC : zCtx p s m args meth c z L.length) (hO : zOn D ca z0 Lx xs s ad L S θ μ H locs ls) (hft : ft z pc = some (.istore k, n)) (hs : zstep z (.istore k) n pc L S θ μ = some (pc', L', S', θ', μ')) (kk : ∀ (H1 : Heap) (locs1 : List Loc) (ls1 : Array Slot), zOn D ca z0 Lx xs s ad L' S' θ' μ' H1 locs1 ls1 → W p l e R s m args below meth c H1 locs1 cells slots Q (F0 m pc' ls1 (S'.map (zabs ad)))) : W p l e R s m args below meth c H locs cells slots Q (F0 m pc ls (S.map (zabs ad))) := by
  obtain ⟨hd, rfl⟩ := ft_n hft rfl
  rcases S with _ | ⟨x | x, S⟩
  · exact absurd (show (none : Option (Nat × List zV × List zV × zS × zM)) = _ from hs) (fun q => by cases q)
  · simp only [zstep] at hs
    split at hs
    · rename_i hk
      cases hs
      have hw := zvw_hd hO.2.2.2.1
      refine lv_istore (x := Int32.ofInt x) hC.1 hC.2.1 hd hO.2.2.1.has hk rfl (fun ls1 h1 => ?_)
      exact kk H locs ls1 (hO.loc (zLoc.st (v := vi x) h1) (zvw_tl hO.2.2.2.1) (zL_st hw _ hO.2.2.2.2))
    · cases hs
  · exact absurd (show (none : Option (Nat × List zV × List zV × zS × zM)) = _ from hs) (fun q => by cases q)
theorem s_lstore_n {k : Fin 4} (hC : zCtx p s m args meth c z L.length) (hO : zOn D ca z0 Lx xs s ad L S θ μ H locs ls) (hft : ft z pc = some (.lstore_n k, n)) (hs : zstep z (.lstore_n k) n pc L S θ μ = some (pc', L', S', θ', μ')) (kk : ∀ (H1 : Heap) (locs1 : List Loc) (ls1 : Array Slot), zOn D ca z0 Lx xs s ad L' S' θ' μ' H1 locs1 ls1 → W p l e R s m args below meth c H1 locs1 cells slots Q (F0 m pc' ls1 (S'.map (zabs ad)))) : W p l e R s m args below meth c H locs cells slots Q (F0 m pc ls (S.map (zabs ad))) := by
  obtain ⟨hd, rfl⟩ := ft_n hft rfl
  rcases S with _ | ⟨x | x | x, S⟩
  · exact absurd (show (none : Option (Nat × List zV × List zV × zS × zM)) = _ from hs) (fun q => by cases q)
  · exact absurd (show (none : Option (Nat × List zV × List zV × zS × zM)) = _ from hs) (fun q => by cases q)
  · simp only [zstep] at hs
    split at hs
    · rename_i hk
      cases hs
      have hw := zvw_hd hO.2.2.2.1
      refine lv_lstore_n (x := Int64.ofInt x) hC.1 hC.2.1 hd rfl hO.2.2.1.has hk rfl (fun ls1 h1 => ?_)
      exact kk H locs ls1 (hO.loc (zLoc.st2 h1) (zvw_tl hO.2.2.2.1) (zL_st hw _ (zL_raw _ hO.2.2.2.2)))
    · cases hs
  · exact absurd (show (none : Option (Nat × List zV × List zV × zS × zM)) = _ from hs) (fun q => by cases q)
theorem s_lstore {k : Nat} (hC : zCtx p s m args meth c z L.length) (hO : zOn D ca z0 Lx xs s ad L S θ μ H locs ls) (hft : ft z pc = some (.lstore k, n)) (hs : zstep z (.lstore k) n pc L S θ μ = some (pc', L', S', θ', μ')) (kk : ∀ (H1 : Heap) (locs1 : List Loc) (ls1 : Array Slot), zOn D ca z0 Lx xs s ad L' S' θ' μ' H1 locs1 ls1 → W p l e R s m args below meth c H1 locs1 cells slots Q (F0 m pc' ls1 (S'.map (zabs ad)))) : W p l e R s m args below meth c H locs cells slots Q (F0 m pc ls (S.map (zabs ad))) := by
  obtain ⟨hd, rfl⟩ := ft_n hft rfl
  rcases S with _ | ⟨x | x | x, S⟩
  · exact absurd (show (none : Option (Nat × List zV × List zV × zS × zM)) = _ from hs) (fun q => by cases q)
  · exact absurd (show (none : Option (Nat × List zV × List zV × zS × zM)) = _ from hs) (fun q => by cases q)
  · simp only [zstep] at hs
    split at hs
    · rename_i hk
      cases hs
      have hw := zvw_hd hO.2.2.2.1
      refine lv_lstore (x := Int64.ofInt x) hC.1 hC.2.1 hd hO.2.2.1.has hk rfl (fun ls1 h1 => ?_)
      exact kk H locs ls1 (hO.loc (zLoc.st2 h1) (zvw_tl hO.2.2.2.1) (zL_st hw _ (zL_raw _ hO.2.2.2.2)))
    · cases hs
  · exact absurd (show (none : Option (Nat × List zV × List zV × zS × zM)) = _ from hs) (fun q => by cases q)
theorem s_astore_n {k : Fin 4} (hC : zCtx p s m args meth c z L.length) (hO : zOn D ca z0 Lx xs s ad L S θ μ H locs ls) (hft : ft z pc = some (.astore_n k, n)) (hs : zstep z (.astore_n k) n pc L S θ μ = some (pc', L', S', θ', μ')) (kk : ∀ (H1 : Heap) (locs1 : List Loc) (ls1 : Array Slot), zOn D ca z0 Lx xs s ad L' S' θ' μ' H1 locs1 ls1 → W p l e R s m args below meth c H1 locs1 cells slots Q (F0 m pc' ls1 (S'.map (zabs ad)))) : W p l e R s m args below meth c H locs cells slots Q (F0 m pc ls (S.map (zabs ad))) := by
  obtain ⟨hd, rfl⟩ := ft_n hft rfl
  rcases S with _ | ⟨x | x | _ | r, S⟩
  · exact absurd (show (none : Option (Nat × List zV × List zV × zS × zM)) = _ from hs) (fun q => by cases q)
  · exact absurd (show (none : Option (Nat × List zV × List zV × zS × zM)) = _ from hs) (fun q => by cases q)
  · exact absurd (show (none : Option (Nat × List zV × List zV × zS × zM)) = _ from hs) (fun q => by cases q)
  · exact absurd (show (none : Option (Nat × List zV × List zV × zS × zM)) = _ from hs) (fun q => by cases q)
  · simp only [zstep] at hs
    split at hs
    · rename_i hk
      cases hs
      have hw := zvw_hd hO.2.2.2.1
      cases r with
      | none =>
        refine lv_astore_nN hC.1 hC.2.1 hd rfl hO.2.2.1.has hk rfl (fun ls1 h1 => ?_)
        exact kk H locs ls1 (hO.loc (zLoc.st (v := vn) h1) (zvw_tl hO.2.2.2.1) (zL_st hw _ hO.2.2.2.2))
      | some a =>
        refine lv_astore_n (x := ad a) hC.1 hC.2.1 hd rfl hO.2.2.1.has hk rfl (fun ls1 h1 => ?_)
        exact kk H locs ls1 (hO.loc (zLoc.st (v := vr a) h1) (zvw_tl hO.2.2.2.1) (zL_st hw _ hO.2.2.2.2))
    · cases hs
theorem s_astore {k : Nat} (hC : zCtx p s m args meth c z L.length) (hO : zOn D ca z0 Lx xs s ad L S θ μ H locs ls) (hft : ft z pc = some (.astore k, n)) (hs : zstep z (.astore k) n pc L S θ μ = some (pc', L', S', θ', μ')) (kk : ∀ (H1 : Heap) (locs1 : List Loc) (ls1 : Array Slot), zOn D ca z0 Lx xs s ad L' S' θ' μ' H1 locs1 ls1 → W p l e R s m args below meth c H1 locs1 cells slots Q (F0 m pc' ls1 (S'.map (zabs ad)))) : W p l e R s m args below meth c H locs cells slots Q (F0 m pc ls (S.map (zabs ad))) := by
  obtain ⟨hd, rfl⟩ := ft_n hft rfl
  rcases S with _ | ⟨x | x | _ | r, S⟩
  · exact absurd (show (none : Option (Nat × List zV × List zV × zS × zM)) = _ from hs) (fun q => by cases q)
  · exact absurd (show (none : Option (Nat × List zV × List zV × zS × zM)) = _ from hs) (fun q => by cases q)
  · exact absurd (show (none : Option (Nat × List zV × List zV × zS × zM)) = _ from hs) (fun q => by cases q)
  · exact absurd (show (none : Option (Nat × List zV × List zV × zS × zM)) = _ from hs) (fun q => by cases q)
  · simp only [zstep] at hs
    split at hs
    · rename_i hk
      cases hs
      have hw := zvw_hd hO.2.2.2.1
      cases r with
      | none =>
        refine lv_astoreN hC.1 hC.2.1 hd hO.2.2.1.has hk rfl (fun ls1 h1 => ?_)
        exact kk H locs ls1 (hO.loc (zLoc.st (v := vn) h1) (zvw_tl hO.2.2.2.1) (zL_st hw _ hO.2.2.2.2))
      | some a =>
        refine lv_astore (x := ad a) hC.1 hC.2.1 hd hO.2.2.1.has hk rfl (fun ls1 h1 => ?_)
        exact kk H locs ls1 (hO.loc (zLoc.st (v := vr a) h1) (zvw_tl hO.2.2.2.1) (zL_st hw _ hO.2.2.2.2))
    · cases hs
theorem s_iinc {k : Nat} {c0 : Int} (hC : zCtx p s m args meth c z L.length) (hO : zOn D ca z0 Lx xs s ad L S θ μ H locs ls) (hft : ft z pc = some (.iinc k c0, n)) (hs : zstep z (.iinc k c0) n pc L S θ μ = some (pc', L', S', θ', μ')) (kk : ∀ (H1 : Heap) (locs1 : List Loc) (ls1 : Array Slot), zOn D ca z0 Lx xs s ad L' S' θ' μ' H1 locs1 ls1 → W p l e R s m args below meth c H1 locs1 cells slots Q (F0 m pc' ls1 (S'.map (zabs ad)))) : W p l e R s m args below meth c H locs cells slots Q (F0 m pc ls (S.map (zabs ad))) := by
  obtain ⟨hd, rfl⟩ := ft_n hft rfl
  simp only [zstep] at hs
  split at hs
  · rename_i x hg
    split at hs
    · rename_i hk
      cases hs
      have hm := zlv_mem (ad := ad) (zg_get L k hg rfl) rfl
      obtain ⟨j, hj⟩ := List.getElem?_of_mem hm
      refine lv_iinc (k := j) (x := Int32.ofInt x) (v := Int32.ofInt (w32 (x + c0))) hC.1 hC.2.1 hd hO.2.2.1.has hj (by rw [e32_w, Int32.ofInt_add]) hk.2 rfl (fun ls1 h1 => ?_)
      exact kk H locs ls1 (hO.loc (zLoc.st (v := vi (w32 (x + c0))) h1) hO.2.2.2.1 (zL_st (zvi (w32_R (x + c0))) _ hO.2.2.2.2))
    · cases hs
  · cases hs
theorem s_iconst {c0 : Int} (hC : zCtx p s m args meth c z L.length) (hO : zOn D ca z0 Lx xs s ad L S θ μ H locs ls) (hft : ft z pc = some (.iconst c0, n)) (hs : zstep z (.iconst c0) n pc L S θ μ = some (pc', L', S', θ', μ')) (kk : ∀ (H1 : Heap) (locs1 : List Loc) (ls1 : Array Slot), zOn D ca z0 Lx xs s ad L' S' θ' μ' H1 locs1 ls1 → W p l e R s m args below meth c H1 locs1 cells slots Q (F0 m pc' ls1 (S'.map (zabs ad)))) : W p l e R s m args below meth c H locs cells slots Q (F0 m pc ls (S.map (zabs ad))) := by
  obtain ⟨hd, rfl⟩ := ft_n hft rfl
  cases hs
  exact lv_iconst hC.1 hC.2.1 hd ((e32_w c0).symm) (kk H locs ls (hO.stk (zvw_cons (w32_R c0) hO.2.2.2.1)))
theorem s_bipush {c0 : Int} (hC : zCtx p s m args meth c z L.length) (hO : zOn D ca z0 Lx xs s ad L S θ μ H locs ls) (hft : ft z pc = some (.bipush c0, n)) (hs : zstep z (.bipush c0) n pc L S θ μ = some (pc', L', S', θ', μ')) (kk : ∀ (H1 : Heap) (locs1 : List Loc) (ls1 : Array Slot), zOn D ca z0 Lx xs s ad L' S' θ' μ' H1 locs1 ls1 → W p l e R s m args below meth c H1 locs1 cells slots Q (F0 m pc' ls1 (S'.map (zabs ad)))) : W p l e R s m args below meth c H locs cells slots Q (F0 m pc ls (S.map (zabs ad))) := by
  obtain ⟨hd, rfl⟩ := ft_n hft rfl
  cases hs
  exact lv_bipush hC.1 hC.2.1 hd (e8_push c0) (kk H locs ls (hO.stk (zvw_cons (w8_R c0) hO.2.2.2.1)))
theorem s_sipush {c0 : Int} (hC : zCtx p s m args meth c z L.length) (hO : zOn D ca z0 Lx xs s ad L S θ μ H locs ls) (hft : ft z pc = some (.sipush c0, n)) (hs : zstep z (.sipush c0) n pc L S θ μ = some (pc', L', S', θ', μ')) (kk : ∀ (H1 : Heap) (locs1 : List Loc) (ls1 : Array Slot), zOn D ca z0 Lx xs s ad L' S' θ' μ' H1 locs1 ls1 → W p l e R s m args below meth c H1 locs1 cells slots Q (F0 m pc' ls1 (S'.map (zabs ad)))) : W p l e R s m args below meth c H locs cells slots Q (F0 m pc ls (S.map (zabs ad))) := by
  obtain ⟨hd, rfl⟩ := ft_n hft rfl
  cases hs
  exact lv_sipush hC.1 hC.2.1 hd (e16_push c0) (kk H locs ls (hO.stk (zvw_cons (w16_R c0) hO.2.2.2.1)))
theorem s_lconst {c0 : Fin 2} (hC : zCtx p s m args meth c z L.length) (hO : zOn D ca z0 Lx xs s ad L S θ μ H locs ls) (hft : ft z pc = some (.lconst c0, n)) (hs : zstep z (.lconst c0) n pc L S θ μ = some (pc', L', S', θ', μ')) (kk : ∀ (H1 : Heap) (locs1 : List Loc) (ls1 : Array Slot), zOn D ca z0 Lx xs s ad L' S' θ' μ' H1 locs1 ls1 → W p l e R s m args below meth c H1 locs1 cells slots Q (F0 m pc' ls1 (S'.map (zabs ad)))) : W p l e R s m args below meth c H locs cells slots Q (F0 m pc ls (S.map (zabs ad))) := by
  obtain ⟨hd, rfl⟩ := ft_n hft rfl
  cases hs
  refine lv_lconst hC.1 hC.2.1 hd rfl ?_
  have hr : R64 ((c0 : Nat) : Int) := by have := c0.2; constructor <;> omega
  exact kk H locs ls (hO.stk (zvw_cons hr hO.2.2.2.1))
theorem s_iadd (hC : zCtx p s m args meth c z L.length) (hO : zOn D ca z0 Lx xs s ad L S θ μ H locs ls) (hft : ft z pc = some (.iadd, n)) (hs : zstep z (.iadd) n pc L S θ μ = some (pc', L', S', θ', μ')) (kk : ∀ (H1 : Heap) (locs1 : List Loc) (ls1 : Array Slot), zOn D ca z0 Lx xs s ad L' S' θ' μ' H1 locs1 ls1 → W p l e R s m args below meth c H1 locs1 cells slots Q (F0 m pc' ls1 (S'.map (zabs ad)))) : W p l e R s m args below meth c H locs cells slots Q (F0 m pc ls (S.map (zabs ad))) := by
  obtain ⟨hd, rfl⟩ := ft_n hft rfl
  rcases S with _ | ⟨y | y, _ | ⟨x | x, S⟩⟩ <;> try (exact absurd (show (none : Option (Nat × List zV × List zV × zS × zM)) = _ from hs) (fun q => by cases q))
  · cases hs
    have hy : R32 y := zvw_hd hO.2.2.2.1
    have hx : R32 x := zvw_hd (zvw_tl hO.2.2.2.1)
    have h1 := kk H locs ls (hO.stk (zvw_cons (w32_R _) (zvw_tl (zvw_tl hO.2.2.2.1))))
    have h2 : Int32.ofInt x + Int32.ofInt y = Int32.ofInt (w32 (x + y)) := by rw [e32_w, Int32.ofInt_add]
    refine lv_iadd hC.1 hC.2.1 hd ?_
    rw [h2]
    exact h1
theorem s_isub (hC : zCtx p s m args meth c z L.length) (hO : zOn D ca z0 Lx xs s ad L S θ μ H locs ls) (hft : ft z pc = some (.isub, n)) (hs : zstep z (.isub) n pc L S θ μ = some (pc', L', S', θ', μ')) (kk : ∀ (H1 : Heap) (locs1 : List Loc) (ls1 : Array Slot), zOn D ca z0 Lx xs s ad L' S' θ' μ' H1 locs1 ls1 → W p l e R s m args below meth c H1 locs1 cells slots Q (F0 m pc' ls1 (S'.map (zabs ad)))) : W p l e R s m args below meth c H locs cells slots Q (F0 m pc ls (S.map (zabs ad))) := by
  obtain ⟨hd, rfl⟩ := ft_n hft rfl
  rcases S with _ | ⟨y | y, _ | ⟨x | x, S⟩⟩ <;> try (exact absurd (show (none : Option (Nat × List zV × List zV × zS × zM)) = _ from hs) (fun q => by cases q))
  · cases hs
    have hy : R32 y := zvw_hd hO.2.2.2.1
    have hx : R32 x := zvw_hd (zvw_tl hO.2.2.2.1)
    have h1 := kk H locs ls (hO.stk (zvw_cons (w32_R _) (zvw_tl (zvw_tl hO.2.2.2.1))))
    have h2 : Int32.ofInt x - Int32.ofInt y = Int32.ofInt (w32 (x - y)) := by rw [e32_w, Int32.ofInt_sub]
    refine lv_isub hC.1 hC.2.1 hd ?_
    rw [h2]
    exact h1
theorem s_imul (hC : zCtx p s m args meth c z L.length) (hO : zOn D ca z0 Lx xs s ad L S θ μ H locs ls) (hft : ft z pc = some (.imul, n)) (hs : zstep z (.imul) n pc L S θ μ = some (pc', L', S', θ', μ')) (kk : ∀ (H1 : Heap) (locs1 : List Loc) (ls1 : Array Slot), zOn D ca z0 Lx xs s ad L' S' θ' μ' H1 locs1 ls1 → W p l e R s m args below meth c H1 locs1 cells slots Q (F0 m pc' ls1 (S'.map (zabs ad)))) : W p l e R s m args below meth c H locs cells slots Q (F0 m pc ls (S.map (zabs ad))) := by
  obtain ⟨hd, rfl⟩ := ft_n hft rfl
  rcases S with _ | ⟨y | y, _ | ⟨x | x, S⟩⟩ <;> try (exact absurd (show (none : Option (Nat × List zV × List zV × zS × zM)) = _ from hs) (fun q => by cases q))
  · cases hs
    have hy : R32 y := zvw_hd hO.2.2.2.1
    have hx : R32 x := zvw_hd (zvw_tl hO.2.2.2.1)
    have h1 := kk H locs ls (hO.stk (zvw_cons (w32_R _) (zvw_tl (zvw_tl hO.2.2.2.1))))
    have h2 : Int32.ofInt x * Int32.ofInt y = Int32.ofInt (w32 (x * y)) := by rw [e32_w, Int32.ofInt_mul]
    refine lv_imul hC.1 hC.2.1 hd ?_
    rw [h2]
    exact h1
theorem s_iand (hC : zCtx p s m args meth c z L.length) (hO : zOn D ca z0 Lx xs s ad L S θ μ H locs ls) (hft : ft z pc = some (.iand, n)) (hs : zstep z (.iand) n pc L S θ μ = some (pc', L', S', θ', μ')) (kk : ∀ (H1 : Heap) (locs1 : List Loc) (ls1 : Array Slot), zOn D ca z0 Lx xs s ad L' S' θ' μ' H1 locs1 ls1 → W p l e R s m args below meth c H1 locs1 cells slots Q (F0 m pc' ls1 (S'.map (zabs ad)))) : W p l e R s m args below meth c H locs cells slots Q (F0 m pc ls (S.map (zabs ad))) := by
  obtain ⟨hd, rfl⟩ := ft_n hft rfl
  rcases S with _ | ⟨y | y, _ | ⟨x | x, S⟩⟩ <;> try (exact absurd (show (none : Option (Nat × List zV × List zV × zS × zM)) = _ from hs) (fun q => by cases q))
  · cases hs
    have hy : R32 y := zvw_hd hO.2.2.2.1
    have hx : R32 x := zvw_hd (zvw_tl hO.2.2.2.1)
    have h1 := kk H locs ls (hO.stk (zvw_cons (zand_R _ _) (zvw_tl (zvw_tl hO.2.2.2.1))))
    have h2 : Int32.ofInt x &&& Int32.ofInt y = Int32.ofInt (zand x y) := e32_and
    refine lv_iand hC.1 hC.2.1 hd ?_
    rw [h2]
    exact h1
theorem s_ior (hC : zCtx p s m args meth c z L.length) (hO : zOn D ca z0 Lx xs s ad L S θ μ H locs ls) (hft : ft z pc = some (.ior, n)) (hs : zstep z (.ior) n pc L S θ μ = some (pc', L', S', θ', μ')) (kk : ∀ (H1 : Heap) (locs1 : List Loc) (ls1 : Array Slot), zOn D ca z0 Lx xs s ad L' S' θ' μ' H1 locs1 ls1 → W p l e R s m args below meth c H1 locs1 cells slots Q (F0 m pc' ls1 (S'.map (zabs ad)))) : W p l e R s m args below meth c H locs cells slots Q (F0 m pc ls (S.map (zabs ad))) := by
  obtain ⟨hd, rfl⟩ := ft_n hft rfl
  rcases S with _ | ⟨y | y, _ | ⟨x | x, S⟩⟩ <;> try (exact absurd (show (none : Option (Nat × List zV × List zV × zS × zM)) = _ from hs) (fun q => by cases q))
  · cases hs
    have hy : R32 y := zvw_hd hO.2.2.2.1
    have hx : R32 x := zvw_hd (zvw_tl hO.2.2.2.1)
    have h1 := kk H locs ls (hO.stk (zvw_cons (zor_R _ _) (zvw_tl (zvw_tl hO.2.2.2.1))))
    have h2 : Int32.ofInt x ||| Int32.ofInt y = Int32.ofInt (zor x y) := e32_or
    refine lv_ior hC.1 hC.2.1 hd ?_
    rw [h2]
    exact h1
theorem s_ixor (hC : zCtx p s m args meth c z L.length) (hO : zOn D ca z0 Lx xs s ad L S θ μ H locs ls) (hft : ft z pc = some (.ixor, n)) (hs : zstep z (.ixor) n pc L S θ μ = some (pc', L', S', θ', μ')) (kk : ∀ (H1 : Heap) (locs1 : List Loc) (ls1 : Array Slot), zOn D ca z0 Lx xs s ad L' S' θ' μ' H1 locs1 ls1 → W p l e R s m args below meth c H1 locs1 cells slots Q (F0 m pc' ls1 (S'.map (zabs ad)))) : W p l e R s m args below meth c H locs cells slots Q (F0 m pc ls (S.map (zabs ad))) := by
  obtain ⟨hd, rfl⟩ := ft_n hft rfl
  rcases S with _ | ⟨y | y, _ | ⟨x | x, S⟩⟩ <;> try (exact absurd (show (none : Option (Nat × List zV × List zV × zS × zM)) = _ from hs) (fun q => by cases q))
  · cases hs
    have hy : R32 y := zvw_hd hO.2.2.2.1
    have hx : R32 x := zvw_hd (zvw_tl hO.2.2.2.1)
    have h1 := kk H locs ls (hO.stk (zvw_cons (zxor_R _ _) (zvw_tl (zvw_tl hO.2.2.2.1))))
    have h2 : Int32.ofInt x ^^^ Int32.ofInt y = Int32.ofInt (zxor x y) := e32_xor
    refine lv_ixor hC.1 hC.2.1 hd ?_
    rw [h2]
    exact h1
theorem s_ishl (hC : zCtx p s m args meth c z L.length) (hO : zOn D ca z0 Lx xs s ad L S θ μ H locs ls) (hft : ft z pc = some (.ishl, n)) (hs : zstep z (.ishl) n pc L S θ μ = some (pc', L', S', θ', μ')) (kk : ∀ (H1 : Heap) (locs1 : List Loc) (ls1 : Array Slot), zOn D ca z0 Lx xs s ad L' S' θ' μ' H1 locs1 ls1 → W p l e R s m args below meth c H1 locs1 cells slots Q (F0 m pc' ls1 (S'.map (zabs ad)))) : W p l e R s m args below meth c H locs cells slots Q (F0 m pc ls (S.map (zabs ad))) := by
  obtain ⟨hd, rfl⟩ := ft_n hft rfl
  rcases S with _ | ⟨y | y, _ | ⟨x | x, S⟩⟩ <;> try (exact absurd (show (none : Option (Nat × List zV × List zV × zS × zM)) = _ from hs) (fun q => by cases q))
  · cases hs
    have hy : R32 y := zvw_hd hO.2.2.2.1
    have hx : R32 x := zvw_hd (zvw_tl hO.2.2.2.1)
    have h1 := kk H locs ls (hO.stk (zvw_cons (zshl_R _ _) (zvw_tl (zvw_tl hO.2.2.2.1))))
    have h2 : Int32.ofInt x <<< (Int32.ofInt y &&& 31) = Int32.ofInt (zshl x y) := e32_shl
    refine lv_ishl hC.1 hC.2.1 hd ?_
    rw [h2]
    exact h1
theorem s_ishr (hC : zCtx p s m args meth c z L.length) (hO : zOn D ca z0 Lx xs s ad L S θ μ H locs ls) (hft : ft z pc = some (.ishr, n)) (hs : zstep z (.ishr) n pc L S θ μ = some (pc', L', S', θ', μ')) (kk : ∀ (H1 : Heap) (locs1 : List Loc) (ls1 : Array Slot), zOn D ca z0 Lx xs s ad L' S' θ' μ' H1 locs1 ls1 → W p l e R s m args below meth c H1 locs1 cells slots Q (F0 m pc' ls1 (S'.map (zabs ad)))) : W p l e R s m args below meth c H locs cells slots Q (F0 m pc ls (S.map (zabs ad))) := by
  obtain ⟨hd, rfl⟩ := ft_n hft rfl
  rcases S with _ | ⟨y | y, _ | ⟨x | x, S⟩⟩ <;> try (exact absurd (show (none : Option (Nat × List zV × List zV × zS × zM)) = _ from hs) (fun q => by cases q))
  · cases hs
    have hy : R32 y := zvw_hd hO.2.2.2.1
    have hx : R32 x := zvw_hd (zvw_tl hO.2.2.2.1)
    have h1 := kk H locs ls (hO.stk (zvw_cons (zshr_R _ _) (zvw_tl (zvw_tl hO.2.2.2.1))))
    have h2 : Int32.ofInt x >>> (Int32.ofInt y &&& 31) = Int32.ofInt (zshr x y) := e32_shr
    refine lv_ishr hC.1 hC.2.1 hd ?_
    rw [h2]
    exact h1
theorem s_iushr (hC : zCtx p s m args meth c z L.length) (hO : zOn D ca z0 Lx xs s ad L S θ μ H locs ls) (hft : ft z pc = some (.iushr, n)) (hs : zstep z (.iushr) n pc L S θ μ = some (pc', L', S', θ', μ')) (kk : ∀ (H1 : Heap) (locs1 : List Loc) (ls1 : Array Slot), zOn D ca z0 Lx xs s ad L' S' θ' μ' H1 locs1 ls1 → W p l e R s m args below meth c H1 locs1 cells slots Q (F0 m pc' ls1 (S'.map (zabs ad)))) : W p l e R s m args below meth c H locs cells slots Q (F0 m pc ls (S.map (zabs ad))) := by
  obtain ⟨hd, rfl⟩ := ft_n hft rfl
  rcases S with _ | ⟨y | y, _ | ⟨x | x, S⟩⟩ <;> try (exact absurd (show (none : Option (Nat × List zV × List zV × zS × zM)) = _ from hs) (fun q => by cases q))
  · cases hs
    have hy : R32 y := zvw_hd hO.2.2.2.1
    have hx : R32 x := zvw_hd (zvw_tl hO.2.2.2.1)
    have h1 := kk H locs ls (hO.stk (zvw_cons (zush_R _ _) (zvw_tl (zvw_tl hO.2.2.2.1))))
    exact lv_iushr hC.1 hC.2.1 hd e32_ush h1
theorem s_idiv (hC : zCtx p s m args meth c z L.length) (hO : zOn D ca z0 Lx xs s ad L S θ μ H locs ls) (hft : ft z pc = some (.idiv, n)) (hs : zstep z (.idiv) n pc L S θ μ = some (pc', L', S', θ', μ')) (kk : ∀ (H1 : Heap) (locs1 : List Loc) (ls1 : Array Slot), zOn D ca z0 Lx xs s ad L' S' θ' μ' H1 locs1 ls1 → W p l e R s m args below meth c H1 locs1 cells slots Q (F0 m pc' ls1 (S'.map (zabs ad)))) : W p l e R s m args below meth c H locs cells slots Q (F0 m pc ls (S.map (zabs ad))) := by
  obtain ⟨hd, rfl⟩ := ft_n hft rfl
  rcases S with _ | ⟨y | y, _ | ⟨x | x, S⟩⟩ <;> try (exact absurd (show (none : Option (Nat × List zV × List zV × zS × zM)) = _ from hs) (fun q => by cases q))
  · simp only [zstep] at hs
    split at hs
    · cases hs
    · rename_i hne
      cases hs
      have hy : R32 y := zvw_hd hO.2.2.2.1
      have hx : R32 x := zvw_hd (zvw_tl hO.2.2.2.1)
      have h1 := kk H locs ls (hO.stk (zvw_cons (w32_R _) (zvw_tl (zvw_tl hO.2.2.2.1))))
      have h2 : Int32.ofInt x / Int32.ofInt y = Int32.ofInt (w32 (x.tdiv y)) := e32_div hx hy
      refine lv_idiv hC.1 hC.2.1 hd (fun q => hne ((e32_inj hy (by constructor <;> omega)).mp q)) ?_
      rw [h2]
      exact h1
theorem s_irem (hC : zCtx p s m args meth c z L.length) (hO : zOn D ca z0 Lx xs s ad L S θ μ H locs ls) (hft : ft z pc = some (.irem, n)) (hs : zstep z (.irem) n pc L S θ μ = some (pc', L', S', θ', μ')) (kk : ∀ (H1 : Heap) (locs1 : List Loc) (ls1 : Array Slot), zOn D ca z0 Lx xs s ad L' S' θ' μ' H1 locs1 ls1 → W p l e R s m args below meth c H1 locs1 cells slots Q (F0 m pc' ls1 (S'.map (zabs ad)))) : W p l e R s m args below meth c H locs cells slots Q (F0 m pc ls (S.map (zabs ad))) := by
  obtain ⟨hd, rfl⟩ := ft_n hft rfl
  rcases S with _ | ⟨y | y, _ | ⟨x | x, S⟩⟩ <;> try (exact absurd (show (none : Option (Nat × List zV × List zV × zS × zM)) = _ from hs) (fun q => by cases q))
  · simp only [zstep] at hs
    split at hs
    · cases hs
    · rename_i hne
      cases hs
      have hy : R32 y := zvw_hd hO.2.2.2.1
      have hx : R32 x := zvw_hd (zvw_tl hO.2.2.2.1)
      have h1 := kk H locs ls (hO.stk (zvw_cons (tmod_R hx) (zvw_tl (zvw_tl hO.2.2.2.1))))
      have h2 : Int32.ofInt x - Int32.ofInt x / Int32.ofInt y * Int32.ofInt y = Int32.ofInt (x.tmod y) := e32_rem hx hy
      refine lv_irem hC.1 hC.2.1 hd (fun q => hne ((e32_inj hy (by constructor <;> omega)).mp q)) ?_
      rw [h2]
      exact h1
theorem s_i2l (hC : zCtx p s m args meth c z L.length) (hO : zOn D ca z0 Lx xs s ad L S θ μ H locs ls) (hft : ft z pc = some (.i2l, n)) (hs : zstep z (.i2l) n pc L S θ μ = some (pc', L', S', θ', μ')) (kk : ∀ (H1 : Heap) (locs1 : List Loc) (ls1 : Array Slot), zOn D ca z0 Lx xs s ad L' S' θ' μ' H1 locs1 ls1 → W p l e R s m args below meth c H1 locs1 cells slots Q (F0 m pc' ls1 (S'.map (zabs ad)))) : W p l e R s m args below meth c H locs cells slots Q (F0 m pc ls (S.map (zabs ad))) := by
  obtain ⟨hd, rfl⟩ := ft_n hft rfl
  rcases S with _ | ⟨x | x, S⟩
  · exact absurd (show (none : Option (Nat × List zV × List zV × zS × zM)) = _ from hs) (fun q => by cases q)
  · cases hs
    have hx : R32 x := zvw_hd hO.2.2.2.1
    exact lv_i2l hC.1 hC.2.1 hd (e_i2l hx) (kk H locs ls (hO.stk (zvw_cons (R3264 hx) (zvw_tl hO.2.2.2.1))))
  · exact absurd (show (none : Option (Nat × List zV × List zV × zS × zM)) = _ from hs) (fun q => by cases q)
theorem s_i2b (hC : zCtx p s m args meth c z L.length) (hO : zOn D ca z0 Lx xs s ad L S θ μ H locs ls) (hft : ft z pc = some (.i2b, n)) (hs : zstep z (.i2b) n pc L S θ μ = some (pc', L', S', θ', μ')) (kk : ∀ (H1 : Heap) (locs1 : List Loc) (ls1 : Array Slot), zOn D ca z0 Lx xs s ad L' S' θ' μ' H1 locs1 ls1 → W p l e R s m args below meth c H1 locs1 cells slots Q (F0 m pc' ls1 (S'.map (zabs ad)))) : W p l e R s m args below meth c H locs cells slots Q (F0 m pc ls (S.map (zabs ad))) := by
  obtain ⟨hd, rfl⟩ := ft_n hft rfl
  rcases S with _ | ⟨x | x, S⟩
  · exact absurd (show (none : Option (Nat × List zV × List zV × zS × zM)) = _ from hs) (fun q => by cases q)
  · cases hs
    have hx : R32 x := zvw_hd hO.2.2.2.1
    exact lv_i2b hC.1 hC.2.1 hd (e8_i2b hx) (kk H locs ls (hO.stk (zvw_cons (w8_R _) (zvw_tl hO.2.2.2.1))))
  · exact absurd (show (none : Option (Nat × List zV × List zV × zS × zM)) = _ from hs) (fun q => by cases q)
theorem s_l2i (hC : zCtx p s m args meth c z L.length) (hO : zOn D ca z0 Lx xs s ad L S θ μ H locs ls) (hft : ft z pc = some (.l2i, n)) (hs : zstep z (.l2i) n pc L S θ μ = some (pc', L', S', θ', μ')) (kk : ∀ (H1 : Heap) (locs1 : List Loc) (ls1 : Array Slot), zOn D ca z0 Lx xs s ad L' S' θ' μ' H1 locs1 ls1 → W p l e R s m args below meth c H1 locs1 cells slots Q (F0 m pc' ls1 (S'.map (zabs ad)))) : W p l e R s m args below meth c H locs cells slots Q (F0 m pc ls (S.map (zabs ad))) := by
  obtain ⟨hd, rfl⟩ := ft_n hft rfl
  rcases S with _ | ⟨x | x | x, S⟩
  · exact absurd (show (none : Option (Nat × List zV × List zV × zS × zM)) = _ from hs) (fun q => by cases q)
  · exact absurd (show (none : Option (Nat × List zV × List zV × zS × zM)) = _ from hs) (fun q => by cases q)
  · cases hs
    have hx : R64 x := zvw_hd hO.2.2.2.1
    exact lv_l2i hC.1 hC.2.1 hd (e_l2i hx) (kk H locs ls (hO.stk (zvw_cons (w32_R _) (zvw_tl hO.2.2.2.1))))
  · exact absurd (show (none : Option (Nat × List zV × List zV × zS × zM)) = _ from hs) (fun q => by cases q)
theorem s_ladd (hC : zCtx p s m args meth c z L.length) (hO : zOn D ca z0 Lx xs s ad L S θ μ H locs ls) (hft : ft z pc = some (.ladd, n)) (hs : zstep z (.ladd) n pc L S θ μ = some (pc', L', S', θ', μ')) (kk : ∀ (H1 : Heap) (locs1 : List Loc) (ls1 : Array Slot), zOn D ca z0 Lx xs s ad L' S' θ' μ' H1 locs1 ls1 → W p l e R s m args below meth c H1 locs1 cells slots Q (F0 m pc' ls1 (S'.map (zabs ad)))) : W p l e R s m args below meth c H locs cells slots Q (F0 m pc ls (S.map (zabs ad))) := by
  obtain ⟨hd, rfl⟩ := ft_n hft rfl
  rcases S with _ | ⟨y | y | y, _ | ⟨x | x | x, S⟩⟩ <;> try (exact absurd (show (none : Option (Nat × List zV × List zV × zS × zM)) = _ from hs) (fun q => by cases q))
  · cases hs
    have hy : R64 y := zvw_hd hO.2.2.2.1
    have hx : R64 x := zvw_hd (zvw_tl hO.2.2.2.1)
    have h1 := kk H locs ls (hO.stk (zvw_cons (w64_R _) (zvw_tl (zvw_tl hO.2.2.2.1))))
    have h2 : Int64.ofInt x + Int64.ofInt y = Int64.ofInt (w64 (x + y)) := by rw [e64_w, Int64.ofInt_add]
    refine lv_ladd hC.1 hC.2.1 hd ?_
    rw [h2]
    exact h1
theorem s_lsub (hC : zCtx p s m args meth c z L.length) (hO : zOn D ca z0 Lx xs s ad L S θ μ H locs ls) (hft : ft z pc = some (.lsub, n)) (hs : zstep z (.lsub) n pc L S θ μ = some (pc', L', S', θ', μ')) (kk : ∀ (H1 : Heap) (locs1 : List Loc) (ls1 : Array Slot), zOn D ca z0 Lx xs s ad L' S' θ' μ' H1 locs1 ls1 → W p l e R s m args below meth c H1 locs1 cells slots Q (F0 m pc' ls1 (S'.map (zabs ad)))) : W p l e R s m args below meth c H locs cells slots Q (F0 m pc ls (S.map (zabs ad))) := by
  obtain ⟨hd, rfl⟩ := ft_n hft rfl
  rcases S with _ | ⟨y | y | y, _ | ⟨x | x | x, S⟩⟩ <;> try (exact absurd (show (none : Option (Nat × List zV × List zV × zS × zM)) = _ from hs) (fun q => by cases q))
  · cases hs
    have hy : R64 y := zvw_hd hO.2.2.2.1
    have hx : R64 x := zvw_hd (zvw_tl hO.2.2.2.1)
    have h1 := kk H locs ls (hO.stk (zvw_cons (w64_R _) (zvw_tl (zvw_tl hO.2.2.2.1))))
    have h2 : Int64.ofInt x - Int64.ofInt y = Int64.ofInt (w64 (x - y)) := by rw [e64_w, Int64.ofInt_sub]
    refine lv_lsub hC.1 hC.2.1 hd ?_
    rw [h2]
    exact h1
theorem s_lmul (hC : zCtx p s m args meth c z L.length) (hO : zOn D ca z0 Lx xs s ad L S θ μ H locs ls) (hft : ft z pc = some (.lmul, n)) (hs : zstep z (.lmul) n pc L S θ μ = some (pc', L', S', θ', μ')) (kk : ∀ (H1 : Heap) (locs1 : List Loc) (ls1 : Array Slot), zOn D ca z0 Lx xs s ad L' S' θ' μ' H1 locs1 ls1 → W p l e R s m args below meth c H1 locs1 cells slots Q (F0 m pc' ls1 (S'.map (zabs ad)))) : W p l e R s m args below meth c H locs cells slots Q (F0 m pc ls (S.map (zabs ad))) := by
  obtain ⟨hd, rfl⟩ := ft_n hft rfl
  rcases S with _ | ⟨y | y | y, _ | ⟨x | x | x, S⟩⟩ <;> try (exact absurd (show (none : Option (Nat × List zV × List zV × zS × zM)) = _ from hs) (fun q => by cases q))
  · cases hs
    have hy : R64 y := zvw_hd hO.2.2.2.1
    have hx : R64 x := zvw_hd (zvw_tl hO.2.2.2.1)
    have h1 := kk H locs ls (hO.stk (zvw_cons (w64_R _) (zvw_tl (zvw_tl hO.2.2.2.1))))
    have h2 : Int64.ofInt x * Int64.ofInt y = Int64.ofInt (w64 (x * y)) := by rw [e64_w, Int64.ofInt_mul]
    refine lv_lmul hC.1 hC.2.1 hd ?_
    rw [h2]
    exact h1
theorem s_ldiv (hC : zCtx p s m args meth c z L.length) (hO : zOn D ca z0 Lx xs s ad L S θ μ H locs ls) (hft : ft z pc = some (.ldiv, n)) (hs : zstep z (.ldiv) n pc L S θ μ = some (pc', L', S', θ', μ')) (kk : ∀ (H1 : Heap) (locs1 : List Loc) (ls1 : Array Slot), zOn D ca z0 Lx xs s ad L' S' θ' μ' H1 locs1 ls1 → W p l e R s m args below meth c H1 locs1 cells slots Q (F0 m pc' ls1 (S'.map (zabs ad)))) : W p l e R s m args below meth c H locs cells slots Q (F0 m pc ls (S.map (zabs ad))) := by
  obtain ⟨hd, rfl⟩ := ft_n hft rfl
  rcases S with _ | ⟨y | y | y, _ | ⟨x | x | x, S⟩⟩ <;> try (exact absurd (show (none : Option (Nat × List zV × List zV × zS × zM)) = _ from hs) (fun q => by cases q))
  · simp only [zstep] at hs
    split at hs
    · cases hs
    · rename_i hne
      cases hs
      have hy : R64 y := zvw_hd hO.2.2.2.1
      have hx : R64 x := zvw_hd (zvw_tl hO.2.2.2.1)
      have h1 := kk H locs ls (hO.stk (zvw_cons (w64_R _) (zvw_tl (zvw_tl hO.2.2.2.1))))
      have h2 : Int64.ofInt x / Int64.ofInt y = Int64.ofInt (w64 (x.tdiv y)) := e64_div hx hy
      refine lv_ldiv hC.1 hC.2.1 hd (fun q => hne ((e64_inj hy (by constructor <;> omega)).mp q)) ?_
      rw [h2]
      exact h1
theorem s_lcmp (hC : zCtx p s m args meth c z L.length) (hO : zOn D ca z0 Lx xs s ad L S θ μ H locs ls) (hft : ft z pc = some (.lcmp, n)) (hs : zstep z (.lcmp) n pc L S θ μ = some (pc', L', S', θ', μ')) (kk : ∀ (H1 : Heap) (locs1 : List Loc) (ls1 : Array Slot), zOn D ca z0 Lx xs s ad L' S' θ' μ' H1 locs1 ls1 → W p l e R s m args below meth c H1 locs1 cells slots Q (F0 m pc' ls1 (S'.map (zabs ad)))) : W p l e R s m args below meth c H locs cells slots Q (F0 m pc ls (S.map (zabs ad))) := by
  obtain ⟨hd, rfl⟩ := ft_n hft rfl
  rcases S with _ | ⟨y | y | y, _ | ⟨x | x | x, S⟩⟩ <;> try (exact absurd (show (none : Option (Nat × List zV × List zV × zS × zM)) = _ from hs) (fun q => by cases q))
  · cases hs
    have hy : R64 y := zvw_hd hO.2.2.2.1
    have hx : R64 x := zvw_hd (zvw_tl hO.2.2.2.1)
    have hr : R32 (zlcmp x y) := by unfold zlcmp; split <;> (try split) <;> constructor <;> omega
    have h1 := kk H locs ls (hO.stk (zvw_cons (v := vi (zlcmp x y)) hr (zvw_tl (zvw_tl hO.2.2.2.1))))
    have h2 : lg_cmp (Int64.ofInt x) (Int64.ofInt y) = Int32.ofInt (zlcmp x y) := by
      unfold lg_cmp zlcmp
      by_cases h3 : y < x
      · rw [if_pos (show Int64.ofInt x > Int64.ofInt y from (e64_lt hy hx).mpr h3), if_pos h3]; rfl
      · rw [if_neg (show ¬ Int64.ofInt x > Int64.ofInt y from fun q => h3 ((e64_lt hy hx).mp q)), if_neg h3]
        by_cases h4 : x = y
        · rw [if_pos ((e64_inj hx hy).mpr h4), if_pos h4]; rfl
        · rw [if_neg (fun q => h4 ((e64_inj hx hy).mp q)), if_neg h4]; rfl
    refine W.lcmp hC.1 hC.2.1 hd ?_
    rw [h2]
    exact h1
theorem s_dup (hC : zCtx p s m args meth c z L.length) (hO : zOn D ca z0 Lx xs s ad L S θ μ H locs ls) (hft : ft z pc = some (.dup, n)) (hs : zstep z (.dup) n pc L S θ μ = some (pc', L', S', θ', μ')) (kk : ∀ (H1 : Heap) (locs1 : List Loc) (ls1 : Array Slot), zOn D ca z0 Lx xs s ad L' S' θ' μ' H1 locs1 ls1 → W p l e R s m args below meth c H1 locs1 cells slots Q (F0 m pc' ls1 (S'.map (zabs ad)))) : W p l e R s m args below meth c H locs cells slots Q (F0 m pc ls (S.map (zabs ad))) := by
  obtain ⟨hd, rfl⟩ := ft_n hft rfl
  rcases S with _ | ⟨v, S⟩
  · exact absurd (show (none : Option (Nat × List zV × List zV × zS × zM)) = _ from hs) (fun q => by cases q)
  · simp only [zstep] at hs
    split at hs
    · rename_i hk
      cases hs
      exact lv_dup hC.1 hC.2.1 hd (zabs_cat.trans hk.1) (kk H locs ls (hO.stk (zvw_cons (zvw_hd hO.2.2.2.1) hO.2.2.2.1)))
    · cases hs
theorem s_pop (hC : zCtx p s m args meth c z L.length) (hO : zOn D ca z0 Lx xs s ad L S θ μ H locs ls) (hft : ft z pc = some (.pop, n)) (hs : zstep z (.pop) n pc L S θ μ = some (pc', L', S', θ', μ')) (kk : ∀ (H1 : Heap) (locs1 : List Loc) (ls1 : Array Slot), zOn D ca z0 Lx xs s ad L' S' θ' μ' H1 locs1 ls1 → W p l e R s m args below meth c H1 locs1 cells slots Q (F0 m pc' ls1 (S'.map (zabs ad)))) : W p l e R s m args below meth c H locs cells slots Q (F0 m pc ls (S.map (zabs ad))) := by
  obtain ⟨hd, rfl⟩ := ft_n hft rfl
  rcases S with _ | ⟨v, S⟩
  · exact absurd (show (none : Option (Nat × List zV × List zV × zS × zM)) = _ from hs) (fun q => by cases q)
  · simp only [zstep] at hs
    split at hs
    · rename_i hk
      cases hs
      exact lv_pop hC.1 hC.2.1 hd (zabs_cat.trans hk.1) (kk H locs ls (hO.stk (zvw_tl hO.2.2.2.1)))
    · cases hs
theorem s_dup2 (hC : zCtx p s m args meth c z L.length) (hO : zOn D ca z0 Lx xs s ad L S θ μ H locs ls) (hft : ft z pc = some (.dup2, n)) (hs : zstep z (.dup2) n pc L S θ μ = some (pc', L', S', θ', μ')) (kk : ∀ (H1 : Heap) (locs1 : List Loc) (ls1 : Array Slot), zOn D ca z0 Lx xs s ad L' S' θ' μ' H1 locs1 ls1 → W p l e R s m args below meth c H1 locs1 cells slots Q (F0 m pc' ls1 (S'.map (zabs ad)))) : W p l e R s m args below meth c H locs cells slots Q (F0 m pc ls (S.map (zabs ad))) := by
  obtain ⟨hd, rfl⟩ := ft_n hft rfl
  rcases S with _ | ⟨v, _ | ⟨u, S⟩⟩
  · exact absurd (show (none : Option (Nat × List zV × List zV × zS × zM)) = _ from hs) (fun q => by cases q)
  · exact absurd (show (none : Option (Nat × List zV × List zV × zS × zM)) = _ from hs) (fun q => by cases q)
  · simp only [zstep] at hs
    split at hs
    · rename_i hk
      cases hs
      exact lv_dup2_11 hC.1 hC.2.1 hd (zabs_cat.trans hk.1) (zabs_cat.trans hk.2.2.1) (kk H locs ls (hO.stk (zvw_cons (zvw_hd hO.2.2.2.1) (zvw_cons (zvw_hd (zvw_tl hO.2.2.2.1)) hO.2.2.2.1))))
    · cases hs
end ZA
