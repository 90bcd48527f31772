/-! LAWS OF THE MINI MACHINE -/
theorem zrun_succ (f d z pc : Nat) (L S : List zV) (θ : zS) (μ : zM) : zrun (f + 1) d z pc L S θ μ = (match ft z pc with
    | none => none
    | some (i, n) => match zret z i S with
      | some v => some (v, θ, μ)
      | none => match zinv i with
        | none => (match zstep z i n pc L S θ μ with
          | none => none
          | some c => zrun f d z c.1 c.2.1 c.2.2.1 c.2.2.2.1 c.2.2.2.2)
        | some (k, fm) => if n = 3 then (match zcall z k fm S θ μ with
          | none => none
          | some (.inr (S', μ')) => zrun f d z (pc + 3) L S' θ μ'
          | some (.inl (y, av, S')) => (match d with
            | 0 => none
            | d' + 1 => (match zrun f d' y 0 (zen (zmx y) av) [] θ μ with
              | none => none
              | some r => zrun f (d' + 1) z (pc + 3) L (r.1.toList ++ S') r.2.1 r.2.2))) else none) := rfl
theorem zrun_mono : ∀ (f : Nat) {f' d d' z pc : Nat} {L S : List zV} {θ : zS} {μ : zM} {r : Option zV × zS × zM}, f ≤ f' → d ≤ d' → zrun f d z pc L S θ μ = some r → zrun f' d' z pc L S θ μ = some r := by
  intro f
  induction f with
  | zero => intro f' d d' z pc L S θ μ r _ _ h; cases h
  | succ f ih =>
    intro f' d d' z pc L S θ μ r hf hd h
    obtain ⟨g, rfl⟩ : ∃ g, f' = g + 1 := ⟨f' - 1, by omega⟩
    have hg : f ≤ g := by omega
    rw [zrun_succ] at h ⊢
    cases hft : ft z pc with
    | none => rw [hft] at h; cases h
    | some q =>
      obtain ⟨i, n⟩ := q
      simp only [hft] at h ⊢
      cases hr : zret z i S with
      | some v => simp only [hr] at h ⊢; exact h
      | none =>
        simp only [hr] at h ⊢
        cases hi : zinv i with
        | none =>
          simp only [hi] at h ⊢
          cases hs : zstep z i n pc L S θ μ with
          | none => simp only [hs] at h; cases h
          | some c => simp only [hs] at h ⊢; exact ih hg hd h
        | some kf =>
          obtain ⟨k, fm⟩ := kf
          simp only [hi] at h ⊢
          by_cases hn : n = 3
          · rw [if_pos hn] at h ⊢
            cases hc : zcall z k fm S θ μ with
            | none => simp only [hc] at h; cases h
            | some q =>
              cases q with
              | inr q => simp only [hc] at h ⊢; exact ih hg hd h
              | inl q =>
                obtain ⟨y, av, S'⟩ := q
                simp only [hc] at h ⊢
                cases d with
                | zero => cases h
                | succ d1 =>
                  obtain ⟨d2, rfl⟩ : ∃ g, d' = g + 1 := ⟨d' - 1, by omega⟩
                  simp only at h ⊢
                  cases hk : zrun f d1 y 0 (zen (zmx y) av) [] θ μ with
                  | none => simp only [hk] at h; cases h
                  | some r1 =>
                    rw [ih hg (Nat.le_of_succ_le_succ hd) hk]
                    simp only [hk] at h ⊢
                    exact ih hg hd h
          · rw [if_neg hn] at h; cases h
theorem Ex.imp {d d' z pc : Nat} {L S : List zV} {θ : zS} {μ : zM} {Q Q' : Option zV → zS → zM → Prop} (h : Ex d z pc L S θ μ Q) (hd : d ≤ d') (hq : ∀ v θ' μ', Q v θ' μ' → Q' v θ' μ') : Ex d' z pc L S θ μ Q' := by
  obtain ⟨f, r, h1, h2⟩ := h
  exact ⟨f, r, zrun_mono f (Nat.le_refl f) hd h1, hq _ _ _ h2⟩
theorem Ex_step {d z pc n : Nat} {i : Instr} {L S : List zV} {θ : zS} {μ : zM} {Q : Option zV → zS → zM → Prop} (h : ft z pc = some (i, n)) (hr : zret z i S = none) (hi : zinv i = none) :
    Ex d z pc L S θ μ Q = (match zstep z i n pc L S θ μ with
      | none => False
      | some c => Ex d z c.1 c.2.1 c.2.2.1 c.2.2.2.1 c.2.2.2.2 Q) := by
  apply propext
  constructor
  · rintro ⟨f, r, hf, hq⟩
    cases f with
    | zero => cases hf
    | succ f =>
      rw [zrun_succ] at hf
      simp only [h, hr, hi] at hf
      cases hs : zstep z i n pc L S θ μ with
      | none => simp only [hs] at hf; cases hf
      | some c => simp only [hs] at hf ⊢; exact ⟨f, r, hf, hq⟩
  · intro hx
    cases hs : zstep z i n pc L S θ μ with
    | none => simp only [hs] at hx
    | some c =>
      simp only [hs] at hx
      obtain ⟨f, r, hf, hq⟩ := hx
      refine ⟨f + 1, r, ?_, hq⟩
      rw [zrun_succ]
      simp only [h, hr, hi, hs]
      exact hf
theorem Ex_to {d z pc n : Nat} {i : Instr} {L S : List zV} {θ : zS} {μ : zM} {Q : Option zV → zS → zM → Prop} (h : ft z pc = some (i, n)) (hr : zret z i S = none) (hi : zinv i = none)
    {pc' : Nat} {L' S' : List zV} {θ' : zS} {μ' : zM} (hs : zstep z i n pc L S θ μ = some (pc', L', S', θ', μ')) : Ex d z pc L S θ μ Q = Ex d z pc' L' S' θ' μ' Q := by
  rw [Ex_step h hr hi, hs]
theorem Ex_no {d z pc n : Nat} {i : Instr} {L S : List zV} {θ : zS} {μ : zM} {Q : Option zV → zS → zM → Prop} (h : ft z pc = some (i, n)) (hr : zret z i S = none) (hi : zinv i = none)
    (hs : zstep z i n pc L S θ μ = none) : Ex d z pc L S θ μ Q = False := by
  rw [Ex_step h hr hi, hs]
theorem Ex_ret {d z pc n : Nat} {i : Instr} {L S : List zV} {θ : zS} {μ : zM} {Q : Option zV → zS → zM → Prop} {v : Option zV} (h : ft z pc = some (i, n)) (hr : zret z i S = some v) : Ex d z pc L S θ μ Q = Q v θ μ := by
  apply propext
  constructor
  · rintro ⟨f, r, hf, hq⟩
    cases f with
    | zero => cases hf
    | succ f =>
      rw [zrun_succ] at hf
      simp only [h, hr] at hf
      cases hf
      exact hq
  · intro hx
    refine ⟨1, (v, θ, μ), ?_, hx⟩
    rw [zrun_succ]
    simp only [h, hr]
theorem Ex_call {d z pc k fm y : Nat} {i : Instr} {L S av S' : List zV} {θ : zS} {μ : zM} {Q : Option zV → zS → zM → Prop} (h : ft z pc = some (i, 3)) (hr : zret z i S = none) (hi : zinv i = some (k, fm))
    (hc : zcall z k fm S θ μ = some (.inl (y, av, S'))) :
    Ex d z pc L S θ μ Q = (0 < d ∧ Ex (d - 1) y 0 (zen (zmx y) av) [] θ μ (fun v θ' μ' => Ex d z (pc + 3) L (v.toList ++ S') θ' μ' Q)) := by
  apply propext
  constructor
  · rintro ⟨f, r, hf, hq⟩
    cases f with
    | zero => cases hf
    | succ f =>
      rw [zrun_succ] at hf
      simp only [h, hr, hi, hc, if_true] at hf
      cases d with
      | zero => cases hf
      | succ d1 =>
        simp only at hf
        cases hk : zrun f d1 y 0 (zen (zmx y) av) [] θ μ with
        | none => simp only [hk] at hf; cases hf
        | some r1 =>
          simp only [hk] at hf
          exact ⟨Nat.succ_pos _, f, r1, hk, f, r, hf, hq⟩
  · rintro ⟨hd, f1, r1, h1, f2, r, h2, hq⟩
    obtain ⟨d1, rfl⟩ : ∃ g, d = g + 1 := ⟨d - 1, by omega⟩
    refine ⟨f1 + f2 + 1, r, ?_, hq⟩
    rw [zrun_succ]
    simp only [h, hr, hi, hc, if_true]
    have h1' := zrun_mono f1 (f' := f1 + f2) (by omega) (Nat.le_refl _) h1
    simp only [Nat.add_sub_cancel] at h1'
    rw [h1']
    exact zrun_mono f2 (f' := f1 + f2) (by omega) (Nat.le_refl _) h2
theorem Ex_prim {d z pc k fm : Nat} {i : Instr} {L S S' : List zV} {θ : zS} {μ μ' : zM} {Q : Option zV → zS → zM → Prop} (h : ft z pc = some (i, 3)) (hr : zret z i S = none) (hi : zinv i = some (k, fm))
    (hc : zcall z k fm S θ μ = some (.inr (S', μ'))) : Ex d z pc L S θ μ Q = Ex d z (pc + 3) L S' θ μ' Q := by
  apply propext
  constructor
  · rintro ⟨f, r, hf, hq⟩
    cases f with
    | zero => cases hf
    | succ f =>
      rw [zrun_succ] at hf
      simp only [h, hr, hi, hc, if_true] at hf
      exact ⟨f, r, hf, hq⟩
  · rintro ⟨f, r, hf, hq⟩
    refine ⟨f + 1, r, ?_, hq⟩
    rw [zrun_succ]
    simp only [h, hr, hi, hc, if_true]
    exact hf
theorem Ex_cno {d z pc k fm : Nat} {i : Instr} {L S : List zV} {θ : zS} {μ : zM} {Q : Option zV → zS → zM → Prop} (h : ft z pc = some (i, 3)) (hr : zret z i S = none) (hi : zinv i = some (k, fm))
    (hc : zcall z k fm S θ μ = none) : Ex d z pc L S θ μ Q = False := by
  apply propext
  refine ⟨?_, fun h => h.elim⟩
  rintro ⟨f, r, hf, hq⟩
  cases f with
  | zero => cases hf
  | succ f =>
    rw [zrun_succ] at hf
    simp only [h, hr, hi, hc, if_true] at hf
    cases hf
def zI : zV → Bool
  | .inl _ => true
  | _ => false
def zJ : zV → Bool
  | .inr (.inl _) => true
  | _ => false
def zR : zV → Bool
  | .inr (.inr (some _)) => true
  | _ => false
section XR
variable {z pc n : Nat} (d : Nat) (L S : List zV) (θ : zS) (μ : zM) (Q : Option zV → zS → zM → Prop)
theorem X_iload_n {k : Fin 4} (h : ft z pc = some (.iload_n k, n)) : Ex d z pc L S θ μ Q = (zI (zg L k) = true ∧ Ex d z (pc + n) L (zg L k :: S) θ μ Q) := by
  rw [Ex_step h rfl rfl]
  unfold zstep
  cases hg : zg L k with
  | inl x => simp [hg, zI]
  | inr x => simp [hg, zI]
theorem X_iload {k : Nat} (h : ft z pc = some (.iload k, n)) : Ex d z pc L S θ μ Q = (zI (zg L k) = true ∧ Ex d z (pc + n) L (zg L k :: S) θ μ Q) := by
  rw [Ex_step h rfl rfl]
  unfold zstep
  cases hg : zg L k with
  | inl x => simp [hg, zI]
  | inr x => simp [hg, zI]
theorem X_lload_n {k : Fin 4} (h : ft z pc = some (.lload_n k, n)) : Ex d z pc L S θ μ Q = (zJ (zg L k) = true ∧ Ex d z (pc + n) L (zg L k :: S) θ μ Q) := by
  rw [Ex_step h rfl rfl]
  unfold zstep
  rcases hg : zg L k with x | x | x <;> simp [hg, zJ]
theorem X_lload {k : Nat} (h : ft z pc = some (.lload k, n)) : Ex d z pc L S θ μ Q = (zJ (zg L k) = true ∧ Ex d z (pc + n) L (zg L k :: S) θ μ Q) := by
  rw [Ex_step h rfl rfl]
  unfold zstep
  rcases hg : zg L k with x | x | x <;> simp [hg, zJ]
theorem X_aload_n {k : Fin 4} (h : ft z pc = some (.aload_n k, n)) : Ex d z pc L S θ μ Q = (zR (zg L k) = true ∧ Ex d z (pc + n) L (zg L k :: S) θ μ Q) := by
  rw [Ex_step h rfl rfl]
  unfold zstep
  rcases hg : zg L k with x | x | _ | x <;> simp [hg, zR]
theorem X_aload {k : Nat} (h : ft z pc = some (.aload k, n)) : Ex d z pc L S θ μ Q = (zR (zg L k) = true ∧ Ex d z (pc + n) L (zg L k :: S) θ μ Q) := by
  rw [Ex_step h rfl rfl]
  unfold zstep
  rcases hg : zg L k with x | x | _ | x <;> simp [hg, zR]
theorem X_istore_n {k : Fin 4} {x : Int} (h : ft z pc = some (.istore_n k, n)) : Ex d z pc L (vi x :: S) θ μ Q = ((k : Nat) < L.length ∧ Ex d z (pc + n) (zst L k (vi x)) S θ μ Q) := by
  rw [Ex_step h rfl rfl]
  by_cases hk : (k : Nat) < L.length <;> simp [zstep, hk]
theorem X_istore {k : Nat} {x : Int} (h : ft z pc = some (.istore k, n)) : Ex d z pc L (vi x :: S) θ μ Q = (k < L.length ∧ Ex d z (pc + n) (zst L k (vi x)) S θ μ Q) := by
  rw [Ex_step h rfl rfl]
  by_cases hk : (k : Nat) < L.length <;> simp [zstep, hk]
theorem X_lstore_n {k : Fin 4} {x : Int} (h : ft z pc = some (.lstore_n k, n)) : Ex d z pc L (vl x :: S) θ μ Q = ((k : Nat) + 1 < L.length ∧ Ex d z (pc + n) (zst (zraw L (k + 1) vU) k (vl x)) S θ μ Q) := by
  rw [Ex_step h rfl rfl]
  by_cases hk : (k : Nat) + 1 < L.length <;> simp [zstep, hk]
theorem X_lstore {k : Nat} {x : Int} (h : ft z pc = some (.lstore k, n)) : Ex d z pc L (vl x :: S) θ μ Q = (k + 1 < L.length ∧ Ex d z (pc + n) (zst (zraw L (k + 1) vU) k (vl x)) S θ μ Q) := by
  rw [Ex_step h rfl rfl]
  by_cases hk : (k : Nat) + 1 < L.length <;> simp [zstep, hk]
theorem X_astore_n {k : Fin 4} {r : Option Nat} (h : ft z pc = some (.astore_n k, n)) : Ex d z pc L (vo r :: S) θ μ Q = ((k : Nat) < L.length ∧ Ex d z (pc + n) (zst L k (vo r)) S θ μ Q) := by
  rw [Ex_step h rfl rfl]
  by_cases hk : (k : Nat) < L.length <;> simp [zstep, hk]
theorem X_astore {k : Nat} {r : Option Nat} (h : ft z pc = some (.astore k, n)) : Ex d z pc L (vo r :: S) θ μ Q = (k < L.length ∧ Ex d z (pc + n) (zst L k (vo r)) S θ μ Q) := by
  rw [Ex_step h rfl rfl]
  by_cases hk : (k : Nat) < L.length <;> simp [zstep, hk]
/-- an int's own number (0 where it is none) -/
def zn : zV → Int
  | .inl x => x
  | _ => 0
theorem X_iinc {k : Nat} {c : Int} (h : ft z pc = some (.iinc k c, 3)) : Ex d z pc L S θ μ Q = (zI (zg L k) = true ∧ k < L.length ∧ Ex d z (pc + 3) (zst L k (vi (w32 (zn (zg L k) + c)))) S θ μ Q) := by
  rw [Ex_step h rfl rfl]
  unfold zstep
  cases hg : zg L k with
  | inl x => by_cases hk : k < L.length <;> simp [hg, zI, zn, hk]
  | inr x => simp [hg, zI]
theorem X_iconst {c v : Int} (h : ft z pc = some (.iconst c, n)) (hv : w32 c = v) : Ex d z pc L S θ μ Q = Ex d z (pc + n) L (vi v :: S) θ μ Q := by
  subst hv; exact Ex_to h rfl rfl rfl
theorem X_bipush {c v : Int} (h : ft z pc = some (.bipush c, n)) (hv : w8 c = v) : Ex d z pc L S θ μ Q = Ex d z (pc + n) L (vi v :: S) θ μ Q := by
  subst hv; exact Ex_to h rfl rfl rfl
theorem X_sipush {c v : Int} (h : ft z pc = some (.sipush c, n)) (hv : w16 c = v) : Ex d z pc L S θ μ Q = Ex d z (pc + n) L (vi v :: S) θ μ Q := by
  subst hv; exact Ex_to h rfl rfl rfl
theorem X_lconst {c : Fin 2} {v : Int} (h : ft z pc = some (.lconst c, n)) (hv : ((c : Nat) : Int) = v) : Ex d z pc L S θ μ Q = Ex d z (pc + n) L (vl v :: S) θ μ Q := by
  subst hv; exact Ex_to h rfl rfl rfl
theorem X_ldcS {k : Nat} (h : ft z pc = some (.ldc k, n)) (hz : zcz z = 7 ∧ k = 29) : Ex d z pc L S θ μ Q = Ex d z (pc + n) L (vr 0 :: S) θ μ Q :=
  Ex_to (S := S) h rfl rfl (by simp only [zstep]; rw [if_pos hz])
theorem X_ldc {k : Nat} {v : Int} (h : ft z pc = some (.ldc k, n)) (hz : ¬ (zcz z = 7 ∧ k = 29)) (hv : zci (zcz z) k = some v) : Ex d z pc L S θ μ Q = Ex d z (pc + n) L (vi v :: S) θ μ Q :=
  Ex_to (S := S) h rfl rfl (by simp only [zstep]; rw [if_neg hz, hv])
theorem X_ldc_w {k : Nat} {v : Int} (h : ft z pc = some (.ldc_w k, n)) (hv : zci (zcz z) k = some v) : Ex d z pc L S θ μ Q = Ex d z (pc + n) L (vi v :: S) θ μ Q :=
  Ex_to (S := S) h rfl rfl (by simp only [zstep]; rw [hv])
theorem X_ldc2_w {k : Nat} {v : Int} (h : ft z pc = some (.ldc2_w k, n)) (hv : zcg (zcz z) k = some v) : Ex d z pc L S θ μ Q = Ex d z (pc + n) L (vl v :: S) θ μ Q :=
  Ex_to (S := S) h rfl rfl (by simp only [zstep]; rw [hv])
variable {x y : Int}
theorem X_iadd (h : ft z pc = some (.iadd, n)) : Ex d z pc L (vi y :: vi x :: S) θ μ Q = Ex d z (pc + n) L (vi (w32 (x + y)) :: S) θ μ Q := Ex_to h rfl rfl rfl
theorem X_isub (h : ft z pc = some (.isub, n)) : Ex d z pc L (vi y :: vi x :: S) θ μ Q = Ex d z (pc + n) L (vi (w32 (x - y)) :: S) θ μ Q := Ex_to h rfl rfl rfl
theorem X_imul (h : ft z pc = some (.imul, n)) : Ex d z pc L (vi y :: vi x :: S) θ μ Q = Ex d z (pc + n) L (vi (w32 (x * y)) :: S) θ μ Q := Ex_to h rfl rfl rfl
theorem X_iand (h : ft z pc = some (.iand, n)) : Ex d z pc L (vi y :: vi x :: S) θ μ Q = Ex d z (pc + n) L (vi (zand x y) :: S) θ μ Q := Ex_to h rfl rfl rfl
theorem X_ior (h : ft z pc = some (.ior, n)) : Ex d z pc L (vi y :: vi x :: S) θ μ Q = Ex d z (pc + n) L (vi (zor x y) :: S) θ μ Q := Ex_to h rfl rfl rfl
theorem X_ixor (h : ft z pc = some (.ixor, n)) : Ex d z pc L (vi y :: vi x :: S) θ μ Q = Ex d z (pc + n) L (vi (zxor x y) :: S) θ μ Q := Ex_to h rfl rfl rfl
theorem X_ishl (h : ft z pc = some (.ishl, n)) : Ex d z pc L (vi y :: vi x :: S) θ μ Q = Ex d z (pc + n) L (vi (zshl x y) :: S) θ μ Q := Ex_to h rfl rfl rfl
theorem X_ishr (h : ft z pc = some (.ishr, n)) : Ex d z pc L (vi y :: vi x :: S) θ μ Q = Ex d z (pc + n) L (vi (zshr x y) :: S) θ μ Q := Ex_to h rfl rfl rfl
theorem X_iushr (h : ft z pc = some (.iushr, n)) : Ex d z pc L (vi y :: vi x :: S) θ μ Q = Ex d z (pc + n) L (vi (zush x y) :: S) θ μ Q := Ex_to h rfl rfl rfl
theorem X_i2l (h : ft z pc = some (.i2l, n)) : Ex d z pc L (vi x :: S) θ μ Q = Ex d z (pc + n) L (vl x :: S) θ μ Q := Ex_to h rfl rfl rfl
theorem X_i2b (h : ft z pc = some (.i2b, n)) : Ex d z pc L (vi x :: S) θ μ Q = Ex d z (pc + n) L (vi (w8 x) :: S) θ μ Q := Ex_to h rfl rfl rfl
theorem X_l2i (h : ft z pc = some (.l2i, n)) : Ex d z pc L (vl x :: S) θ μ Q = Ex d z (pc + n) L (vi (w32 x) :: S) θ μ Q := Ex_to h rfl rfl rfl
theorem X_ladd (h : ft z pc = some (.ladd, n)) : Ex d z pc L (vl y :: vl x :: S) θ μ Q = Ex d z (pc + n) L (vl (w64 (x + y)) :: S) θ μ Q := Ex_to h rfl rfl rfl
theorem X_lsub (h : ft z pc = some (.lsub, n)) : Ex d z pc L (vl y :: vl x :: S) θ μ Q = Ex d z (pc + n) L (vl (w64 (x - y)) :: S) θ μ Q := Ex_to h rfl rfl rfl
theorem X_lmul (h : ft z pc = some (.lmul, n)) : Ex d z pc L (vl y :: vl x :: S) θ μ Q = Ex d z (pc + n) L (vl (w64 (x * y)) :: S) θ μ Q := Ex_to h rfl rfl rfl
theorem X_lcmp (h : ft z pc = some (.lcmp, n)) : Ex d z pc L (vl y :: vl x :: S) θ μ Q = Ex d z (pc + n) L (vi (zlcmp x y) :: S) θ μ Q := Ex_to h rfl rfl rfl
theorem X_idiv (h : ft z pc = some (.idiv, n)) : Ex d z pc L (vi y :: vi x :: S) θ μ Q = (¬ y = 0 ∧ Ex d z (pc + n) L (vi (w32 (x.tdiv y)) :: S) θ μ Q) := by
  rw [Ex_step h rfl rfl]
  by_cases hy : y = 0 <;> simp [zstep, hy]
theorem X_irem (h : ft z pc = some (.irem, n)) : Ex d z pc L (vi y :: vi x :: S) θ μ Q = (¬ y = 0 ∧ Ex d z (pc + n) L (vi (x.tmod y) :: S) θ μ Q) := by
  rw [Ex_step h rfl rfl]
  by_cases hy : y = 0 <;> simp [zstep, hy]
theorem X_ldiv (h : ft z pc = some (.ldiv, n)) : Ex d z pc L (vl y :: vl x :: S) θ μ Q = (¬ y = 0 ∧ Ex d z (pc + n) L (vl (w64 (x.tdiv y)) :: S) θ μ Q) := by
  rw [Ex_step h rfl rfl]
  by_cases hy : y = 0 <;> simp [zstep, hy]
variable {v u : zV}
theorem X_dup (h : ft z pc = some (.dup, n)) : Ex d z pc L (v :: S) θ μ Q = (zcat v = 1 ∧ zok v = true ∧ Ex d z (pc + n) L (v :: v :: S) θ μ Q) := by
  rw [Ex_step h rfl rfl]
  by_cases h1 : zcat v = 1 <;> by_cases h2 : zok v = true <;> simp [zstep, h1, h2]
theorem X_pop (h : ft z pc = some (.pop, n)) : Ex d z pc L (v :: S) θ μ Q = (zcat v = 1 ∧ zok v = true ∧ Ex d z (pc + n) L S θ μ Q) := by
  rw [Ex_step h rfl rfl]
  by_cases h1 : zcat v = 1 <;> by_cases h2 : zok v = true <;> simp [zstep, h1, h2]
theorem X_dup2 (h : ft z pc = some (.dup2, n)) : Ex d z pc L (v :: u :: S) θ μ Q = (zcat v = 1 ∧ zok v = true ∧ zcat u = 1 ∧ zok u = true ∧ Ex d z (pc + n) L (v :: u :: v :: u :: S) θ μ Q) := by
  rw [Ex_step h rfl rfl]
  by_cases h1 : zcat v = 1 <;> by_cases h2 : zok v = true <;> by_cases h3 : zcat u = 1 <;> by_cases h4 : zok u = true <;> simp [zstep, h1, h2, h3, h4]
variable {k c j a : Nat} {i : Int}
theorem X_geti (h : ft z pc = some (.getfield k, n)) (hf : zfr (zcz z) k = some (c, j)) (hk : zfk c j % 10 = 0 ∨ zfk c j % 10 = 3) : Ex d z pc L (vr a :: S) θ μ Q = (zob θ a c = true ∧ Ex d z (pc + n) L (vi (μ a j) :: S) θ μ Q) := by
  rw [Ex_step h rfl rfl]
  by_cases ho : zob θ a c = true <;> rcases hk with hk | hk <;> simp [zstep, hf, ho, hk]
theorem X_getl (h : ft z pc = some (.getfield k, n)) (hf : zfr (zcz z) k = some (c, j)) (hk : zfk c j % 10 = 1) : Ex d z pc L (vr a :: S) θ μ Q = (zob θ a c = true ∧ Ex d z (pc + n) L (vl (μ a j) :: S) θ μ Q) := by
  rw [Ex_step h rfl rfl]
  by_cases ho : zob θ a c = true <;> simp [zstep, hf, ho, hk]
theorem X_getr (h : ft z pc = some (.getfield k, n)) (hf : zfr (zcz z) k = some (c, j)) (hk : zfk c j % 10 = 2) : Ex d z pc L (vr a :: S) θ μ Q = (zob θ a c = true ∧ Ex d z (pc + n) L (vo (θ.2 a j) :: S) θ μ Q) := by
  rw [Ex_step h rfl rfl]
  by_cases ho : zob θ a c = true <;> simp [zstep, hf, ho, hk]
theorem X_puti (h : ft z pc = some (.putfield k, n)) (hf : zfr (zcz z) k = some (c, j)) (hk : zfk c j % 10 = 0) (hF : zfk c j < 10 ∨ ((zyn z).name = "<init>" ∧ zcz z = c)) : Ex d z pc L (vi x :: vr a :: S) θ μ Q = (zob θ a c = true ∧ 2 ≤ a ∧ Ex d z (pc + n) L S θ (ua μ a j x) Q) := by
  rw [Ex_step h rfl rfl]
  by_cases ho : zob θ a c = true <;> by_cases h2 : 2 ≤ a <;> simp [zstep, hf, ho, hk, hF, h2]
theorem X_putz (h : ft z pc = some (.putfield k, n)) (hf : zfr (zcz z) k = some (c, j)) (hk : zfk c j % 10 = 3) (hF : zfk c j < 10 ∨ ((zyn z).name = "<init>" ∧ zcz z = c)) : Ex d z pc L (vi x :: vr a :: S) θ μ Q = (zob θ a c = true ∧ 2 ≤ a ∧ (x = 0 ∨ x = 1) ∧ Ex d z (pc + n) L S θ (ua μ a j x) Q) := by
  rw [Ex_step h rfl rfl]
  by_cases ho : zob θ a c = true <;> by_cases h2 : 2 ≤ a <;> by_cases hx : x = 0 ∨ x = 1 <;> simp [zstep, hf, ho, hk, hF, h2, hx]
theorem X_putl (h : ft z pc = some (.putfield k, n)) (hf : zfr (zcz z) k = some (c, j)) (hk : zfk c j % 10 = 1) (hF : zfk c j < 10 ∨ ((zyn z).name = "<init>" ∧ zcz z = c)) : Ex d z pc L (vl x :: vr a :: S) θ μ Q = (zob θ a c = true ∧ 2 ≤ a ∧ Ex d z (pc + n) L S θ (ua μ a j x) Q) := by
  rw [Ex_step h rfl rfl]
  by_cases ho : zob θ a c = true <;> by_cases h2 : 2 ≤ a <;> simp [zstep, hf, ho, hk, hF, h2]
theorem X_putr {r : Option Nat} (h : ft z pc = some (.putfield k, n)) (hf : zfr (zcz z) k = some (c, j)) (hk : zfk c j % 10 = 2) (hF : zfk c j < 10 ∨ ((zyn z).name = "<init>" ∧ zcz z = c)) : Ex d z pc L (vo r :: vr a :: S) θ μ Q = (zob θ a c = true ∧ 2 ≤ a ∧ Ex d z (pc + n) L S (θ.1, ur θ.2 a j r) μ Q) := by
  rw [Ex_step h rfl rfl]
  by_cases ho : zob θ a c = true <;> by_cases h2 : 2 ≤ a <;> simp [zstep, hf, ho, hk, hF, h2]
theorem X_iaload (h : ft z pc = some (.iaload, n)) : Ex d z pc L (vi i :: vr a :: S) θ μ Q = (zix θ .int a i = true ∧ Ex d z (pc + n) L (vi (μ a i.toNat) :: S) θ μ Q) := by
  rw [Ex_step h rfl rfl]
  by_cases ho : zix θ .int a i = true <;> simp [zstep, ho]
theorem X_baload (h : ft z pc = some (.baload, n)) : Ex d z pc L (vi i :: vr a :: S) θ μ Q = ((zix θ .byte a i = true ∨ zix θ .boolean a i = true) ∧ 2 ≤ a ∧ Ex d z (pc + n) L (vi (μ a i.toNat) :: S) θ μ Q) := by
  rw [Ex_step h rfl rfl]
  by_cases ho : (zix θ .byte a i = true ∨ zix θ .boolean a i = true) <;> by_cases h2 : 2 ≤ a <;> simp [zstep, ho, h2]
theorem X_laload (h : ft z pc = some (.laload, n)) : Ex d z pc L (vi i :: vr a :: S) θ μ Q = (zix θ .long a i = true ∧ 2 ≤ a ∧ Ex d z (pc + n) L (vl (μ a i.toNat) :: S) θ μ Q) := by
  rw [Ex_step h rfl rfl]
  by_cases ho : zix θ .long a i = true <;> by_cases h2 : 2 ≤ a <;> simp [zstep, ho, h2]
theorem X_aaload (h : ft z pc = some (.aaload, n)) : Ex d z pc L (vi i :: vr a :: S) θ μ Q = ((zix θ (.array .int) a i = true ∨ zix θ (.object "GaleRoof$Scene") a i = true) ∧ 2 ≤ a ∧ Ex d z (pc + n) L (vo (θ.2 a i.toNat) :: S) θ μ Q) := by
  rw [Ex_step h rfl rfl]
  by_cases ho : (zix θ (.array .int) a i = true ∨ zix θ (.object "GaleRoof$Scene") a i = true) <;> by_cases h2 : 2 ≤ a <;> simp [zstep, ho, h2]
theorem X_iastore (h : ft z pc = some (.iastore, n)) : Ex d z pc L (vi x :: vi i :: vr a :: S) θ μ Q = (zix θ .int a i = true ∧ 2 ≤ a ∧ Ex d z (pc + n) L S θ (ua μ a i.toNat x) Q) := by
  rw [Ex_step h rfl rfl]
  by_cases ho : zix θ .int a i = true <;> by_cases h2 : 2 ≤ a <;> simp [zstep, ho, h2]
theorem X_bastore (h : ft z pc = some (.bastore, n)) : Ex d z pc L (vi x :: vi i :: vr a :: S) θ μ Q = (if zix θ .byte a i = true then 2 ≤ a ∧ Ex d z (pc + n) L S θ (ua μ a i.toNat (w8 x)) Q else zix θ .boolean a i = true ∧ 2 ≤ a ∧ (x = 0 ∨ x = 1) ∧ Ex d z (pc + n) L S θ (ua μ a i.toNat x) Q) := by
  have hno : zix θ .byte a i = true → ¬ zix θ .boolean a i = true := by
    intro p q
    unfold zix at p q
    split at p
    · rename_i u m hu
      rw [hu] at q
      simp only [Bool.and_eq_true, beq_iff_eq] at p q
      rw [p.1] at q
      cases q.1
    · cases p
  rw [Ex_step h rfl rfl]
  by_cases ho : zix θ .byte a i = true
  · have hb := hno ho
    by_cases h2 : 2 ≤ a <;> simp [zstep, ho, h2, hb]
  · by_cases hb : zix θ .boolean a i = true <;> by_cases h2 : 2 ≤ a <;> by_cases hx : x = 0 ∨ x = 1 <;> simp [zstep, ho, h2, hb, hx]
theorem X_lastore (h : ft z pc = some (.lastore, n)) : Ex d z pc L (vl x :: vi i :: vr a :: S) θ μ Q = (zix θ .long a i = true ∧ 2 ≤ a ∧ Ex d z (pc + n) L S θ (ua μ a i.toNat x) Q) := by
  rw [Ex_step h rfl rfl]
  by_cases ho : zix θ .long a i = true <;> by_cases h2 : 2 ≤ a <;> simp [zstep, ho, h2]
theorem X_aastore {b : Nat} (h : ft z pc = some (.aastore, n)) : Ex d z pc L (vr b :: vi i :: vr a :: S) θ μ Q = ((zix θ (.object "GaleRoof$Scene") a i = true ∧ 2 ≤ a ∧ 2 ≤ b ∧ zob θ b 6 = true) ∧ Ex d z (pc + n) L S (θ.1, ur θ.2 a i.toNat (some b)) μ Q) := by
  rw [Ex_step h rfl rfl]
  by_cases ho : (zix θ (.object "GaleRoof$Scene") a i = true ∧ 2 ≤ a ∧ 2 ≤ b ∧ zob θ b 6 = true) <;> simp [zstep, ho]
theorem X_alen {m : Nat} (h : ft z pc = some (.arraylength, n)) (ha : θ.1[a]? = some (.inr (.int, m))) : Ex d z pc L (vr a :: S) θ μ Q = Ex d z (pc + n) L (vi m :: S) θ μ Q :=
  Ex_to (S := vr a :: S) h rfl rfl (by simp [zstep, ha])
theorem X_new (h : ft z pc = some (.new k, n)) (hk : znw (zcz z) k = some c) : Ex d z pc L S θ μ Q = Ex d z (pc + n) L (vr θ.1.length :: S) (θ.1 ++ [.inl c], zr0 θ.2 θ.1.length) (zm0 μ θ.1.length) Q :=
  Ex_to (S := S) h rfl rfl (by simp [zstep, hk])
theorem X_newarray {t : ArrayType} {ty : FieldType} (h : ft z pc = some (.newarray t, n)) (ht : zty t = some ty) : Ex d z pc L (vi x :: S) θ μ Q = ((0 ≤ x ∧ x ≤ 4096) ∧ Ex d z (pc + n) L (vr θ.1.length :: S) (θ.1 ++ [.inr (ty, x.toNat)], zr0 θ.2 θ.1.length) (zm0 μ θ.1.length) Q) := by
  rw [Ex_step h rfl rfl]
  by_cases ho : 0 ≤ x ∧ x ≤ 4096
  · simp only [zstep, ht]; rw [if_pos ho]; simp [ho]
  · simp only [zstep, ht]; rw [if_neg ho]; simp only [ho, false_and]
theorem X_anew (h : ft z pc = some (.anewarray k, n)) (hk : zcz z = 11 ∧ k = 21) : Ex d z pc L (vi x :: S) θ μ Q = ((0 ≤ x ∧ x ≤ 4096) ∧ Ex d z (pc + n) L (vr θ.1.length :: S) (θ.1 ++ [.inr (.object "GaleRoof$Scene", x.toNat)], zr0 θ.2 θ.1.length) (zm0 μ θ.1.length) Q) := by
  rw [Ex_step h rfl rfl]
  by_cases ho : 0 ≤ x ∧ x ≤ 4096
  · simp only [zstep]; rw [if_pos ⟨hk.1, hk.2, ho.1, ho.2⟩]; simp [ho]
  · simp only [zstep]; rw [if_neg (fun q => ho ⟨q.2.2.1, q.2.2.2⟩)]; simp only [ho, false_and]
theorem X_goto {off : Int} {tgt : Nat} (h : ft z pc = some (.goto off, n)) (h0 : 0 ≤ (pc : Int) + off) (ht : zjmp pc off = tgt) : Ex d z pc L S θ μ Q = Ex d z tgt L S θ μ Q := by
  subst ht
  exact Ex_to (S := S) h rfl rfl (by simp only [zstep]; rw [if_pos h0])
theorem X_if {cd : ClassFile.Cond} {off : Int} {tgt : Nat} (h : ft z pc = some (.ifCond cd off, n)) (h0 : 0 ≤ (pc : Int) + off) (ht : zjmp pc off = tgt) : Ex d z pc L (vi x :: S) θ μ Q = (if zcond cd x 0 = true then Ex d z tgt L S θ μ Q else Ex d z (pc + n) L S θ μ Q) := by
  subst ht
  rw [Ex_step h rfl rfl]
  by_cases hc : zcond cd x 0 = true
  · simp only [zstep]; rw [if_pos h0, if_pos hc, if_pos hc]
  · simp only [zstep]; rw [if_pos h0, if_neg hc, if_neg hc]
theorem X_icmp {cd : ClassFile.Cond} {off : Int} {tgt : Nat} (h : ft z pc = some (.if_icmp cd off, n)) (h0 : 0 ≤ (pc : Int) + off) (ht : zjmp pc off = tgt) : Ex d z pc L (vi y :: vi x :: S) θ μ Q = (if zcond cd x y = true then Ex d z tgt L S θ μ Q else Ex d z (pc + n) L S θ μ Q) := by
  subst ht
  rw [Ex_step h rfl rfl]
  by_cases hc : zcond cd x y = true
  · simp only [zstep]; rw [if_pos h0, if_pos hc, if_pos hc]
  · simp only [zstep]; rw [if_pos h0, if_neg hc, if_neg hc]
theorem X_tsout {dflt lo hi : Int} {offs : Array Int} {tgt : Nat} (h : ft z pc = some (.tableswitch dflt lo hi offs, n)) (hx : x < lo ∨ hi < x) (h0 : 0 ≤ (pc : Int) + dflt) (ht : zjmp pc dflt = tgt) : Ex d z pc L (vi x :: S) θ μ Q = Ex d z tgt L S θ μ Q := by
  subst ht
  exact Ex_to (S := vi x :: S) h rfl rfl (by simp only [zstep]; rw [if_pos hx, if_pos h0])
theorem X_tsin {dflt lo hi off : Int} {offs : Array Int} {tgt : Nat} (h : ft z pc = some (.tableswitch dflt lo hi offs, n)) (hx : ¬ (x < lo ∨ hi < x)) (ho : offs[(x - lo).toNat]? = some off) (h0 : 0 ≤ (pc : Int) + off) (ht : zjmp pc off = tgt) : Ex d z pc L (vi x :: S) θ μ Q = Ex d z tgt L S θ μ Q := by
  subst ht
  exact Ex_to (S := vi x :: S) h rfl rfl (by simp only [zstep]; rw [if_neg hx]; simp only [ho]; rw [if_pos h0])
theorem X_ireti (h : ft z pc = some (.ireturn, n)) (hr : zrt z = some .int) : Ex d z pc L [vi x] θ μ Q = Q (some (vi x)) θ μ :=
  Ex_ret (S := [vi x]) h (by simp [zret, hr])
theorem X_iretz (h : ft z pc = some (.ireturn, n)) (hr : zrt z = some .boolean) : Ex d z pc L [vi x] θ μ Q = ((x = 0 ∨ x = 1) ∧ Q (some (vi x)) θ μ) := by
  by_cases hx : x = 0 ∨ x = 1
  · rw [Ex_ret (S := [vi x]) (v := some (vi x)) h (by simp [zret, hr, hx])]; simp only [hx, true_and]
  · rw [Ex_step (S := [vi x]) h (by simp [zret, hr, hx]) rfl]; simp only [zstep, hx, false_and]
theorem X_lret (h : ft z pc = some (.lreturn, n)) (hr : zrt z = some .long) : Ex d z pc L [vl x] θ μ Q = Q (some (vl x)) θ μ :=
  Ex_ret (S := [vl x]) h (by simp [zret, hr])
theorem X_vret (h : ft z pc = some (.return_, n)) (hr : zrt z = none) : Ex d z pc L [] θ μ Q = Q none θ μ :=
  Ex_ret (S := []) h (by simp [zret, hr])
end XR
