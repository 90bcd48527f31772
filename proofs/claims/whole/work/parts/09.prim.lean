/-! A RUN OF THE MINI MACHINE IS A RUN OF THE MACHINE -/
def zalc (i : Instr) : Bool := match i with
  | .new _ => true
  | .newarray _ => true
  | .anewarray _ => true
  | .multianewarray _ _ => true
  | _ => false
set_option maxHeartbeats 4000000 in
theorem zstep_sh {z n pc pc' : Nat} {i : Instr} {L S L' S' : List zV} {θ θ' : zS} {μ μ' : zM} (hi : zalc i = false) (hs : zstep z i n pc L S θ μ = some (pc', L', S', θ', μ')) : θ'.1 = θ.1 := by
  unfold zstep at hs
  split at hs
  all_goals (repeat' (split at hs))
  all_goals first | (cases hs; done) | (cases hs; rfl) | (cases hi; done)
set_option maxHeartbeats 4000000 in
theorem zstep_pre {z n pc pc' : Nat} {i : Instr} {L S L' S' : List zV} {θ θ' : zS} {μ μ' : zM} (hs : zstep z i n pc L S θ μ = some (pc', L', S', θ', μ')) : ∃ k, θ'.1 = θ.1 ++ k := by
  unfold zstep at hs
  split at hs
  all_goals (repeat' (split at hs))
  all_goals first | (cases hs; done) | (cases hs; exact ⟨[], (List.append_nil _).symm⟩) | (cases hs; exact ⟨_, rfl⟩)
set_option maxHeartbeats 4000000 in
theorem zstep_len {z n pc pc' : Nat} {i : Instr} {L S L' S' : List zV} {θ θ' : zS} {μ μ' : zM} (hs : zstep z i n pc L S θ μ = some (pc', L', S', θ', μ')) : L'.length = L.length := by
  unfold zstep at hs
  split at hs
  all_goals (repeat' (split at hs))
  all_goals first | (cases hs; done) | (cases hs; rfl) | (cases hs; exact zst_len _ _ _) | (cases hs; rw [zst_len, zraw_len])
theorem zrun_pre : ∀ (f : Nat) {d z pc : Nat} {L S : List zV} {θ : zS} {μ : zM} {r : Option zV × zS × zM}, zrun f d z pc L S θ μ = some r → ∃ k, r.2.1.1 = θ.1 ++ k := by
  intro f
  induction f with
  | zero => intro d z pc L S θ μ r h; cases h
  | succ f ih =>
    intro d z pc L S θ μ r h
    rw [zrun_succ] at h
    cases hft : ft z pc with
    | none => simp only [hft] at h; cases h
    | some q =>
      obtain ⟨i, n⟩ := q
      simp only [hft] at h
      cases hr : zret z i S with
      | some v => simp only [hr] at h; cases h; exact ⟨[], (List.append_nil _).symm⟩
      | none =>
        simp only [hr] at h
        cases hi : zinv i with
        | none =>
          simp only [hi] at h
          cases hs : zstep z i n pc L S θ μ with
          | none => simp only [hs] at h; cases h
          | some c =>
            simp only [hs] at h
            obtain ⟨c1, c2, c3, c4, c5⟩ := c
            obtain ⟨k1, h1⟩ := zstep_pre hs
            obtain ⟨k2, h2⟩ := ih h
            exact ⟨k1 ++ k2, by rw [h2]; show c4.1 ++ k2 = _; rw [h1, List.append_assoc]⟩
        | some kf =>
          obtain ⟨k, fm⟩ := kf
          simp only [hi] at h
          by_cases hn : n = 3
          · rw [if_pos hn] at h
            cases hc : zcall z k fm S θ μ with
            | none => simp only [hc] at h; cases h
            | some q =>
              cases q with
              | inr q => simp only [hc] at h; exact ih h
              | inl q =>
                obtain ⟨y, av, S'⟩ := q
                simp only [hc] at h
                cases d with
                | zero => cases h
                | succ d1 =>
                  simp only at h
                  cases hk : zrun f d1 y 0 (zen (zmx y) av) [] θ μ with
                  | none => simp only [hk] at h; cases h
                  | some r1 =>
                    simp only [hk] at h
                    obtain ⟨k1, h1⟩ := ih hk
                    obtain ⟨k2, h2⟩ := ih h
                    exact ⟨k1 ++ k2, by rw [h2, h1, List.append_assoc]⟩
          · rw [if_neg hn] at h; cases h
theorem zpre_le {θ θ' : zS} (h : ∃ k, θ'.1 = θ.1 ++ k) : θ.1.length ≤ θ'.1.length ∧ zSl θ ≤ zSl θ' := by
  obtain ⟨k, h⟩ := h
  unfold zSl
  rw [h]
  simp [List.map_append, List.sum_append]
theorem zEnv.ad {D : va_G} {ca : FieldType → ClassId} {z0 Lx : Nat} {xs : Nat → Int32} {ad ad' : Nat → Nat} {s : State} (h : zEnv D ca z0 Lx xs ad s) (h0 : ad' 0 = ad 0) (h1 : ad' 1 = ad 1) : zEnv D ca z0 Lx xs ad' s := by
  unfold zEnv at *
  rw [h0, h1]
  exact h
theorem zEnv.to {D : va_G} {ca : FieldType → ClassId} {z0 Lx : Nat} {xs : Nat → Int32} {ad : Nat → Nat} {s U : State} {H : Heap} {locs : List Loc} (h : zEnv D ca z0 Lx xs ad s) (hS : va_S (fun q => z0 ≤ q) s.heap H locs) (hU : U.heap = H) (hW : s.WarmedH U.vm) : zEnv D ca z0 Lx xs ad U := by
  obtain ⟨h1, h2, h3, h4, h5, h6, aV, h7⟩ := h
  have hk : ∀ a : Nat, a < s.heap.size → ¬ z0 ≤ a → U.heap[a]? = s.heap[a]? := fun a q1 q2 => by rw [hU]; exact hS.2.1 a q1 q2
  exact ⟨h1.moved hW.alike, h2.warm hW, by rw [hU]; exact Nat.le_trans h3 hS.1, (h4.moved hW.alike).kept (hk _ (by omega) (by omega)), h5, h6.warm hW, aV, h7.to hW.alike hk⟩
theorem zNst.same {u U : State} (h : u.vm = U.vm) (hZ : zNst u) : zNst U := by
  refine ⟨fun w hw => ?_, ?_, ?_⟩
  · have h1 := hZ.1 w hw
    have h2 := (List.mem_filter.mp hw).2
    cases w <;> first | (cases h2; done) | exact va_Nw.same rfl h h1
  · exact va_AO.moved (by rw [h]; exact Vm.Alike.refl _) hZ.2.1
  · rw [← arrOver_vm h]; exact hZ.2.2
theorem zEnv.same {D : va_G} {ca : FieldType → ClassId} {z0 Lx : Nat} {xs : Nat → Int32} {ad : Nat → Nat} {u U : State} (h : zEnv D ca z0 Lx xs ad u) (hv : u.vm = U.vm) (hh : U.heap = u.heap) : zEnv D ca z0 Lx xs ad U := by
  obtain ⟨h1, h2, h3, h4, h5, h6, aV, h7⟩ := h
  have ha : u.vm.Alike U.vm := by rw [hv]; exact Vm.Alike.refl _
  exact ⟨h1.moved ha, h2.same hv, by rw [hh]; exact h3, by rw [hh]; exact h4.moved ha, h5, h6.same hv.symm, aV, h7.to ha (fun _ _ _ => by rw [hh])⟩
/-- arguments -/
theorem lgsl_len {ad : Nat → Nat} : ∀ av : List zV, (lg_sl (av.map (zabs ad))).length = (zla av).length
  | [] => rfl
  | v :: r => by
    have ih := lgsl_len (ad := ad) r
    unfold lg_sl at ih ⊢
    rw [List.map_cons, List.flatMap_cons, List.length_append, ih, zabs_cat]
    rcases v with x | x | x
    · show ([_] : List Slot).length + _ = _ ; simp [zla, zcat]; omega
    · simp [zla, zcat]; omega
    · simp [zla, zcat]; omega
theorem args_mem {ad : Nat → Nat} : ∀ (av : List zV) (i k : Nat) (v : zV), (zla av)[k]? = some v → zok v = true → (i + k, zabs ad v) ∈ lv_args i (av.map (zabs ad))
  | [], i, k, v, h, _ => by cases h
  | v0 :: r, i, k, v, h, hv => by
    rw [List.map_cons]
    unfold lv_args
    rw [zabs_cat]
    rcases v0 with x | x | x
    · cases k with
      | zero => cases h; exact List.mem_cons_self
      | succ k =>
        have := args_mem (ad := ad) r (i + 1) k v h hv
        rw [show i + (k + 1) = i + 1 + k by omega]
        exact List.mem_cons_of_mem _ this
    · rcases k with _ | _ | k
      · cases h; exact List.mem_cons_self
      · cases h; cases hv
      · have := args_mem (ad := ad) r (i + 2) k v h hv
        rw [show i + (k + 1 + 1) = i + 2 + k by omega]
        exact List.mem_cons_of_mem _ this
    · cases k with
      | zero => cases h; exact List.mem_cons_self
      | succ k =>
        have := args_mem (ad := ad) r (i + 1) k v h hv
        rw [show i + (k + 1) = i + 1 + k by omega]
        exact List.mem_cons_of_mem _ this
theorem zen_len {n : Nat} {av : List zV} (h : (zla av).length ≤ n) : (zen n av).length = n := by unfold zen; simp; omega
theorem zen_get {n k : Nat} {av : List zV} {v : zV} (h : (zen n av)[k]? = some v) (hv : zok v = true) : (zla av)[k]? = some v := by
  unfold zen at h
  by_cases hk : k < (zla av).length
  · rw [List.getElem?_append_left hk] at h; exact h
  · rw [List.getElem?_append_right (by omega)] at h
    have := List.mem_of_getElem? h
    rw [List.mem_replicate] at this
    rw [this.2] at hv
    cases hv
theorem zen_loc {ad : Nat → Nat} {n : Nat} {av : List zV} {ls : Array Slot} (h : (zla av).length ≤ n) (hl : lv_has ls n (lv_args 0 (av.map (zabs ad)))) : zLoc ad (zen n av) ls := by
  refine ⟨by rw [zen_len h]; exact hl.1, hl.2.1, fun k v hk hv => ?_⟩
  have := args_mem (ad := ad) av 0 k v (zen_get hk hv) hv
  rw [Nat.zero_add] at this
  exact hl.2.2 _ this
theorem zla_vw {N : Nat} : ∀ {av : List zV}, (∀ v ∈ av, zvw N v) → ∀ v ∈ zla av, v = vU ∨ zvw N v
  | [], _, v, hv => by cases hv
  | v0 :: r, h, v, hv => by
    have h0 := zvw_hd h
    have ih := zla_vw (zvw_tl h)
    rcases v0 with x | x | x
    · rcases List.mem_cons.mp (show v ∈ vi x :: zla r from hv) with rfl | hv
      · exact Or.inr h0
      · exact ih v hv
    · rcases List.mem_cons.mp (show v ∈ vl x :: vU :: zla r from hv) with rfl | hv
      · exact Or.inr h0
      · rcases List.mem_cons.mp hv with rfl | hv
        · exact Or.inl rfl
        · exact ih v hv
    · rcases List.mem_cons.mp (show v ∈ (.inr (.inr x) : zV) :: zla r from hv) with rfl | hv
      · exact Or.inr h0
      · exact ih v hv
theorem zen_vw {N n : Nat} {av : List zV} (h : ∀ v ∈ av, zvw N v) : ∀ v ∈ zen n av, v = vU ∨ zvw N v := by
  intro v hv
  unfold zen at hv
  rcases List.mem_append.mp hv with hv | hv
  · exact zla_vw h v hv
  · exact Or.inl (List.mem_replicate.mp hv).2
theorem zcat_sum {ad : Nat → Nat} : ∀ {S : List zV}, ((S.map (zabs ad)).map fun v => v.category).sum ≤ 2 * S.length
  | [] => by simp
  | v :: S => by
    have ih := zcat_sum (ad := ad) (S := S)
    have : zcat v ≤ 2 := by rcases v with x | x | x <;> simp [zcat]
    simp only [List.map_cons, List.sum_cons, List.length_cons, zabs_cat]
    omega
def zRoom (d mc ms : Nat) : Room := { frames := d + 8, cells := mc, slots := ms, locals := 32 * d + 256 }
section ZR
variable {p : Program} {l : Launch} {e : Env} {R : Room} {s : State} {m : MethodId} {args : Array Value} {below : List Frame} {meth : Method} {c : Code} {H : Heap} {locs : List Loc} {cells slots : Nat} {Q : State → Prop}
variable {D : va_G} {ca : FieldType → ClassId} {z0 Lx : Nat} {xs : Nat → Int32} {ad : Nat → Nat} {θ θ' : zS} {μ μ' : zM} {z pc pc' n : Nat} {L S L' S' : List zV} {ls : Array Slot}
theorem W_run {mc ms : Nat} {rest st0 : List Value} {Qa : State → Outcome → State → Prop} {free : Addr → Prop} (hr : va_Run p l e R s m args below meth c H locs cells slots mc ms (F0 m pc ls st0) rest Qa free)
    (kk : ∀ (v : Option Value) (st t : State) (H1 : Heap) (L1 : List Loc), st.heap = H → t.heap = H1 → s.vm.Alike t.vm → Qa st (.returned v) t → (∀ q ∈ L1, free q.base) → W p l e R s m args below meth c H1 (locs ++ L1) (cells + mc) (slots + ms) Q (F0 m (pc + 3) ls (v.toList ++ rest))) : W p l e R s m args below meth c H locs cells slots Q (F0 m pc ls st0) := by
  intro T hT X
  obtain ⟨v, st₀, t, T', L1, h0, X', hL, e1, e2, hq, st⟩ := hr T hT X
  obtain ⟨t2, a1, b1⟩ := kk v st₀ t T'.heap L1 h0 e1.symm (by rw [← e2]; exact X'.warmed.alike) hq hL T' rfl X'
  exact ⟨t2, st t2 a1, b1⟩

/-- the row of multianewarray, as the last part gives it -/
def zMN : Prop := ∀ (p : Program) (l : Launch) (e : Env) (R : Room) (s : State) (m : MethodId) (args : Array Value) (below : List Frame) (meth : Method) (c : Code) (H : Heap) (locs : List Loc) (cells slots : Nat) (Q : State → Prop) (D : va_G) (ca : FieldType → ClassId) (z0 Lx : Nat) (xs : Nat → Int32) (ad : Nat → Nat) (θ θ' : zS) (μ μ' : zM) (z pc pc' n : Nat) (L S L' S' : List zV) (ls : Array Slot) (k q : Nat), (zCtx p s m args meth c z L.length) → (zEnv D ca z0 Lx xs ad s) → (zOn D ca z0 Lx xs s ad L S θ μ H locs ls) → (ft z pc = some (.multianewarray k q, n)) → (zstep z (.multianewarray k q) n pc L S θ μ = some (pc', L', S', θ', μ')) → (cells + (θ'.1.length - θ.1.length) ≤ R.cells) → (slots + (zSl θ' - zSl θ) ≤ R.slots) → (∀ (ad' : Nat → Nat) (H1 : Heap) (locs1 : List Loc) (ls1 : Array Slot), (∀ b, b < θ.1.length → ad' b = ad b) → zOn D ca z0 Lx xs s ad' L' S' θ' μ' H1 locs1 ls1 → W p l e R s m args below meth c H1 locs1 (cells + (θ'.1.length - θ.1.length)) (slots + (zSl θ' - zSl θ)) Q (F0 m pc' ls1 (S'.map (zabs ad')))) → W p l e R s m args below meth c H locs cells slots Q (F0 m pc ls (S.map (zabs ad)))
set_option maxHeartbeats 4000000 in
theorem s_step {i : Instr} (hMN : zMN) (hC : zCtx p s m args meth c z L.length) (hE : zEnv D ca z0 Lx xs ad s) (hO : zOn D ca z0 Lx xs s ad L S θ μ H locs ls) (hft : ft z pc = some (i, n)) (hs : zstep z i n pc L S θ μ = some (pc', L', S', θ', μ')) (hr1 : cells + (θ'.1.length - θ.1.length) ≤ R.cells) (hr2 : slots + (zSl θ' - zSl θ) ≤ R.slots)
    (kk : ∀ (ad' : Nat → Nat) (H1 : Heap) (locs1 : List Loc) (ls1 : Array Slot), (∀ b, b < θ.1.length → ad' b = ad b) → zOn D ca z0 Lx xs s ad' L' S' θ' μ' H1 locs1 ls1 → W p l e R s m args below meth c H1 locs1 (cells + (θ'.1.length - θ.1.length)) (slots + (zSl θ' - zSl θ)) Q (F0 m pc' ls1 (S'.map (zabs ad')))) : W p l e R s m args below meth c H locs cells slots Q (F0 m pc ls (S.map (zabs ad))) := by
  by_cases ha : zalc i = true
  · cases i with
    | new k => exact s_new hC hE hO hft hs hr1 hr2 kk
    | newarray t => exact s_newarray hC hE hO hft hs hr1 hr2 kk
    | anewarray k => exact s_anewarray hC hE hO hft hs hr1 hr2 kk
    | multianewarray k q => exact hMN p l e R s m args below meth c H locs cells slots Q D ca z0 Lx xs ad θ θ' μ μ' z pc pc' n L S L' S' ls k q hC hE hO hft hs hr1 hr2 kk
    | _ => cases ha
  · have hθ := zstep_sh (Bool.eq_false_iff.mpr ha) hs
    have hz : zSl θ' = zSl θ := by unfold zSl; rw [hθ]
    have k2 : ∀ (H1 : Heap) (locs1 : List Loc) (ls1 : Array Slot), zOn D ca z0 Lx xs s ad L' S' θ' μ' H1 locs1 ls1 → W p l e R s m args below meth c H1 locs1 cells slots Q (F0 m pc' ls1 (S'.map (zabs ad))) := by
      intro H1 locs1 ls1 h1
      have h2 := kk ad H1 locs1 ls1 (fun _ _ => rfl) h1
      rw [hθ, hz, Nat.sub_self, Nat.sub_self] at h2
      exact h2
    clear kk hr1 hr2
    cases i with
    | iload_n k => exact s_iload_n hC hO hft hs k2
    | iload k => exact s_iload hC hO hft hs k2
    | lload_n k => exact s_lload_n hC hO hft hs k2
    | lload k => exact s_lload hC hO hft hs k2
    | aload_n k => exact s_aload_n hC hO hft hs k2
    | aload k => exact s_aload hC hO hft hs k2
    | istore_n k => exact s_istore_n hC hO hft hs k2
    | istore k => exact s_istore hC hO hft hs k2
    | lstore_n k => exact s_lstore_n hC hO hft hs k2
    | lstore k => exact s_lstore hC hO hft hs k2
    | astore_n k => exact s_astore_n hC hO hft hs k2
    | astore k => exact s_astore hC hO hft hs k2
    | iinc k c0 => exact s_iinc hC hO hft hs k2
    | iconst k => exact s_iconst hC hO hft hs k2
    | bipush k => exact s_bipush hC hO hft hs k2
    | sipush k => exact s_sipush hC hO hft hs k2
    | lconst k => exact s_lconst hC hO hft hs k2
    | iadd => exact s_iadd hC hO hft hs k2
    | isub => exact s_isub hC hO hft hs k2
    | imul => exact s_imul hC hO hft hs k2
    | iand => exact s_iand hC hO hft hs k2
    | ior => exact s_ior hC hO hft hs k2
    | ixor => exact s_ixor hC hO hft hs k2
    | ishl => exact s_ishl hC hO hft hs k2
    | ishr => exact s_ishr hC hO hft hs k2
    | iushr => exact s_iushr hC hO hft hs k2
    | idiv => exact s_idiv hC hO hft hs k2
    | irem => exact s_irem hC hO hft hs k2
    | i2l => exact s_i2l hC hO hft hs k2
    | i2b => exact s_i2b hC hO hft hs k2
    | l2i => exact s_l2i hC hO hft hs k2
    | ladd => exact s_ladd hC hO hft hs k2
    | lsub => exact s_lsub hC hO hft hs k2
    | lmul => exact s_lmul hC hO hft hs k2
    | ldiv => exact s_ldiv hC hO hft hs k2
    | lcmp => exact s_lcmp hC hO hft hs k2
    | dup => exact s_dup hC hO hft hs k2
    | pop => exact s_pop hC hO hft hs k2
    | dup2 => exact s_dup2 hC hO hft hs k2
    | iaload => exact s_iaload hC hE hO hft hs k2
    | baload => exact s_baload hC hE hO hft hs k2
    | laload => exact s_laload hC hE hO hft hs k2
    | aaload => exact s_aaload hC hE hO hft hs k2
    | iastore => exact s_iastore hC hE hO hft hs k2
    | bastore => exact s_bastore hC hE hO hft hs k2
    | lastore => exact s_lastore hC hE hO hft hs k2
    | arraylength => exact s_arraylength hC hE hO hft hs k2
    | aastore => exact s_aastore hC hE hO hft hs k2
    | getfield k => exact s_getfield hC hE hO hft hs k2
    | putfield k => exact s_putfield hC hE hO hft hs k2
    | ldc k => exact s_ldc hC hE hO hft hs k2
    | ldc_w k => exact s_ldc_w hC hE hO hft hs k2
    | ldc2_w k => exact s_ldc2_w hC hE hO hft hs k2
    | goto k => exact s_goto hC hE hO hft hs k2
    | ifCond cd off => exact s_ifCond hC hE hO hft hs k2
    | if_icmp cd off => exact s_if_icmp hC hE hO hft hs k2
    | tableswitch d1 lo hi offs => exact s_tableswitch hC hE hO hft hs k2
    | lookupswitch d1 ps => exact s_lookupswitch hC hE hO hft hs k2
    | _ => first | exact absurd rfl ha | exact absurd (show (none : Option (Nat × List zV × List zV × zS × zM)) = _ from hs) (fun q => by cases q)
theorem s_slen {k : Nat} (hC : zCtx p s m args meth c z L.length) (hE : zEnv D ca z0 Lx xs ad s) (hS : va_S (fun q => z0 ≤ q) s.heap H locs) (hls : ls.size = L.length) (hrf : 8 ≤ R.frames) (hrl : 256 ≤ R.locals) (hcl : cells ≤ R.cells ∧ slots ≤ R.slots) (hd : decode (zcb z) pc = .ok (.invokevirtual k, 3)) (hl : (Cond.methodLink (zcl (zcz z)) k ⟨"java/lang/String", "length", "()I"⟩).before args s = true) {rest : List Value} (hrest : (rest.map fun v => v.category).sum ≤ 8)
    (kk : ∀ (H1 : Heap), H1 = H → W p l e R s m args below meth c H1 locs cells slots Q (F0 m (pc + 3) ls (.int (Int32.ofInt (zStr.length : Int)) :: rest))) : W p l e R s m args below meth c H locs cells slots Q (F0 m pc ls (.ref (ad 0) :: rest)) := by
  obtain ⟨-, -, -, -, -, -, aV, h7⟩ := hE
  have hts := hC.2.2.2.2.1
  have h8 := kk H rfl
  rw [Int32.ofInt_eq_ofNat] at h8
  exact W_lf (o := some (.int (Int32.ofNat zStr.length))) (rest := rest) (va_runV (C := "java/lang/String") (b := ad 0) (As := []) (Ts := zTW) ⟨hC.1, hC.2.1, hC.2.2.1, hC.2.2.2.1, hts⟩ (c_len l (ad 0) aV z0) ⟨callB_of 0 hts (zG_of (zS_w 10 rfl)) rfl rfl rfl (hts _ (zS_w 27 rfl)) hl ⟨by decide +kernel, by decide +kernel, by decide +kernel⟩ ⟨Nat.le_trans (Nat.le_of_ble_eq_true rfl) hrf, Nat.le_trans (Nat.le_of_ble_eq_true rfl) hrl⟩, hts _ (zS_w 8 rfl), hts _ (zS_w 9 rfl)⟩
    ⟨zBl, vk_recv (adK := fun _ => ad 0) (i := 0) h7.1 (by decide) hS, fun U hU hW => ⟨rfl, h7.to hW.alike (fun a q1 q2 => by rw [hU]; exact hS.2.1 a q1 q2)⟩⟩ rfl rfl hls rfl (lv_room hrest) hd ⟨hcl.1, hcl.2⟩) h8
theorem s_char {k : Nat} {i : Int} (hC : zCtx p s m args meth c z L.length) (hE : zEnv D ca z0 Lx xs ad s) (hS : va_S (fun q => z0 ≤ q) s.heap H locs) (hls : ls.size = L.length) (hrf : 8 ≤ R.frames) (hrl : 256 ≤ R.locals) (hcl : cells ≤ R.cells ∧ slots ≤ R.slots) (hd : decode (zcb z) pc = .ok (.invokevirtual k, 3)) (hl : (Cond.methodLink (zcl (zcz z)) k ⟨"java/lang/String", "charAt", "(I)C"⟩).before args s = true) (hi : R32 i) (h0 : 0 ≤ i) (h1 : i < zStr.length) {rest : List Value} (hrest : (rest.map fun v => v.category).sum ≤ 8)
    (kk : ∀ (H1 : Heap), H1 = H → W p l e R s m args below meth c H1 locs cells slots Q (F0 m (pc + 3) ls (.int (Int32.ofInt (zStr.getD i.toNat 0 : Nat)) :: rest))) : W p l e R s m args below meth c H locs cells slots Q (F0 m pc ls (.int (Int32.ofInt i) :: .ref (ad 0) :: rest)) := by
  obtain ⟨-, -, -, -, -, -, aV, h7⟩ := hE
  have hts := hC.2.2.2.2.1
  have h8 := kk H rfl
  rw [Int32.ofInt_eq_ofNat] at h8
  have z32 : R32 0 := by constructor <;> omega
  have hL : R32 (zStr.length : Int) := by
    have h : zStr.length ≤ 1000 := by decide +kernel
    constructor <;> omega
  have g0 : ¬ Int32.ofInt i < 0 := fun h => by have := (e32_lt hi z32).mp h; omega
  have g1 : Int32.ofInt i < Int32.ofNat zStr.length := by
    rw [← Int32.ofInt_eq_ofNat]
    exact (e32_lt hi hL).mpr h1
  have g2 : (Int32.ofInt i).toNatClampNeg < zStr.length := by rw [e32_nat hi]; omega
  have hc := c_cha l (ad 0) aV z0 (Int32.ofInt i) g0 g1 g2
  rw [e32_nat hi] at hc
  exact W_lf (o := some (.int (Int32.ofNat (zStr.getD i.toNat 0)))) (rest := rest) (va_runV (C := "java/lang/String") (b := ad 0) (As := [.int (Int32.ofInt i)]) (Ts := zTW) ⟨hC.1, hC.2.1, hC.2.2.1, hC.2.2.2.1, hts⟩ hc ⟨callB_of 1 hts (zG_of (zS_w 13 rfl)) rfl rfl rfl (hts _ (zS_w 27 rfl)) hl ⟨by decide +kernel, by decide +kernel, by decide +kernel⟩ ⟨Nat.le_trans (Nat.le_of_ble_eq_true rfl) hrf, Nat.le_trans (Nat.le_of_ble_eq_true rfl) hrl⟩, hts _ (zS_w 11 rfl), hts _ (zS_w 12 rfl)⟩
    ⟨zBl, vk_recv (adK := fun _ => ad 0) (i := 0) h7.1 (by decide) hS, fun U hU hW => ⟨rfl, h7.to hW.alike (fun a q1 q2 => by rw [hU]; exact hS.2.1 a q1 q2)⟩⟩ rfl rfl hls rfl (lv_room hrest) hd ⟨hcl.1, hcl.2⟩) h8
theorem zStr_R (i : Nat) : R32 ((zStr.getD i 0 : Nat) : Int) := by
  have h : ∀ x ∈ zStr, x ≤ 255 := by decide +kernel
  have h2 : zStr.getD i 0 ≤ 255 := by
    rw [List.getD_eq_getElem?_getD]
    cases hq : zStr[i]? with
    | none => simp
    | some x => exact h x (List.mem_of_getElem? hq)
  constructor <;> omega
theorem zStr_L : R32 (zStr.length : Int) := by
  have h : zStr.length ≤ 1000 := by decide +kernel
  constructor <;> omega
/-- the library's own: Object's constructor, arraycopy, length, charAt -/
theorem s_prim {k f : Nat} {i : Instr} (hC : zCtx p s m args meth c z L.length) (hE : zEnv D ca z0 Lx xs ad s) (hO : zOn D ca z0 Lx xs s ad L S θ μ H locs ls) (hft : ft z pc = some (i, 3)) (hi : zinv i = some (k, f)) (hs : zcall z k f S θ μ = some (.inr (S', μ')))
    (hrf : 8 ≤ R.frames) (hrl : 256 ≤ R.locals) (hcl : cells ≤ R.cells ∧ slots ≤ R.slots)
    (kk : ∀ (H1 : Heap) (locs1 : List Loc) (ls1 : Array Slot), zOn D ca z0 Lx xs s ad L S' θ μ' H1 locs1 ls1 → W p l e R s m args below meth c H1 locs1 cells slots Q (F0 m (pc + 3) ls1 (S'.map (zabs ad)))) : W p l e R s m args below meth c H locs cells slots Q (F0 m pc ls (S.map (zabs ad))) := by
  have hd := (ft_dec hft).1
  have hsz : ls.size = c.maxLocals := by rw [hO.2.2.1.1, hC.2.2.1]
  unfold zcall at hs
  split at hs
  · cases hs
  · rename_i kd y np hm
    obtain ⟨w1, w2, w3⟩ := zmr_ok hm
    split at hs
    · split at hs
      · split at hs <;> cases hs
      · cases hs
    · split at hs
      · split at hs
        · split at hs <;> cases hs
        · cases hs
      · split at hs
        · split at hs <;> cases hs
        · split at hs
          · rename_i hkf
            obtain ⟨rfl, rfl⟩ := hkf
            split at hs
            · rename_i a S0
              split at hs
              · rename_i h4
                cases hs
                cases i <;> cases hi
                have hlen := zcat_sum (ad := ad) (S := S')
                exact W.objInit hC.1 hC.2.1 hC.2.2.2.1 (hC.2.2.2.2.1 _ (zTW_in w1 rfl)) (hC.2.2.2.2.1 _ zOw_i) (hC.2.2.2.2.1 _ zOw_c) rfl hsz rfl hd (by omega) (Nat.le_trans (Nat.add_le_add_right (lv_room (by omega)) 12) (by omega)) (kk H locs ls (hO.stk (zvw_tl hO.2.2.2.1)))
              · cases hs
            · cases hs
          · split at hs
            · rename_i hkf
              obtain ⟨rfl, rfl⟩ := hkf
              split at hs
              · rename_i q dp b sp a S0
                split at hs
                · rename_i h4
                  cases hs
                  obtain ⟨h4, ha2, hb2, hm0, hs0, hd0, hmx, hax, hbx⟩ := h4
                  cases i <;> cases hi
                  have hst := hO.2.2.2.1
                  have hqR : R32 q := zvw_hd hst
                  have hdR : R32 dp := zvw_hd (zvw_tl hst)
                  have hsR : R32 sp := zvw_hd (zvw_tl (zvw_tl (zvw_tl hst)))
                  obtain ⟨na, haa, -, hna⟩ := zix_iff.mp hax
                  obtain ⟨nb, hbb, -, hnb⟩ := zix_iff.mp hbx
                  obtain ⟨h8, h9⟩ := hmx
                  have hla : sp + q ≤ na := by
                    obtain ⟨n1, h1, -, h2⟩ := zix_iff.mp h8
                    rw [haa] at h1; cases h1; omega
                  have hlb : dp + q ≤ nb := by
                    obtain ⟨n1, h1, -, h2⟩ := zix_iff.mp h9
                    rw [hbb] at h1; cases h1; omega
                  have z32 : R32 0 := by constructor <;> omega
                  have hlen := zcat_sum (ad := ad) (S := S')
                  refine va_copyi hC.1 hC.2.1 hsz.symm hC.2.2.2.1 (hC.2.2.2.2.1 _ (zTW_in w1 rfl)) (hC.2.2.2.2.1 _ zSw_n) (hC.2.2.2.2.1 _ zSw_s) (hC.2.2.2.2.1 _ zSw_i) (hE.1.at (t := .int) (by simp [zTys])) hO.1.1 hO.1.2.1 hO.2.1 (a - 2) (b - 2) 0 0 (n0 := na) (n1 := nb) (f := fun j => Int32.ofInt (μ a j)) (g := fun j => Int32.ofInt (μ b j)) (ty := .int)
                    (by rw [zwl_at ha2 (zlt_of haa), zcel_a haa]; rfl) (by rw [zwl_at hb2 (zlt_of hbb), zcel_a hbb]; rfl) rfl rfl rfl
                    (fun h => by have := (e32_lt hsR z32).mp h; omega) (fun h => by have := (e32_lt hdR z32).mp h; omega) (fun h => by have := (e32_lt hqR z32).mp h; omega)
                    (by rw [e32_nat hsR, e32_nat hqR]; omega) (by rw [e32_nat hdR, e32_nat hqR]; omega) (fun _ _ => rfl) (by omega) (by show _ + (5 + 2 + 11) ≤ _; omega) hd (fun H1 locs1 hP1 hD1 hS1 => ?_)
                  refine kk H1 locs1 ls ⟨hO.1.putA hbb hb2 rfl ?_ (fun b' hb' => ?_) ?_ hP1 hD1, hS1, hO.2.2.1, zvw_tl (zvw_tl (zvw_tl (zvw_tl (zvw_tl hst)))), hO.2.2.2.2⟩
                  · obtain ⟨q1, q2, q3, q4, q5, q6, q7, q8⟩ := hO.1.2.2
                    refine ⟨q1, q2, q3, fun k hk => ?_, q5, q6, q7, fun b' k => ?_⟩
                    · unfold zcopy; rw [if_neg (fun h => by omega)]; exact q4 k hk
                    · unfold zcopy
                      by_cases hq : b' = b ∧ dp.toNat ≤ k ∧ k < dp.toNat + q.toNat
                      · rw [if_pos hq, hq.1, zlg_a hbb]
                        have := q8 a (sp.toNat + (k - dp.toNat))
                        rw [zlg_a haa] at this
                        exact this
                      · rw [if_neg hq]; exact q8 b' k
                  · have e9 : ∀ k, zcopy μ a sp.toNat b dp.toNat q.toNat b' k = μ b' k := fun k => by unfold zcopy; rw [if_neg (fun h => hb' h.1)]
                    unfold zcel
                    cases hs9 : θ.1[b']? with
                    | none => rfl
                    | some q9 =>
                      cases q9 with
                      | inl c9 =>
                        have h1 : zfv ad θ (zcopy μ a sp.toNat b dp.toNat q.toNat) b' c9 = zfv ad θ μ b' c9 := funext fun k => by unfold zfv; rw [e9]
                        simp only [zfs, h1]
                      | inr q9 => simp only [zarr, e9]
                  · show Sum.inl (fun j => Int32.ofInt (zcopy μ a sp.toNat b dp.toNat q.toNat b j)) = _
                    congr 1
                    funext k
                    unfold zcopy va_cpy
                    rw [e32_nat hsR, e32_nat hdR, e32_nat hqR]
                    by_cases hq : dp.toNat ≤ k ∧ k < dp.toNat + q.toNat
                    · rw [if_pos ⟨rfl, hq.1, hq.2⟩, if_pos hq]
                    · rw [if_neg (fun h => hq h.2), if_neg hq]
                · cases hs
              · cases hs
            · split at hs
              · rename_i hkf
                obtain ⟨rfl, rfl⟩ := hkf
                split at hs
                · rename_i S0
                  split at hs
                  · rename_i h4
                    cases hs
                    cases i <;> cases hi
                    have hlen := zcat_sum (ad := ad) (S := S0)
                    exact s_slen hC hE hO.2.1 hO.2.2.1.1 hrf hrl hcl hd (hC.2.2.2.2.1 _ (zTW_in w1 rfl)) (by omega) (fun H1 hH => by subst hH; exact kk _ locs ls (hO.stk (zvw_cons (zvi zStr_L) (zvw_tl hO.2.2.2.1))))
                  · cases hs
                · cases hs
              · split at hs
                · rename_i hkf
                  obtain ⟨rfl, rfl⟩ := hkf
                  split at hs
                  · rename_i i0 S0
                    split at hs
                    · rename_i h4
                      cases hs
                      cases i <;> cases hi
                      have hlen := zcat_sum (ad := ad) (S := S0)
                      exact s_char hC hE hO.2.1 hO.2.2.1.1 hrf hrl hcl hd (hC.2.2.2.2.1 _ (zTW_in w1 rfl)) (zvw_hd hO.2.2.2.1) h4.2.1 h4.2.2 (by omega) (fun H1 hH => by subst hH; exact kk _ locs ls (hO.stk (zvw_cons (zvi (zStr_R _)) (zvw_tl (zvw_tl hO.2.2.2.1)))))
                    · cases hs
                  · cases hs
                · cases hs
end ZR

