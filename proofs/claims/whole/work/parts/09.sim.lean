/-! A RUN OF THE MINI MACHINE IS A RUN OF THE MACHINE: calls, and the whole -/
def zSim (l : Launch) (D : va_G) (ca : FieldType → ClassId) (z0 Lx : Nat) (xs : Nat → Int32) (f : Nat) : Prop :=
  ∀ (d z pc : Nat) (L S : List zV) (θ : zS) (μ : zM) (v : Option zV) (θ' : zS) (μ' : zM), zrun f d z pc L S θ μ = some (v, θ', μ') →
  ∀ (p : Program) (e : Env) (R : Room) (s : State) (m : MethodId) (args : Array Value) (below : List Frame) (meth : Method) (c : Code) (H : Heap) (locs : List Loc) (cells slots : Nat) (Q : State → Prop) (ad : Nat → Nat) (ls : Array Slot),
  zCtx p s m args meth c z L.length → zEnv D ca z0 Lx xs ad s → zOn D ca z0 Lx xs s ad L S θ μ H locs ls → d + 8 ≤ R.frames → 32 * d + 256 ≤ R.locals → cells + (θ'.1.length - θ.1.length) ≤ R.cells → slots + (zSl θ' - zSl θ) ≤ R.slots →
  (∀ (ad1 : Nat → Nat) (H1 : Heap) (locs1 : List Loc) (ls1 : Array Slot) (pc1 : Nat) (S1 : List zV) (i1 : Instr) (n1 : Nat), (∀ b, b < θ.1.length → ad1 b = ad b) → zMem D ca z0 Lx xs ad1 θ' μ' H1 → va_S (fun q => z0 ≤ q) s.heap H1 locs1 → (∀ v ∈ S1, zvw θ'.1.length v) → ft z pc1 = some (i1, n1) → zret z i1 S1 = some v →
    W p l e R s m args below meth c H1 locs1 (cells + (θ'.1.length - θ.1.length)) (slots + (zSl θ' - zSl θ)) Q (F0 m pc1 ls1 (S1.map (zabs ad1)))) →
  W p l e R s m args below meth c H locs cells slots Q (F0 m pc ls (S.map (zabs ad)))
theorem zRoom_f (d a b : Nat) : (zRoom d a b).frames = d + 8 := rfl
theorem zRoom_l (d a b : Nat) : (zRoom d a b).locals = 32 * d + 256 := rfl
set_option maxRecDepth 20000 in
theorem zroom_ok {mx d N : Nat} (h : mx ≤ 13) (hN : 32 * (d + 1) + 256 ≤ N) : 8 + (mx + 11) + (32 * d + 256) ≤ N := by omega
theorem zroom_fr {d N : Nat} (hN : d + 1 + 8 ≤ N) : d + 8 + 1 ≤ N := by omega
def zQc (D : va_G) (ca : FieldType → ClassId) (z0 Lx : Nat) (xs : Nat → Int32) (ad : Nat → Nat) (θ : zS) (v : Option zV) (θ' : zS) (μ' : zM) : Array Value → State → Outcome → State → Prop := fun _ st o t =>
  ∃ ad1 : Nat → Nat, (∀ b, b < θ.1.length → ad1 b = ad b) ∧ o = .returned (v.map (zabs ad1)) ∧ (∀ x ∈ v.toList, zvw θ'.1.length x) ∧ zMem D ca z0 Lx xs ad1 θ' μ' t.heap ∧ va_F (fun q => z0 ≤ q) st t
theorem zret_spec {z : Nat} {i : Instr} {S : List zV} {v : Option zV} (h : zret z i S = some v) : (i = .ireturn ∧ ∃ x, S = [vi x] ∧ v = some (vi x) ∧ (zrt z = some .int ∨ (zrt z = some .boolean ∧ (x = 0 ∨ x = 1)))) ∨ (i = .lreturn ∧ ∃ x, S = [vl x] ∧ v = some (vl x) ∧ zrt z = some .long) ∨ (i = .return_ ∧ S = [] ∧ v = none ∧ zrt z = none) := by
  unfold zret at h
  split at h
  · split at h
    · rename_i x hx
      cases h
      exact Or.inl ⟨rfl, _, rfl, rfl, hx⟩
    · cases h
  · split at h
    · rename_i x hx
      cases h
      exact Or.inr (Or.inl ⟨rfl, _, rfl, rfl, hx⟩)
    · cases h
  · split at h
    · rename_i hx
      cases h
      exact Or.inr (Or.inr ⟨rfl, rfl, rfl, hx⟩)
    · cases h
  · cases h
theorem zYok_spec {y : Nat} (h : y < 296) : zcl (zcz y) = (zyn y).cls ∧ zmx y ≤ 13 ∧ plainFor (zyn y) = true ∧ (parseMethodDescriptor (zyn y).desc).map (fun d => d.parameters.length) = some (zNp_ y) ∧ ((zKd y == 2) = ((zyn y).name == "<init>")) ∧ (zyn y).cls ≠ "java/lang/invoke/MethodHandle" ∧ (zyn y).cls ≠ "java/lang/invoke/VarHandle" := by
  have h1 := zYok_all h
  unfold zYok at h1
  simp only [Bool.and_eq_true, beq_iff_eq, decide_eq_true_eq, bne_iff_ne, ne_eq] at h1
  obtain ⟨q1, q2, q3, ⟨q4, q5⟩, q6, q7⟩ := h1
  exact ⟨q1, q2, q3, q4, q5, q6, q7⟩
theorem zcz_lt : ∀ y ∈ List.range 296, zcz y < 17 := by decide +kernel
theorem zmet {l : Launch} {D : va_G} {ca : FieldType → ClassId} {z0 Lx : Nat} {xs : Nat → Int32} {f d y : Nat} {av : List zV} {θ θ' : zS} {μ μ' : zM} {v : Option zV} (ih : zSim l D ca z0 Lx xs f) (ad : Nat → Nat) (hy : y < 296) (hfit : (zla av).length ≤ zmx y) (hav : ∀ v ∈ av, zvw θ.1.length v) (hr : zrun f d y 0 (zen (zmx y) av) [] θ μ = some (v, θ', μ')) :
    Met l (zyn y) (zYc y :: zTW) (zRoom d (θ'.1.length - θ.1.length) (zSl θ' - zSl θ)) (va_Pc (av.map (zabs ad)) (fun U => zEnv D ca z0 Lx xs ad U ∧ zMem D ca z0 Lx xs ad θ μ U.heap)) (zQc D ca z0 Lx xs ad θ v θ' μ') (θ'.1.length - θ.1.length) (zSl θ' - zSl θ) (fun q => z0 ≤ q) := by
  obtain ⟨k1, k2, k3, -⟩ := zYok_spec hy
  refine va_MetF (cc := zcb y) (maxL := zmx y) (ret := zrt y) k3 rfl ?_
  intro p e s m args below meth c s₁ B hml hPc
  obtain ⟨rfl, hEnv, hMem⟩ := hPc
  have hts : ∀ w ∈ zTW, w.before (av.map (zabs ad)).toArray s = true := fun w hw => atoms_spec (ws := zYc y :: zTW) B.pre w (List.mem_cons_of_mem _ hw)
  have hown : s.vm.findClass (zyn y).cls = some m.cls := findClass_of_methodNamed B.named
  have hlocks := B.notSynchronized
  have hC : zCtx p s m (av.map (zabs ad)).toArray meth c y (zen (zmx y) av).length := ⟨B.exec, B.bytes, by rw [zen_len hfit]; exact hml, by rw [k1]; exact hown, hts, B.returns, (name_of_methodNamed B.named B.method).1, hlocks⟩
  have hl := lv_entry (av.map (zabs ad)) (n := zmx y) (by rw [lgsl_len]; exact hfit)
  rw [lg_entry_eq]
  generalize (lg_sl (av.map (zabs ad)) ++ List.replicate (zmx y - (lg_sl (av.map (zabs ad))).length) Slot.unset).toArray = ls at hl ⊢
  refine ih d y 0 _ [] θ μ v θ' μ' hr p e _ s m _ below meth c s.heap [] 0 0 _ ad ls hC hEnv ⟨hMem, va_S.rf, zen_loc hfit hl, (fun v h => by cases h), zen_vw hav⟩ (Nat.le_refl _) (Nat.le_refl _) (by rw [Nat.zero_add]; exact Nat.le_refl _) (by rw [Nat.zero_add]; exact Nat.le_refl _) (fun ad1 H1 locs1 ls1 pc1 S1 i1 n1 h1 h2 h3 h4 h5 h6 => ?_)
  rw [Nat.zero_add, Nat.zero_add]
  rcases zret_spec h6 with ⟨rfl, x, rfl, rfl, h7⟩ | ⟨rfl, x, rfl, rfl, h7⟩ | ⟨rfl, rfl, rfl, h7⟩
  · obtain ⟨hd, -⟩ := ft_n h5 rfl
    rcases h7 with h7 | ⟨h7, h8⟩
    · exact W.iret hC.1 hC.2.1 (by rw [hC.2.2.2.2.2.1]; exact h7) (fun t ht hW => ⟨ad1, h1, rfl, fun x hx => h4 x hx, by rw [ht]; exact h2, h3.F ht⟩) h3.2.2 hd hlocks
    · exact W.zret hC.1 hC.2.1 (by rw [hC.2.2.2.2.2.1]; exact h7) (nar_z h8).1 (fun t ht hW => ⟨ad1, h1, rfl, fun x hx => h4 x hx, by rw [ht]; exact h2, h3.F ht⟩) h3.2.2 hd hlocks
  · obtain ⟨hd, -⟩ := ft_n h5 rfl
    exact W.lret hC.1 hC.2.1 (by rw [hC.2.2.2.2.2.1]; exact h7) (fun t ht hW => ⟨ad1, h1, rfl, fun x hx => h4 x hx, by rw [ht]; exact h2, h3.F ht⟩) h3.2.2 hd hlocks
  · obtain ⟨hd, -⟩ := ft_n h5 rfl
    exact W.vret hC.1 hC.2.1 (by rw [hC.2.2.2.2.2.1]; exact h7) (fun t ht hW => ⟨ad1, h1, rfl, (fun x hx => by cases hx), by rw [ht]; exact h2, h3.F ht⟩) h3.2.2 hd hlocks
theorem zcall_spec {z k f y : Nat} {S av S' : List zV} {θ : zS} {μ : zM} (h : zcall z k f S θ μ = some (.inl (y, av, S'))) : ∃ kd np, zmr (zcz z) k = some (kd, y, np) ∧ S'.length ≤ 4 ∧ (zla av).length ≤ zmx y ∧ S = av.reverse ++ S' ∧
    ((((kd = 0 ∧ f = 0) ∨ ((kd = 2 ∨ kd = 3) ∧ f = 2)) ∧ ∃ a As, av = vr a :: As ∧ As.length = np ∧ zob θ a (zcz y) = true) ∨ ((kd = 1 ∨ kd = 4) ∧ f = 1 ∧ av.length = np)) := by
  unfold zcall at h
  split at h
  · cases h
  · rename_i kd y2 np hm
    have rcv : ∀ (a : Nat) (T : List zV), S.drop np = vr a :: T → S = (vr a :: (S.take np).reverse).reverse ++ T ∧ (S.take np).reverse.length = np := by
      intro a T hd
      have hl : np < S.length := by
        apply Nat.lt_of_not_le
        intro hle
        rw [List.drop_eq_nil_of_le hle] at hd
        cases hd
      refine ⟨?_, by rw [List.length_reverse, List.length_take]; omega⟩
      rw [List.reverse_cons, List.reverse_reverse, List.append_assoc]
      show S = S.take np ++ (vr a :: T)
      rw [← hd, List.take_append_drop]
    split at h
    · rename_i hk
      split at h
      · rename_i a T hd
        split at h
        · rename_i h4
          cases h
          obtain ⟨e1, e2⟩ := rcv a S' hd
          exact ⟨kd, np, hm, h4.2.1, h4.2.2.2, e1, Or.inl ⟨Or.inl hk, a, _, rfl, e2, h4.1⟩⟩
        · cases h
      · cases h
    · split at h
      · rename_i hk
        split at h
        · rename_i a T hd
          split at h
          · rename_i h4
            cases h
            obtain ⟨e1, e2⟩ := rcv a S' hd
            exact ⟨kd, np, hm, h4.2.1, h4.2.2.2, e1, Or.inl ⟨Or.inr hk, a, _, rfl, e2, h4.1⟩⟩
          · cases h
        · cases h
      · split at h
        · rename_i hk
          split at h
          · rename_i h4
            cases h
            refine ⟨kd, np, hm, h4.2.1, h4.2.2.2, by rw [List.reverse_reverse, List.take_append_drop], Or.inr ⟨hk.1, hk.2, ?_⟩⟩
            rw [List.length_reverse, List.length_take]
            omega
          · cases h
        · split at h
          · split at h
            · split at h <;> cases h
            · cases h
          · split at h
            · split at h
              · split at h <;> cases h
              · cases h
            · split at h
              · split at h
                · split at h <;> cases h
                · cases h
              · split at h
                · split at h
                  · split at h <;> cases h
                  · cases h
                · cases h
section ZC
variable {p : Program} {l : Launch} {e : Env} {R : Room} {s : State} {m : MethodId} {args : Array Value} {below : List Frame} {meth : Method} {c : Code} {H : Heap} {locs : List Loc} {cells slots : Nat} {Q : State → Prop}
variable {D : va_G} {ca : FieldType → ClassId} {z0 Lx : Nat} {xs : Nat → Int32} {ad : Nat → Nat} {θ θ' : zS} {μ μ' : zM} {z pc pc' n : Nat} {L S L' S' : List zV} {ls : Array Slot}
theorem zNestW {c : String} {k : Nat} {y : MethodName} {hst : String} (h : Cond.methodLinkNest c k y hst ∈ lw_tbl) : Cond.methodLinkNest c k y hst ∈ zNest := List.mem_filter.mpr ⟨h, rfl⟩
/-- a call, as the machine makes it -/
theorem s_inv {f d k fm y : Nat} {i : Instr} {av : List zV} {v : Option zV} (ih : zSim l D ca z0 Lx xs f) (hC : zCtx p s m args meth c z L.length) (hE : zEnv D ca z0 Lx xs ad s) (hO : zOn D ca z0 Lx xs s ad L S θ μ H locs ls) (hft : ft z pc = some (i, 3)) (hi : zinv i = some (k, fm)) (hs : zcall z k fm S θ μ = some (.inl (y, av, S')))
    (hr : zrun f d y 0 (zen (zmx y) av) [] θ μ = some (v, θ', μ')) (hrf : d + 1 + 8 ≤ R.frames) (hrl : 32 * (d + 1) + 256 ≤ R.locals) (hr1 : cells + (θ'.1.length - θ.1.length) ≤ R.cells) (hr2 : slots + (zSl θ' - zSl θ) ≤ R.slots)
    (kk : ∀ (ad1 : Nat → Nat) (H1 : Heap) (locs1 : List Loc), (∀ b, b < θ.1.length → ad1 b = ad b) → zOn D ca z0 Lx xs s ad1 L (v.toList ++ S') θ' μ' H1 locs1 ls → W p l e R s m args below meth c H1 locs1 (cells + (θ'.1.length - θ.1.length)) (slots + (zSl θ' - zSl θ)) Q (F0 m (pc + 3) ls ((v.toList ++ S').map (zabs ad1)))) :
    W p l e R s m args below meth c H locs cells slots Q (F0 m pc ls (S.map (zabs ad))) := by
  have hd := (ft_dec hft).1
  obtain ⟨kd, np, hm, h4, hfit, hSe, hcase⟩ := zcall_spec hs
  obtain ⟨w1, w2, hy⟩ := zmr_ok hm
  obtain ⟨k1, k2, k3, k4, k5, k6, k7⟩ := zYok_spec hy
  have hst := hO.2.2.2.1
  have hav : ∀ v ∈ av, zvw θ.1.length v := fun v hv => hst v (by rw [hSe]; exact List.mem_append_left _ (List.mem_reverse.mpr hv))
  have hS' : ∀ v ∈ S', zvw θ.1.length v := fun v hv => hst v (by rw [hSe]; exact List.mem_append_right _ hv)
  have hM := zmet ih ad hy hfit hav hr
  have hpre := zpre_le (zrun_pre f hr)
  have hG : GoodIn zTW (zYc y :: zTW) := fun w hw => by
    rcases List.mem_cons.mp hw with rfl | hw
    · exact zTW_good _ (zTW_in (zYc_all hy) rfl)
    · exact zTW_good w hw
  have hini : (Cond.initialized (zyn y).cls).before args s = true := hC.2.2.2.2.1 _ (zTW_in (zYi_all hy) rfl)
  have hR : (zRoom d (θ'.1.length - θ.1.length) (zSl θ' - zSl θ)).frames + 1 ≤ R.frames ∧ 8 + (zmx y + 11) + (zRoom d (θ'.1.length - θ.1.length) (zSl θ' - zSl θ)).locals ≤ R.locals := ⟨zroom_fr hrf, zroom_ok k2 hrl⟩
  have hbl : FrameBlind (va_Pc (av.map (zabs ad)) (fun U => zEnv D ca z0 Lx xs ad U ∧ zMem D ca z0 Lx xs ad θ μ U.heap)) := fun a U g mk h => ⟨h.1, h.2.1.same rfl rfl, h.2.2⟩
  have hpc : ∀ U : State, U.heap = H → s.WarmedH U.vm → va_Pc (av.map (zabs ad)) (fun U => zEnv D ca z0 Lx xs ad U ∧ zMem D ca z0 Lx xs ad θ μ U.heap) (av.map (zabs ad)).toArray U := fun U hU hW => ⟨rfl, hE.to hO.2.1 hU hW, by rw [hU]; exact hO.1⟩
  have hcat := zcat_sum (ad := ad) (S := S')
  have hW8 : 2 * (F0 m pc ls (S.map (zabs ad))).monitorRoom + ((S'.map (zabs ad)).map fun v => v.category).sum ≤ 8 := lv_room (by omega)
  have hmap : S.map (zabs ad) = (av.map (zabs ad)).reverse ++ S'.map (zabs ad) := by rw [hSe, List.map_append, List.map_reverse]
  have fin : va_Run p l e R s m args below meth c H locs cells slots (θ'.1.length - θ.1.length) (zSl θ' - zSl θ) (F0 m pc ls (S.map (zabs ad))) (S'.map (zabs ad)) (zQc D ca z0 Lx xs ad θ v θ' μ' (av.map (zabs ad)).toArray) (fun q => z0 ≤ q) → W p l e R s m args below meth c H locs cells slots Q (F0 m pc ls (S.map (zabs ad))) := by
    intro hrun
    refine W_run hrun (fun v1 st t H1 L1 e1 e2 hal hq hL1 => ?_)
    obtain ⟨ad1, q1, q2, q3, q4, q5⟩ := hq
    cases q2
    have hS1 : va_S (fun q => z0 ≤ q) s.heap H1 (locs ++ L1) := by
      refine ⟨?_, fun q hq1 hq2 => ?_, fun q hq => ?_⟩
      · have := q5.1
        rw [e1, e2] at this
        exact Nat.le_trans hO.2.1.1 this
      · have h1 := q5.2 q (by rw [e1]; exact Nat.lt_of_lt_of_le hq1 hO.2.1.1) hq2
        rw [e1, e2] at h1
        rw [h1]
        exact hO.2.1.2.1 q hq1 hq2
      · rcases List.mem_append.mp hq with h | h
        · exact hO.2.1.2.2 q h
        · exact hL1 q h
    have hO1 : zOn D ca z0 Lx xs s ad1 L (v.toList ++ S') θ' μ' H1 (locs ++ L1) ls := by
      refine ⟨by rw [← e2]; exact q4, hS1, zLoc_ext hO.2.2.1 hO.2.2.2.2 q1, fun x hx => ?_, fun x hx => ?_⟩
      · rcases List.mem_append.mp hx with h | h
        · exact q3 x h
        · exact zvw_mono (hS' x h) hpre.1
      · rcases hO.2.2.2.2 x hx with h | h
        · exact Or.inl h
        · exact Or.inr (zvw_mono h hpre.1)
    have h := kk ad1 H1 (locs ++ L1) q1 hO1
    have e3 : (v.toList ++ S').map (zabs ad1) = (v.map (zabs ad1)).toList ++ S'.map (zabs ad) := by
      rw [List.map_append, zmap_ext hS' q1]
      cases v <;> rfl
    rw [e3] at h
    exact h
  rcases hcase with ⟨hkf, a, As, rfl, hnp, hob⟩ | ⟨hk, hf, hnp⟩
  · have haa := zob_iff.mp hob
    have h2a : 2 ≤ a := by
      rcases a with _ | _ | a
      · rw [hO.1.2.2.2.1] at haa
        have := zcz_lt y (List.mem_range.mpr hy)
        have h99 := Sum.inl.inj (Option.some.inj haa)
        omega
      · rw [hO.1.2.2.2.2.1] at haa; cases haa
      · omega
    have h13 := hO.1.2.2.2.2.2.2.1 a _ h2a haa
    obtain ⟨C, T, N, ty0, hv, hN, hin, hty, hnm, hF, hzc⟩ := zCok_all (zcz y) h13
    have hstk : (F0 m pc ls (S.map (zabs ad))).stack = (As.map (zabs ad)).reverse ++ .ref (ad a) :: S'.map (zabs ad) := by
      show S.map (zabs ad) = _
      rw [hmap, List.map_cons, List.reverse_cons, List.append_assoc]
      rfl
    have hrcv : ∃ cell : Cell, H[ad a]? = some cell ∧ cell.vm.isStatics = false ∧ s.vm.findClass (zyn y).cls = some cell.cls := by
      have := va_recv (s := s) (tys := []) hE.1.1 hO.1.1 (ci := zcz y) (q0 := a - 2) hv (by rw [zwl_at h2a (zlt_of haa), zcel_o haa])
      rw [← k1, hzc]
      exact this
    rcases hkf with ⟨rfl, rfl⟩ | ⟨hk23, rfl⟩
    · have hk0 : zKd y = 0 ∧ zNp_ y = np := by unfold zMk at w2; simpa using w2
      have hsel : (Cond.selects (zyn y).cls (zyn y) (zyn y)).before args s = true := by
        have := zYs_all hy
        unfold zYs at this
        rw [if_pos hk0.1] at this
        exact hC.2.2.2.2.1 _ (zTW_in this rfl)
      have hinst : (Cond.instanceMethod (zyn y)).before args s = true := by
        have := zYk_all hy
        unfold zYk at this
        rw [if_neg (by rw [hk0.1]; omega)] at this
        exact hC.2.2.2.2.1 _ (zTW_in this rfl)
      have hlink : (Cond.methodLink (zcl (zcz z)) k (zyn y)).before args s = true := hC.2.2.2.2.1 _ (zTW_in w1 rfl)
      cases i <;> cases hi
      exact fin (va_runV (Ts := zTW) ⟨hC.1, hC.2.1, hC.2.2.1, hC.2.2.2.1, hC.2.2.2.2.1⟩ hM ⟨callB_of np hC.2.2.2.2.1 hG rfl rfl rfl hini hlink ⟨k6, k7, by rw [k4, hk0.2]⟩ hR, hinst, hsel⟩ ⟨hbl, hrcv, hpc⟩ rfl (by rw [List.length_map]; exact hnp) hO.2.2.1.1 hstk hW8 hd ⟨hr1, hr2⟩)
    · have hk0 : zKd y = 2 ∧ zNp_ y = np ∧ zrt y = none := by rcases hk23 with rfl | rfl <;> (unfold zMk at w2; simpa [and_assoc] using w2)
      have hinst : (Cond.instanceMethod (zyn y)).before args s = true := by
        have := zYk_all hy
        unfold zYk at this
        rw [if_neg (by rw [hk0.1]; omega)] at this
        exact hC.2.2.2.2.1 _ (zTW_in this rfl)
      have hnm0 : (zyn y).name = "<init>" := by
        have := k5
        rw [hk0.1] at this
        simpa using this.symm
      have hG0 : zYc y :: zTW = Cond.code (zyn y) (zcb y) (zmx y) none :: zTW := by unfold zYc; rw [hk0.2.2]
      have hps : PreS s H (va_Pc ((vr a :: As).map (zabs ad)) (fun U => zEnv D ca z0 Lx xs ad U ∧ zMem D ca z0 Lx xs ad θ μ U.heap)) (.ref (ad a) :: As.map (zabs ad)) := ⟨hbl, hpc⟩
      rcases hk23 with rfl | rfl
      · have hlink : (Cond.methodLink (zcl (zcz z)) k (zyn y)).before args s = true := hC.2.2.2.2.1 _ (zTW_in w1 rfl)
        cases i <;> cases hi
        exact fin (va_runI (Ts := zTW) ⟨hC.1, hC.2.1, hC.2.2.1, hC.2.2.2.1, hC.2.2.2.2.1⟩ hM ⟨callB_of np hC.2.2.2.2.1 hG hG0 rfl rfl hini hlink ⟨k6, k7, by rw [k4, hk0.2.1]⟩ hR, hnm0, hinst⟩ hps rfl (by rw [List.length_map]; exact hnp) hO.2.2.1.1 hstk hW8 hd ⟨hr1, hr2⟩)
      · have hlink : va_Nw (.methodLinkNest (zcl (zcz z)) k (zyn y) "GaleRoof") s := hE.2.1.1 _ (zNestW w1)
        cases i <;> cases hi
        exact fin (va_runIN (Ts := zTW) (host := "GaleRoof") ⟨hC.1, hC.2.1, hC.2.2.1, hC.2.2.2.1, hC.2.2.2.2.1⟩ hM ⟨va_cnB np hC.2.2.2.2.1 hG hG0 rfl rfl hlink hini ⟨k6, k7, by rw [k4, hk0.2.1]⟩ hR, hnm0, hinst⟩ hps rfl (by rw [List.length_map]; exact hnp) hO.2.2.1.1 hstk hW8 hd ⟨hr1, hr2⟩)
  · have hk0 : zKd y = 1 ∧ zNp_ y = np := by rcases hk with rfl | rfl <;> (unfold zMk at w2; simpa using w2)
    have hstat : (Cond.static (zyn y)).before args s = true := by
      have := zYk_all hy
      unfold zYk at this
      rw [if_pos hk0.1] at this
      exact hC.2.2.2.2.1 _ (zTW_in this rfl)
    subst hf
    rcases hk with rfl | rfl
    · have hlink : (Cond.methodLink (zcl (zcz z)) k (zyn y)).before args s = true := hC.2.2.2.2.1 _ (zTW_in w1 rfl)
      cases i <;> cases hi
      exact fin (va_runS (Ts := zTW) ⟨hC.1, hC.2.1, hC.2.2.1, hC.2.2.2.1, hC.2.2.2.2.1⟩ hM ⟨callB_of np hC.2.2.2.2.1 hG rfl rfl rfl hini hlink ⟨k6, k7, by rw [k4, hk0.2]⟩ hR, hstat⟩ ⟨hbl, hpc⟩ rfl (by rw [List.length_map]; exact hnp) hO.2.2.1.1 hmap hW8 hd ⟨hr1, hr2⟩)
    · have hlink : va_Nw (.methodLinkNest (zcl (zcz z)) k (zyn y) "GaleRoof") s := hE.2.1.1 _ (zNestW w1)
      cases i <;> cases hi
      exact fin (va_runSN (Ts := zTW) (host := "GaleRoof") ⟨hC.1, hC.2.1, hC.2.2.1, hC.2.2.2.1, hC.2.2.2.2.1⟩ hM ⟨va_cnB np hC.2.2.2.2.1 hG rfl rfl rfl hlink hini ⟨k6, k7, by rw [k4, hk0.2]⟩ hR, hstat, trivial⟩ ⟨hbl, hpc⟩ rfl (by rw [List.length_map]; exact hnp) hO.2.2.1.1 hmap hW8 hd ⟨hr1, hr2⟩)
end ZC
theorem zsim (hMN : zMN) (l : Launch) (D : va_G) (ca : FieldType → ClassId) (z0 Lx : Nat) (xs : Nat → Int32) : ∀ f, zSim l D ca z0 Lx xs f := by
  intro f
  induction f with
  | zero => intro d z pc L S θ μ v θ' μ' h; cases h
  | succ f ih =>
    intro d z pc L S θ μ v θ' μ' h p e R s m args below meth c H locs cells slots Q ad ls hC hE hO hrf hrl hr1 hr2 kk
    have hpre := zpre_le (zrun_pre _ h)
    rw [zrun_succ] at h
    cases hft : ft z pc with
    | none => simp only [hft] at h; cases h
    | some q =>
      obtain ⟨i, n⟩ := q
      simp only [hft] at h
      cases hr : zret z i S with
      | some v2 =>
        simp only [hr] at h
        cases h
        have h1 := kk ad H locs ls pc S i n (fun _ _ => rfl) hO.1 hO.2.1 hO.2.2.2.1 hft hr
        rw [Nat.sub_self, Nat.sub_self] at h1
        exact h1
      | none =>
        simp only [hr] at h
        cases hi : zinv i with
        | none =>
          simp only [hi] at h
          cases hs : zstep z i n pc L S θ μ with
          | none => simp only [hs] at h; cases h
          | some q =>
            obtain ⟨pc1, L1, S1, θ1, μ1⟩ := q
            simp only [hs] at h
            have hp1 := zpre_le (zstep_pre hs)
            have hp2 := zpre_le (zrun_pre _ h)
            dsimp only at hp2
            have hL1 : L1.length = L.length := zstep_len hs
            refine s_step hMN hC hE hO hft hs (by omega) (by omega) (fun ad1 H1 locs1 ls1 ha hO1 => ?_)
            refine ih d z pc1 L1 S1 θ1 μ1 v θ' μ' h p e R s m args below meth c H1 locs1 _ _ Q ad1 ls1 (by rw [hL1]; exact hC) (hE.ad (ha 0 (by have := hO.1.2.2.1; omega)) (ha 1 (by have := hO.1.2.2.1; omega))) hO1 hrf hrl (by omega) (by omega) (fun ad2 H2 locs2 ls2 pc2 S2 i2 n2 g1 g2 g3 g4 g5 g6 => ?_)
            have h1 := kk ad2 H2 locs2 ls2 pc2 S2 i2 n2 (fun b hb => by rw [g1 b (by omega), ha b hb]) g2 g3 g4 g5 g6
            rw [show cells + (θ1.1.length - θ.1.length) + (θ'.1.length - θ1.1.length) = cells + (θ'.1.length - θ.1.length) by omega, show slots + (zSl θ1 - zSl θ) + (zSl θ' - zSl θ1) = slots + (zSl θ' - zSl θ) by omega]
            exact h1
        | some kf =>
          obtain ⟨k, fm⟩ := kf
          simp only [hi] at h
          by_cases hn : n = 3
          · subst hn
            rw [if_pos rfl] at h
            cases hc : zcall z k fm S θ μ with
            | none => simp only [hc] at h; cases h
            | some q =>
              cases q with
              | inr q =>
                obtain ⟨S1, μ1⟩ := q
                simp only [hc] at h
                refine s_prim hC hE hO hft hi hc (by omega) (by omega) ⟨by omega, by omega⟩ (fun H1 locs1 ls1 hO1 => ?_)
                exact ih d z (pc + 3) L S1 θ μ1 v θ' μ' h p e R s m args below meth c H1 locs1 cells slots Q ad ls1 hC hE hO1 hrf hrl hr1 hr2 kk
              | inl q =>
                obtain ⟨y, av, S1⟩ := q
                simp only [hc] at h
                cases d with
                | zero => cases h
                | succ d1 =>
                  simp only at h
                  cases hk : zrun f d1 y 0 (zen (zmx y) av) [] θ μ with
                  | none => simp only [hk] at h; cases h
                  | some r1 =>
                    obtain ⟨v1, θ1, μ1⟩ := r1
                    simp only [hk] at h
                    have hp1 := zpre_le (zrun_pre _ hk)
                    have hp2 := zpre_le (zrun_pre _ h)
                    dsimp only at hp1 hp2
                    refine s_inv ih hC hE hO hft hi hc hk hrf hrl (by omega) (by omega) (fun ad1 H1 locs1 ha hO1 => ?_)
                    refine ih (d1 + 1) z (pc + 3) L (v1.toList ++ S1) θ1 μ1 v θ' μ' h p e R s m args below meth c H1 locs1 _ _ Q ad1 ls hC (hE.ad (ha 0 (by have := hO.1.2.2.1; omega)) (ha 1 (by have := hO.1.2.2.1; omega))) hO1 hrf hrl (by omega) (by omega) (fun ad2 H2 locs2 ls2 pc2 S2 i2 n2 g1 g2 g3 g4 g5 g6 => ?_)
                    have h1 := kk ad2 H2 locs2 ls2 pc2 S2 i2 n2 (fun b hb => by rw [g1 b (by omega), ha b hb]) g2 g3 g4 g5 g6
                    rw [show cells + (θ1.1.length - θ.1.length) + (θ'.1.length - θ1.1.length) = cells + (θ'.1.length - θ.1.length) by omega, show slots + (zSl θ1 - zSl θ) + (zSl θ' - zSl θ1) = slots + (zSl θ' - zSl θ) by omega]
                    exact h1
          · rw [if_neg hn] at h; cases h
