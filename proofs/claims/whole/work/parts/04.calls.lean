/-! LAWS OF THE MINI MACHINE: calls, branches, switches -/
section XC
variable {z pc k y np kd cy : Nat} (d : Nat) (L S : List zV) (θ : zS) (μ : zM) (Q : Option zV → zS → zM → Prop)
theorem zcall_recv {f : Nat} (As : List zV) {b : Nat} (hm : zmr (zcz z) k = some (kd, y, np)) (hf : (kd = 0 ∧ f = 0) ∨ ((kd = 2 ∨ kd = 3) ∧ f = 2)) (hn : As.length = np) (hok : As.all zok = true) (hfit : (zla (vr b :: As)).length ≤ zmx y) :
    zcall z k f (As.reverse ++ vr b :: S) θ μ = if zob θ b (zcz y) = true ∧ S.length ≤ 4 then some (.inl (y, vr b :: As, S)) else none := by
  have h1 : (As.reverse ++ vr b :: S).drop np = vr b :: S := by rw [← hn, ← List.length_reverse]; exact List.drop_left
  have h2 : (As.reverse ++ vr b :: S).take np = As.reverse := by rw [← hn, ← List.length_reverse]; exact List.take_left
  have h3 : As.reverse.all zok = true := by rw [List.all_reverse]; exact hok
  unfold zcall
  rw [hm]
  simp only [h1, h2, h3, hfit, List.reverse_reverse, and_true]
  rcases hf with ⟨rfl, rfl⟩ | ⟨rfl | rfl, rfl⟩ <;> simp
theorem X_rcv {f : Nat} {i : Instr} (As : List zV) {b : Nat} {S0 L0 : List zV} (h : ft z pc = some (i, 3)) (hr : zret z i S0 = none) (hi : zinv i = some (k, f)) (hm : zmr (zcz z) k = some (kd, y, np)) (hf : (kd = 0 ∧ f = 0) ∨ ((kd = 2 ∨ kd = 3) ∧ f = 2)) (hy : zcz y = cy)
    (hn : As.length = np) (hok : As.all zok = true) (hfit : (zla (vr b :: As)).length ≤ zmx y) (hS : As.reverse ++ vr b :: S = S0) (hL : zen (zmx y) (vr b :: As) = L0) :
    Ex d z pc L S0 θ μ Q = (zob θ b cy = true ∧ S.length ≤ 4 ∧ 0 < d ∧ Ex (d - 1) y 0 L0 [] θ μ (fun v θ' μ' => Ex d z (pc + 3) L (v.toList ++ S) θ' μ' Q)) := by
  subst hS; subst hL; subst hy
  have hc := zcall_recv (k := k) (z := z) S θ μ As (b := b) hm hf hn hok hfit
  by_cases ho : zob θ b (zcz y) = true ∧ S.length ≤ 4
  · rw [if_pos ho] at hc
    rw [Ex_call h hr hi hc]
    simp only [ho.1, ho.2, true_and]
  · rw [if_neg ho] at hc
    rw [Ex_cno h hr hi hc]
    apply propext
    exact ⟨fun q => q.elim, fun q => ho ⟨q.1, q.2.1⟩⟩
theorem X_virt (As : List zV) {b : Nat} {S0 L0 : List zV} (h : ft z pc = some (.invokevirtual k, 3)) (hm : zmr (zcz z) k = some (0, y, np)) (hy : zcz y = cy)
    (hn : As.length = np) (hok : As.all zok = true) (hfit : (zla (vr b :: As)).length ≤ zmx y) (hS : As.reverse ++ vr b :: S = S0) (hL : zen (zmx y) (vr b :: As) = L0) :
    Ex d z pc L S0 θ μ Q = (zob θ b cy = true ∧ S.length ≤ 4 ∧ 0 < d ∧ Ex (d - 1) y 0 L0 [] θ μ (fun v θ' μ' => Ex d z (pc + 3) L (v.toList ++ S) θ' μ' Q)) :=
  X_rcv d L S θ μ Q As h (by cases S0 <;> rfl) rfl hm (Or.inl ⟨rfl, rfl⟩) hy hn hok hfit hS hL
theorem X_spec (As : List zV) {b : Nat} {S0 L0 : List zV} (h : ft z pc = some (.invokespecial k, 3)) (hm : zmr (zcz z) k = some (kd, y, np)) (hk : kd = 2 ∨ kd = 3) (hy : zcz y = cy)
    (hn : As.length = np) (hok : As.all zok = true) (hfit : (zla (vr b :: As)).length ≤ zmx y) (hS : As.reverse ++ vr b :: S = S0) (hL : zen (zmx y) (vr b :: As) = L0) :
    Ex d z pc L S0 θ μ Q = (zob θ b cy = true ∧ S.length ≤ 4 ∧ 0 < d ∧ Ex (d - 1) y 0 L0 [] θ μ (fun v θ' μ' => Ex d z (pc + 3) L (v.toList ++ S) θ' μ' Q)) :=
  X_rcv d L S θ μ Q As h (by cases S0 <;> rfl) rfl hm (Or.inr ⟨hk, rfl⟩) hy hn hok hfit hS hL
theorem X_stat (As : List zV) {S0 L0 : List zV} (h : ft z pc = some (.invokestatic k, 3)) (hm : zmr (zcz z) k = some (kd, y, np)) (hk : kd = 1 ∨ kd = 4)
    (hn : As.length = np) (hok : As.all zok = true) (hfit : (zla As).length ≤ zmx y) (hS : As.reverse ++ S = S0) (hL : zen (zmx y) As = L0) :
    Ex d z pc L S0 θ μ Q = (S.length ≤ 4 ∧ 0 < d ∧ Ex (d - 1) y 0 L0 [] θ μ (fun v θ' μ' => Ex d z (pc + 3) L (v.toList ++ S) θ' μ' Q)) := by
  subst hS; subst hL
  have h1 : (As.reverse ++ S).drop np = S := by rw [← hn, ← List.length_reverse]; exact List.drop_left
  have h2 : (As.reverse ++ S).take np = As.reverse := by rw [← hn, ← List.length_reverse]; exact List.take_left
  have h3 : As.reverse.all zok = true := by rw [List.all_reverse]; exact hok
  have h4 : np ≤ (As.reverse ++ S).length := by rw [← hn]; simp
  have hc : zcall z k 1 (As.reverse ++ S) θ μ = if S.length ≤ 4 then some (.inl (y, As, S)) else none := by
    unfold zcall
    rw [hm]
    simp only [h1, h2, h3, h4, hfit, List.reverse_reverse, and_true, true_and]
    rcases hk with rfl | rfl <;> simp
  by_cases ho : S.length ≤ 4
  · rw [if_pos ho] at hc
    rw [Ex_call h (by cases (As.reverse ++ S) <;> rfl) rfl hc]
    simp only [ho, true_and]
  · rw [if_neg ho] at hc
    rw [Ex_cno h (by cases (As.reverse ++ S) <;> rfl) rfl hc]
    apply propext
    exact ⟨fun q => q.elim, fun q => ho q.1⟩
theorem X_obj {a : Nat} (h : ft z pc = some (.invokespecial k, 3)) (hm : zmr (zcz z) k = some (5, 0, 0)) : Ex d z pc L (vr a :: S) θ μ Q = (S.length ≤ 4 ∧ Ex d z (pc + 3) L S θ μ Q) := by
  by_cases ho : S.length ≤ 4
  · rw [Ex_prim (S := vr a :: S) (S' := S) (μ' := μ) h rfl rfl (by unfold zcall; rw [hm]; simp [ho])]
    simp only [ho, true_and]
  · rw [Ex_cno (S := vr a :: S) h rfl rfl (by unfold zcall; rw [hm]; simp [ho])]
    simp only [ho, false_and]
theorem X_slen (h : ft z pc = some (.invokevirtual k, 3)) (hm : zmr (zcz z) k = some (7, 0, 0)) : Ex d z pc L (vr 0 :: S) θ μ Q = (S.length ≤ 4 ∧ Ex d z (pc + 3) L (vi zStr.length :: S) θ μ Q) := by
  by_cases ho : S.length ≤ 4
  · rw [Ex_prim (S := vr 0 :: S) (S' := vi zStr.length :: S) (μ' := μ) h rfl rfl (by unfold zcall; rw [hm]; simp [ho])]
    simp only [ho, true_and]
  · rw [Ex_cno (S := vr 0 :: S) h rfl rfl (by unfold zcall; rw [hm]; simp [ho])]
    simp only [ho, false_and]
theorem X_char {i : Int} (h : ft z pc = some (.invokevirtual k, 3)) (hm : zmr (zcz z) k = some (8, 0, 1)) : Ex d z pc L (vi i :: vr 0 :: S) θ μ Q = ((S.length ≤ 4 ∧ 0 ≤ i ∧ i < zStr.length) ∧ Ex d z (pc + 3) L (vi (zStr.getD i.toNat 0) :: S) θ μ Q) := by
  by_cases ho : S.length ≤ 4 ∧ 0 ≤ i ∧ i < zStr.length
  · rw [Ex_prim (S := vi i :: vr 0 :: S) (S' := vi (zStr.getD i.toNat 0) :: S) (μ' := μ) h rfl rfl (by unfold zcall; rw [hm]; simp [ho])]
    simp only [ho, true_and]
  · rw [Ex_cno (S := vi i :: vr 0 :: S) h rfl rfl (by unfold zcall; rw [hm]; simp; exact fun a b => by omega)]
    simp only [ho, false_and]
theorem X_copy {m t s : Int} {a b : Nat} (h : ft z pc = some (.invokestatic k, 3)) (hm : zmr (zcz z) k = some (6, 0, 5)) : Ex d z pc L (vi m :: vi t :: vr b :: vi s :: vr a :: S) θ μ Q =
    ((S.length ≤ 4 ∧ 2 ≤ a ∧ 2 ≤ b ∧ 0 ≤ m ∧ 0 ≤ s ∧ 0 ≤ t ∧ (zix θ .int a (s + m - 1) = true ∧ zix θ .int b (t + m - 1) = true) ∧ zix θ .int a 0 = true ∧ zix θ .int b 0 = true) ∧ Ex d z (pc + 3) L S θ (zcopy μ a s.toNat b t.toNat m.toNat) Q) := by
  by_cases ho : S.length ≤ 4 ∧ 2 ≤ a ∧ 2 ≤ b ∧ 0 ≤ m ∧ 0 ≤ s ∧ 0 ≤ t ∧ (zix θ .int a (s + m - 1) = true ∧ zix θ .int b (t + m - 1) = true) ∧ zix θ .int a 0 = true ∧ zix θ .int b 0 = true
  · rw [Ex_prim (S := vi m :: vi t :: vr b :: vi s :: vr a :: S) (S' := S) (μ' := zcopy μ a s.toNat b t.toNat m.toNat) h rfl rfl (by unfold zcall; rw [hm]; simp only [show ¬ ((6 : Nat) = 0 ∧ (1 : Nat) = 0) by decide, show ¬ (((6 : Nat) = 2 ∨ (6 : Nat) = 3) ∧ (1 : Nat) = 2) by decide, show ¬ ((6 : Nat) = 1 ∨ (6 : Nat) = 4) by decide, false_and, show ¬ ((6 : Nat) = 5 ∧ (1 : Nat) = 2) by decide, if_false]; simp only [and_self, if_true]; rw [if_pos ho])]
    simp only [ho, true_and]
  · rw [Ex_cno (S := vi m :: vi t :: vr b :: vi s :: vr a :: S) h rfl rfl (by unfold zcall; rw [hm]; simp only [show ¬ ((6 : Nat) = 0 ∧ (1 : Nat) = 0) by decide, show ¬ (((6 : Nat) = 2 ∨ (6 : Nat) = 3) ∧ (1 : Nat) = 2) by decide, show ¬ ((6 : Nat) = 1 ∨ (6 : Nat) = 4) by decide, false_and, show ¬ ((6 : Nat) = 5 ∧ (1 : Nat) = 2) by decide, if_false]; simp only [and_self, if_true]; rw [if_neg ho])]
    simp only [ho, false_and]
variable {n : Nat} {x w : Int} {off : Int} {tgt : Nat}
theorem X_if_eq (h : ft z pc = some (.ifCond .eq off, n)) (h0 : 0 ≤ (pc : Int) + off) (ht : zjmp pc off = tgt) : Ex d z pc L (vi x :: S) θ μ Q = (if x = 0 then Ex d z tgt L S θ μ Q else Ex d z (pc + n) L S θ μ Q) := by
  rw [X_if d L S θ μ Q h h0 ht]; simp only [zcond, decide_eq_true_eq]
theorem X_if_ne (h : ft z pc = some (.ifCond .ne off, n)) (h0 : 0 ≤ (pc : Int) + off) (ht : zjmp pc off = tgt) : Ex d z pc L (vi x :: S) θ μ Q = (if x ≠ 0 then Ex d z tgt L S θ μ Q else Ex d z (pc + n) L S θ μ Q) := by
  rw [X_if d L S θ μ Q h h0 ht]; simp only [zcond, decide_eq_true_eq]
theorem X_if_lt (h : ft z pc = some (.ifCond .lt off, n)) (h0 : 0 ≤ (pc : Int) + off) (ht : zjmp pc off = tgt) : Ex d z pc L (vi x :: S) θ μ Q = (if x < 0 then Ex d z tgt L S θ μ Q else Ex d z (pc + n) L S θ μ Q) := by
  rw [X_if d L S θ μ Q h h0 ht]; simp only [zcond, decide_eq_true_eq]
theorem X_if_ge (h : ft z pc = some (.ifCond .ge off, n)) (h0 : 0 ≤ (pc : Int) + off) (ht : zjmp pc off = tgt) : Ex d z pc L (vi x :: S) θ μ Q = (if 0 ≤ x then Ex d z tgt L S θ μ Q else Ex d z (pc + n) L S θ μ Q) := by
  rw [X_if d L S θ μ Q h h0 ht]; simp only [zcond, decide_eq_true_eq]
theorem X_if_gt (h : ft z pc = some (.ifCond .gt off, n)) (h0 : 0 ≤ (pc : Int) + off) (ht : zjmp pc off = tgt) : Ex d z pc L (vi x :: S) θ μ Q = (if 0 < x then Ex d z tgt L S θ μ Q else Ex d z (pc + n) L S θ μ Q) := by
  rw [X_if d L S θ μ Q h h0 ht]; simp only [zcond, decide_eq_true_eq]
theorem X_if_le (h : ft z pc = some (.ifCond .le off, n)) (h0 : 0 ≤ (pc : Int) + off) (ht : zjmp pc off = tgt) : Ex d z pc L (vi x :: S) θ μ Q = (if x ≤ 0 then Ex d z tgt L S θ μ Q else Ex d z (pc + n) L S θ μ Q) := by
  rw [X_if d L S θ μ Q h h0 ht]; simp only [zcond, decide_eq_true_eq]
theorem X_ic_eq (h : ft z pc = some (.if_icmp .eq off, n)) (h0 : 0 ≤ (pc : Int) + off) (ht : zjmp pc off = tgt) : Ex d z pc L (vi w :: vi x :: S) θ μ Q = (if x = w then Ex d z tgt L S θ μ Q else Ex d z (pc + n) L S θ μ Q) := by
  rw [X_icmp d L S θ μ Q h h0 ht]; simp only [zcond, decide_eq_true_eq]
theorem X_ic_ne (h : ft z pc = some (.if_icmp .ne off, n)) (h0 : 0 ≤ (pc : Int) + off) (ht : zjmp pc off = tgt) : Ex d z pc L (vi w :: vi x :: S) θ μ Q = (if x ≠ w then Ex d z tgt L S θ μ Q else Ex d z (pc + n) L S θ μ Q) := by
  rw [X_icmp d L S θ μ Q h h0 ht]; simp only [zcond, decide_eq_true_eq]
theorem X_ic_lt (h : ft z pc = some (.if_icmp .lt off, n)) (h0 : 0 ≤ (pc : Int) + off) (ht : zjmp pc off = tgt) : Ex d z pc L (vi w :: vi x :: S) θ μ Q = (if x < w then Ex d z tgt L S θ μ Q else Ex d z (pc + n) L S θ μ Q) := by
  rw [X_icmp d L S θ μ Q h h0 ht]; simp only [zcond, decide_eq_true_eq]
theorem X_ic_ge (h : ft z pc = some (.if_icmp .ge off, n)) (h0 : 0 ≤ (pc : Int) + off) (ht : zjmp pc off = tgt) : Ex d z pc L (vi w :: vi x :: S) θ μ Q = (if w ≤ x then Ex d z tgt L S θ μ Q else Ex d z (pc + n) L S θ μ Q) := by
  rw [X_icmp d L S θ μ Q h h0 ht]; simp only [zcond, decide_eq_true_eq]
theorem X_ic_gt (h : ft z pc = some (.if_icmp .gt off, n)) (h0 : 0 ≤ (pc : Int) + off) (ht : zjmp pc off = tgt) : Ex d z pc L (vi w :: vi x :: S) θ μ Q = (if w < x then Ex d z tgt L S θ μ Q else Ex d z (pc + n) L S θ μ Q) := by
  rw [X_icmp d L S θ μ Q h h0 ht]; simp only [zcond, decide_eq_true_eq]
theorem X_ic_le (h : ft z pc = some (.if_icmp .le off, n)) (h0 : 0 ≤ (pc : Int) + off) (ht : zjmp pc off = tgt) : Ex d z pc L (vi w :: vi x :: S) θ μ Q = (if x ≤ w then Ex d z tgt L S θ μ Q else Ex d z (pc + n) L S θ μ Q) := by
  rw [X_icmp d L S θ μ Q h h0 ht]; simp only [zcond, decide_eq_true_eq]
theorem X_mna {m l : Int} (h : ft z pc = some (.multianewarray k 2, n)) (hk : zcz z = 5 ∧ k = 9) : Ex d z pc L (vi m :: vi l :: S) θ μ Q = ((0 ≤ m ∧ m ≤ 4096 ∧ 0 ≤ l ∧ l ≤ 4096) ∧ Ex d z (pc + n) L (vr θ.1.length :: S)
    (θ.1 ++ (.inr (.array .int, l.toNat) :: List.replicate l.toNat (.inr (.int, m.toNat))), fun b j => if θ.1.length ≤ b then (if b = θ.1.length ∧ j < l.toNat then some (b + 1 + j) else none) else θ.2 b j) (zm0 μ θ.1.length) Q) := by
  by_cases ho : 0 ≤ m ∧ m ≤ 4096 ∧ 0 ≤ l ∧ l ≤ 4096
  · rw [Ex_to (S := vi m :: vi l :: S) h rfl rfl (by simp only [zstep]; rw [if_pos ⟨hk.1, hk.2, ho⟩])]; simp only [ho, true_and, and_self]
  · rw [Ex_no (S := vi m :: vi l :: S) h rfl rfl (by simp only [zstep]; rw [if_neg (fun q => ho q.2.2)])]; simp only [ho, false_and]
theorem X_lsw {dflt : Int} {ps : Array (Int × Int)} (h : ft z pc = some (.lookupswitch dflt ps, n)) (hp : (ps.toList.zip (ps.toList.drop 1)).all (fun (a, next) => a.1 < next.1) = true) (h0 : 0 ≤ (pc : Int) + Op.lookupswitch.offset ps.toList dflt x) (ht : zjmp pc (Op.lookupswitch.offset ps.toList dflt x) = tgt) : Ex d z pc L (vi x :: S) θ μ Q = Ex d z tgt L S θ μ Q := by
  subst ht
  exact Ex_to (S := vi x :: S) h rfl rfl (by simp only [zstep]; rw [if_pos ⟨hp, h0⟩])
end XC
