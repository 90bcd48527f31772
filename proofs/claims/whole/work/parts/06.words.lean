/-! the tables' words behind the mini machine's tables, by their places (printed by program) -/
theorem zin_r {ws : List Cond} (ps : List Nat) (hp : ws = ps.filterMap (fun i => lw_tbl[i]?)) (h : ws.all goodWord = true) : ∀ w ∈ ws, w ∈ zTW := by
  intro w hw
  have h1 := List.all_eq_true.mp h w hw
  rw [hp] at hw
  obtain ⟨i, -, hi⟩ := List.mem_filterMap.mp hw
  exact zTW_at i hi h1
theorem zin_m {α : Type} {l : List α} {f : α → Cond} (ps : List Nat) (hp : l.map f = ps.filterMap (fun i => lw_tbl[i]?)) : ∀ x ∈ l, f x ∈ lw_tbl := by
  intro x hx
  have h1 : f x ∈ l.map f := List.mem_map.mpr ⟨x, hx, rfl⟩
  rw [hp] at h1
  obtain ⟨i, -, hi⟩ := List.mem_filterMap.mp h1
  exact List.mem_of_getElem? hi
theorem getD_range {α : Type} {l : List (List α)} {n c : Nat} {x : α} (hl : l.length = n) (h : x ∈ l.getD c []) : c < n := by
  rw [← hl]
  apply Nat.lt_of_not_le
  intro hc
  rw [List.getD_eq_getElem?_getD, List.getElem?_eq_none hc] at h
  cases h
set_option maxRecDepth 100000 in
theorem inX0 : ∀ w ∈ u_ws RX0 TX0 3, w ∈ zTW := zin_r [606, 608, 610] rfl rfl
set_option maxRecDepth 100000 in
theorem inX1 : ∀ w ∈ u_ws RX1 TX1 15, w ∈ zTW := zin_r [395, 397, 399, 401, 403, 405, 407, 409, 411, 413, 415, 417, 419, 421, 423] rfl rfl
set_option maxRecDepth 100000 in
theorem inX2 : ∀ w ∈ u_ws RX2 TX2 2, w ∈ zTW := zin_r [243, 245] rfl rfl
set_option maxRecDepth 100000 in
theorem inX3 : ∀ w ∈ u_ws RX3 TX3 11, w ∈ zTW := zin_r [572, 574, 576, 578, 580, 582, 584, 586, 588, 590, 592] rfl rfl
set_option maxRecDepth 100000 in
theorem inX4 : ∀ w ∈ u_ws RX4 TX4 7, w ∈ zTW := zin_r [531, 533, 535, 537, 539, 541, 543] rfl rfl
set_option maxRecDepth 100000 in
theorem inX5 : ∀ w ∈ u_ws RX5 TX5 4, w ∈ zTW := zin_r [457, 459, 461, 463] rfl rfl
set_option maxRecDepth 100000 in
theorem inX6 : ∀ w ∈ u_ws RX6 TX6 10, w ∈ zTW := zin_r [496, 498, 500, 502, 504, 506, 508, 510, 512, 514] rfl rfl
set_option maxRecDepth 100000 in
theorem inX7 : ∀ w ∈ u_ws RX7 TX7 8, w ∈ zTW := zin_r [212, 214, 216, 218, 220, 222, 224, 226] rfl rfl
set_option maxRecDepth 100000 in
theorem inX8 : ∀ w ∈ u_ws RX8 TX8 9, w ∈ zTW := zin_r [635, 637, 639, 641, 643, 645, 647, 649, 651] rfl rfl
set_option maxRecDepth 100000 in
theorem inX9 : ∀ w ∈ u_ws RX9 TX9 17, w ∈ zTW := zin_r [323, 325, 327, 329, 331, 333, 335, 337, 339, 341, 343, 345, 347, 349, 351, 353, 355] rfl rfl
set_option maxRecDepth 100000 in
theorem inX10 : ∀ w ∈ u_ws RX10 TX10 13, w ∈ zTW := zin_r [680, 682, 684, 686, 688, 690, 692, 694, 696, 698, 700, 702, 704] rfl rfl
set_option maxRecDepth 100000 in
theorem inX11 : ∀ w ∈ u_ws RX11 TX11 13, w ∈ zTW := zin_r [754, 756, 758, 760, 762, 764, 766, 768, 770, 772, 774, 776, 778] rfl rfl
set_option maxRecDepth 100000 in
theorem inX12 : ∀ w ∈ u_ws RX12 TX12 100, w ∈ zTW := zin_r [1537, 1539, 1541, 1543, 1545, 1547, 1549, 1551, 1553, 1555, 1557, 1559, 1561, 1563, 1565, 1567, 1569, 1571, 1573, 1575, 1577, 1579, 1581, 1583, 1585, 1587, 1589, 1591, 1593, 1595, 1597, 1599, 1601, 1603, 1605, 1607, 1609, 1611, 1613, 1615, 1617, 1619, 1621, 1623, 1625, 1627, 1629, 1631, 1633, 1635, 1637, 1639, 1641, 1643, 1645, 1647, 1649, 1651, 1653, 1655, 1657, 1659, 1661, 1663, 1665, 1667, 1669, 1671, 1673, 1675, 1677, 1679, 1681, 1683, 1685, 1687, 1689, 1691, 1693, 1695, 1697, 1699, 1701, 1703, 1705, 1707, 1709, 1711, 1713, 1715, 1717, 1719, 1721, 1723, 1725, 1727, 1729, 1731, 1733, 1735] rfl rfl
/-- what is known of a class of objects -/
def zCok (ci : Nat) : Prop := ∃ (C : String) (T : u_T) (N : Nat) (ty0 : Nat → FieldType), vwCl[ci]? = some (C, T, N) ∧ N = (zFk.getD ci []).length ∧ (∀ w ∈ u_ws C T N, w ∈ zTW) ∧ (∀ k, k < N → parseFieldDescriptor (T k).2.2.1 = some (ty0 k)) ∧
  (∀ a, a < N → ∀ b, b < N → a ≠ b → (T a).2.1 ≠ (T b).2.1) ∧
  (∀ k, k < N → (T k).1 = C ∧ (T k).2.2.2 = decide (10 ≤ zfk ci k) ∧ ((zfk ci k % 10 = 0 ∧ ty0 k = .int) ∨ (zfk ci k % 10 = 3 ∧ ty0 k = .boolean) ∨ (zfk ci k % 10 = 1 ∧ ty0 k = .long) ∨ (zfk ci k % 10 = 2 ∧ ∃ q, ty0 k = .object q ∨ ∃ q, ty0 k = .array q))) ∧ zcl ci = C
set_option maxRecDepth 100000 in
theorem zCf_0 : ∀ k, k < 3 → (TX0 k).1 = RX0 ∧ (TX0 k).2.2.2 = decide (10 ≤ zfk 0 k) ∧ ((zfk 0 k % 10 = 0 ∧ tyX0 k = .int) ∨ (zfk 0 k % 10 = 3 ∧ tyX0 k = .boolean) ∨ (zfk 0 k % 10 = 1 ∧ tyX0 k = .long) ∨ (zfk 0 k % 10 = 2 ∧ ∃ q, tyX0 k = .object q ∨ ∃ q, tyX0 k = .array q)) := by
  intro k hk
  match k, hk with
  | 0, _ => exact ⟨rfl, rfl, Or.inr (Or.inr (Or.inr ⟨rfl, "GaleRoof$Gale", Or.inl rfl⟩))⟩
  | 1, _ => exact ⟨rfl, rfl, Or.inr (Or.inr (Or.inr ⟨rfl, "GaleRoof$Scene", Or.inl rfl⟩))⟩
  | 2, _ => exact ⟨rfl, rfl, Or.inr (Or.inr (Or.inr ⟨rfl, "GaleRoof$Roof", Or.inl rfl⟩))⟩
  | k + 3, h => exact absurd h (by omega)
theorem zCok_0 : zCok 0 := ⟨RX0, TX0, 3, tyX0, rfl, rfl, inX0, tyX0_ok, nmX0, zCf_0, rfl⟩
set_option maxRecDepth 100000 in
theorem zCf_1 : ∀ k, k < 15 → (TX1 k).1 = RX1 ∧ (TX1 k).2.2.2 = decide (10 ≤ zfk 1 k) ∧ ((zfk 1 k % 10 = 0 ∧ tyX1 k = .int) ∨ (zfk 1 k % 10 = 3 ∧ tyX1 k = .boolean) ∨ (zfk 1 k % 10 = 1 ∧ tyX1 k = .long) ∨ (zfk 1 k % 10 = 2 ∧ ∃ q, tyX1 k = .object q ∨ ∃ q, tyX1 k = .array q)) := by
  intro k hk
  match k, hk with
  | 0, _ => exact ⟨rfl, rfl, Or.inr (Or.inr (Or.inr ⟨rfl, "", Or.inr ⟨_, rfl⟩⟩))⟩
  | 1, _ => exact ⟨rfl, rfl, Or.inr (Or.inr (Or.inr ⟨rfl, "", Or.inr ⟨_, rfl⟩⟩))⟩
  | 2, _ => exact ⟨rfl, rfl, Or.inr (Or.inr (Or.inr ⟨rfl, "", Or.inr ⟨_, rfl⟩⟩))⟩
  | 3, _ => exact ⟨rfl, rfl, Or.inl ⟨rfl, rfl⟩⟩
  | 4, _ => exact ⟨rfl, rfl, Or.inl ⟨rfl, rfl⟩⟩
  | 5, _ => exact ⟨rfl, rfl, Or.inl ⟨rfl, rfl⟩⟩
  | 6, _ => exact ⟨rfl, rfl, Or.inl ⟨rfl, rfl⟩⟩
  | 7, _ => exact ⟨rfl, rfl, Or.inl ⟨rfl, rfl⟩⟩
  | 8, _ => exact ⟨rfl, rfl, Or.inr (Or.inr (Or.inr ⟨rfl, "GaleRoof$Told", Or.inl rfl⟩))⟩
  | 9, _ => exact ⟨rfl, rfl, Or.inr (Or.inr (Or.inr ⟨rfl, "GaleRoof$Machine", Or.inl rfl⟩))⟩
  | 10, _ => exact ⟨rfl, rfl, Or.inr (Or.inr (Or.inr ⟨rfl, "", Or.inr ⟨_, rfl⟩⟩))⟩
  | 11, _ => exact ⟨rfl, rfl, Or.inr (Or.inr (Or.inr ⟨rfl, "", Or.inr ⟨_, rfl⟩⟩))⟩
  | 12, _ => exact ⟨rfl, rfl, Or.inl ⟨rfl, rfl⟩⟩
  | 13, _ => exact ⟨rfl, rfl, Or.inl ⟨rfl, rfl⟩⟩
  | 14, _ => exact ⟨rfl, rfl, Or.inl ⟨rfl, rfl⟩⟩
  | k + 15, h => exact absurd h (by omega)
theorem zCok_1 : zCok 1 := ⟨RX1, TX1, 15, tyX1, rfl, rfl, inX1, tyX1_ok, nmX1, zCf_1, rfl⟩
set_option maxRecDepth 100000 in
theorem zCf_2 : ∀ k, k < 2 → (TX2 k).1 = RX2 ∧ (TX2 k).2.2.2 = decide (10 ≤ zfk 2 k) ∧ ((zfk 2 k % 10 = 0 ∧ tyX2 k = .int) ∨ (zfk 2 k % 10 = 3 ∧ tyX2 k = .boolean) ∨ (zfk 2 k % 10 = 1 ∧ tyX2 k = .long) ∨ (zfk 2 k % 10 = 2 ∧ ∃ q, tyX2 k = .object q ∨ ∃ q, tyX2 k = .array q)) := by
  intro k hk
  match k, hk with
  | 0, _ => exact ⟨rfl, rfl, Or.inr (Or.inr (Or.inr ⟨rfl, "", Or.inr ⟨_, rfl⟩⟩))⟩
  | 1, _ => exact ⟨rfl, rfl, Or.inr (Or.inr (Or.inr ⟨rfl, "", Or.inr ⟨_, rfl⟩⟩))⟩
  | k + 2, h => exact absurd h (by omega)
theorem zCok_2 : zCok 2 := ⟨RX2, TX2, 2, tyX2, rfl, rfl, inX2, tyX2_ok, nmX2, zCf_2, rfl⟩
set_option maxRecDepth 100000 in
theorem zCf_3 : ∀ k, k < 11 → (TX3 k).1 = RX3 ∧ (TX3 k).2.2.2 = decide (10 ≤ zfk 3 k) ∧ ((zfk 3 k % 10 = 0 ∧ tyX3 k = .int) ∨ (zfk 3 k % 10 = 3 ∧ tyX3 k = .boolean) ∨ (zfk 3 k % 10 = 1 ∧ tyX3 k = .long) ∨ (zfk 3 k % 10 = 2 ∧ ∃ q, tyX3 k = .object q ∨ ∃ q, tyX3 k = .array q)) := by
  intro k hk
  match k, hk with
  | 0, _ => exact ⟨rfl, rfl, Or.inr (Or.inr (Or.inr ⟨rfl, "", Or.inr ⟨_, rfl⟩⟩))⟩
  | 1, _ => exact ⟨rfl, rfl, Or.inr (Or.inr (Or.inr ⟨rfl, "", Or.inr ⟨_, rfl⟩⟩))⟩
  | 2, _ => exact ⟨rfl, rfl, Or.inl ⟨rfl, rfl⟩⟩
  | 3, _ => exact ⟨rfl, rfl, Or.inl ⟨rfl, rfl⟩⟩
  | 4, _ => exact ⟨rfl, rfl, Or.inl ⟨rfl, rfl⟩⟩
  | 5, _ => exact ⟨rfl, rfl, Or.inl ⟨rfl, rfl⟩⟩
  | 6, _ => exact ⟨rfl, rfl, Or.inr (Or.inr (Or.inr ⟨rfl, "GaleRoof$Gale", Or.inl rfl⟩))⟩
  | 7, _ => exact ⟨rfl, rfl, Or.inr (Or.inr (Or.inr ⟨rfl, "GaleRoof$Scene", Or.inl rfl⟩))⟩
  | 8, _ => exact ⟨rfl, rfl, Or.inr (Or.inr (Or.inr ⟨rfl, "GaleRoof$Roof", Or.inl rfl⟩))⟩
  | 9, _ => exact ⟨rfl, rfl, Or.inl ⟨rfl, rfl⟩⟩
  | 10, _ => exact ⟨rfl, rfl, Or.inl ⟨rfl, rfl⟩⟩
  | k + 11, h => exact absurd h (by omega)
theorem zCok_3 : zCok 3 := ⟨RX3, TX3, 11, tyX3, rfl, rfl, inX3, tyX3_ok, nmX3, zCf_3, rfl⟩
set_option maxRecDepth 100000 in
theorem zCf_4 : ∀ k, k < 7 → (TX4 k).1 = RX4 ∧ (TX4 k).2.2.2 = decide (10 ≤ zfk 4 k) ∧ ((zfk 4 k % 10 = 0 ∧ tyX4 k = .int) ∨ (zfk 4 k % 10 = 3 ∧ tyX4 k = .boolean) ∨ (zfk 4 k % 10 = 1 ∧ tyX4 k = .long) ∨ (zfk 4 k % 10 = 2 ∧ ∃ q, tyX4 k = .object q ∨ ∃ q, tyX4 k = .array q)) := by
  intro k hk
  match k, hk with
  | 0, _ => exact ⟨rfl, rfl, Or.inl ⟨rfl, rfl⟩⟩
  | 1, _ => exact ⟨rfl, rfl, Or.inr (Or.inr (Or.inr ⟨rfl, "GaleRoof$Tape", Or.inl rfl⟩))⟩
  | 2, _ => exact ⟨rfl, rfl, Or.inr (Or.inr (Or.inr ⟨rfl, "GaleRoof$Told", Or.inl rfl⟩))⟩
  | 3, _ => exact ⟨rfl, rfl, Or.inl ⟨rfl, rfl⟩⟩
  | 4, _ => exact ⟨rfl, rfl, Or.inl ⟨rfl, rfl⟩⟩
  | 5, _ => exact ⟨rfl, rfl, Or.inl ⟨rfl, rfl⟩⟩
  | 6, _ => exact ⟨rfl, rfl, Or.inl ⟨rfl, rfl⟩⟩
  | k + 7, h => exact absurd h (by omega)
theorem zCok_4 : zCok 4 := ⟨RX4, TX4, 7, tyX4, rfl, rfl, inX4, tyX4_ok, nmX4, zCf_4, rfl⟩
set_option maxRecDepth 100000 in
theorem zCf_5 : ∀ k, k < 4 → (TX5 k).1 = RX5 ∧ (TX5 k).2.2.2 = decide (10 ≤ zfk 5 k) ∧ ((zfk 5 k % 10 = 0 ∧ tyX5 k = .int) ∨ (zfk 5 k % 10 = 3 ∧ tyX5 k = .boolean) ∨ (zfk 5 k % 10 = 1 ∧ tyX5 k = .long) ∨ (zfk 5 k % 10 = 2 ∧ ∃ q, tyX5 k = .object q ∨ ∃ q, tyX5 k = .array q)) := by
  intro k hk
  match k, hk with
  | 0, _ => exact ⟨rfl, rfl, Or.inr (Or.inr (Or.inr ⟨rfl, "", Or.inr ⟨_, rfl⟩⟩))⟩
  | 1, _ => exact ⟨rfl, rfl, Or.inl ⟨rfl, rfl⟩⟩
  | 2, _ => exact ⟨rfl, rfl, Or.inl ⟨rfl, rfl⟩⟩
  | 3, _ => exact ⟨rfl, rfl, Or.inr (Or.inl ⟨rfl, rfl⟩)⟩
  | k + 4, h => exact absurd h (by omega)
theorem zCok_5 : zCok 5 := ⟨RX5, TX5, 4, tyX5, rfl, rfl, inX5, tyX5_ok, nmX5, zCf_5, rfl⟩
set_option maxRecDepth 100000 in
theorem zCf_6 : ∀ k, k < 10 → (TX6 k).1 = RX6 ∧ (TX6 k).2.2.2 = decide (10 ≤ zfk 6 k) ∧ ((zfk 6 k % 10 = 0 ∧ tyX6 k = .int) ∨ (zfk 6 k % 10 = 3 ∧ tyX6 k = .boolean) ∨ (zfk 6 k % 10 = 1 ∧ tyX6 k = .long) ∨ (zfk 6 k % 10 = 2 ∧ ∃ q, tyX6 k = .object q ∨ ∃ q, tyX6 k = .array q)) := by
  intro k hk
  match k, hk with
  | 0, _ => exact ⟨rfl, rfl, Or.inr (Or.inr (Or.inr ⟨rfl, "GaleRoof$Roof", Or.inl rfl⟩))⟩
  | 1, _ => exact ⟨rfl, rfl, Or.inr (Or.inr (Or.inr ⟨rfl, "", Or.inr ⟨_, rfl⟩⟩))⟩
  | 2, _ => exact ⟨rfl, rfl, Or.inr (Or.inr (Or.inr ⟨rfl, "", Or.inr ⟨_, rfl⟩⟩))⟩
  | 3, _ => exact ⟨rfl, rfl, Or.inr (Or.inr (Or.inr ⟨rfl, "", Or.inr ⟨_, rfl⟩⟩))⟩
  | 4, _ => exact ⟨rfl, rfl, Or.inr (Or.inr (Or.inr ⟨rfl, "", Or.inr ⟨_, rfl⟩⟩))⟩
  | 5, _ => exact ⟨rfl, rfl, Or.inr (Or.inr (Or.inr ⟨rfl, "", Or.inr ⟨_, rfl⟩⟩))⟩
  | 6, _ => exact ⟨rfl, rfl, Or.inr (Or.inr (Or.inr ⟨rfl, "", Or.inr ⟨_, rfl⟩⟩))⟩
  | 7, _ => exact ⟨rfl, rfl, Or.inl ⟨rfl, rfl⟩⟩
  | 8, _ => exact ⟨rfl, rfl, Or.inl ⟨rfl, rfl⟩⟩
  | 9, _ => exact ⟨rfl, rfl, Or.inr (Or.inl ⟨rfl, rfl⟩)⟩
  | k + 10, h => exact absurd h (by omega)
theorem zCok_6 : zCok 6 := ⟨RX6, TX6, 10, tyX6, rfl, rfl, inX6, tyX6_ok, nmX6, zCf_6, rfl⟩
set_option maxRecDepth 100000 in
theorem zCf_7 : ∀ k, k < 8 → (TX7 k).1 = RX7 ∧ (TX7 k).2.2.2 = decide (10 ≤ zfk 7 k) ∧ ((zfk 7 k % 10 = 0 ∧ tyX7 k = .int) ∨ (zfk 7 k % 10 = 3 ∧ tyX7 k = .boolean) ∨ (zfk 7 k % 10 = 1 ∧ tyX7 k = .long) ∨ (zfk 7 k % 10 = 2 ∧ ∃ q, tyX7 k = .object q ∨ ∃ q, tyX7 k = .array q)) := by
  intro k hk
  match k, hk with
  | 0, _ => exact ⟨rfl, rfl, Or.inr (Or.inr (Or.inr ⟨rfl, "", Or.inr ⟨_, rfl⟩⟩))⟩
  | 1, _ => exact ⟨rfl, rfl, Or.inr (Or.inr (Or.inr ⟨rfl, "", Or.inr ⟨_, rfl⟩⟩))⟩
  | 2, _ => exact ⟨rfl, rfl, Or.inr (Or.inr (Or.inr ⟨rfl, "", Or.inr ⟨_, rfl⟩⟩))⟩
  | 3, _ => exact ⟨rfl, rfl, Or.inl ⟨rfl, rfl⟩⟩
  | 4, _ => exact ⟨rfl, rfl, Or.inr (Or.inr (Or.inr ⟨rfl, "", Or.inr ⟨_, rfl⟩⟩))⟩
  | 5, _ => exact ⟨rfl, rfl, Or.inr (Or.inr (Or.inr ⟨rfl, "", Or.inr ⟨_, rfl⟩⟩))⟩
  | 6, _ => exact ⟨rfl, rfl, Or.inl ⟨rfl, rfl⟩⟩
  | 7, _ => exact ⟨rfl, rfl, Or.inr (Or.inr (Or.inl ⟨rfl, rfl⟩))⟩
  | k + 8, h => exact absurd h (by omega)
theorem zCok_7 : zCok 7 := ⟨RX7, TX7, 8, tyX7, rfl, rfl, inX7, tyX7_ok, nmX7, zCf_7, rfl⟩
set_option maxRecDepth 100000 in
theorem zCf_8 : ∀ k, k < 9 → (TX8 k).1 = RX8 ∧ (TX8 k).2.2.2 = decide (10 ≤ zfk 8 k) ∧ ((zfk 8 k % 10 = 0 ∧ tyX8 k = .int) ∨ (zfk 8 k % 10 = 3 ∧ tyX8 k = .boolean) ∨ (zfk 8 k % 10 = 1 ∧ tyX8 k = .long) ∨ (zfk 8 k % 10 = 2 ∧ ∃ q, tyX8 k = .object q ∨ ∃ q, tyX8 k = .array q)) := by
  intro k hk
  match k, hk with
  | 0, _ => exact ⟨rfl, rfl, Or.inl ⟨rfl, rfl⟩⟩
  | 1, _ => exact ⟨rfl, rfl, Or.inl ⟨rfl, rfl⟩⟩
  | 2, _ => exact ⟨rfl, rfl, Or.inl ⟨rfl, rfl⟩⟩
  | 3, _ => exact ⟨rfl, rfl, Or.inl ⟨rfl, rfl⟩⟩
  | 4, _ => exact ⟨rfl, rfl, Or.inr (Or.inl ⟨rfl, rfl⟩)⟩
  | 5, _ => exact ⟨rfl, rfl, Or.inr (Or.inr (Or.inr ⟨rfl, "GaleRoof$Gale", Or.inl rfl⟩))⟩
  | 6, _ => exact ⟨rfl, rfl, Or.inr (Or.inr (Or.inr ⟨rfl, "GaleRoof$Scene", Or.inl rfl⟩))⟩
  | 7, _ => exact ⟨rfl, rfl, Or.inr (Or.inr (Or.inr ⟨rfl, "GaleRoof$Roof", Or.inl rfl⟩))⟩
  | 8, _ => exact ⟨rfl, rfl, Or.inr (Or.inr (Or.inr ⟨rfl, "", Or.inr ⟨_, rfl⟩⟩))⟩
  | k + 9, h => exact absurd h (by omega)
theorem zCok_8 : zCok 8 := ⟨RX8, TX8, 9, tyX8, rfl, rfl, inX8, tyX8_ok, nmX8, zCf_8, rfl⟩
set_option maxRecDepth 100000 in
theorem zCf_9 : ∀ k, k < 17 → (TX9 k).1 = RX9 ∧ (TX9 k).2.2.2 = decide (10 ≤ zfk 9 k) ∧ ((zfk 9 k % 10 = 0 ∧ tyX9 k = .int) ∨ (zfk 9 k % 10 = 3 ∧ tyX9 k = .boolean) ∨ (zfk 9 k % 10 = 1 ∧ tyX9 k = .long) ∨ (zfk 9 k % 10 = 2 ∧ ∃ q, tyX9 k = .object q ∨ ∃ q, tyX9 k = .array q)) := by
  intro k hk
  match k, hk with
  | 0, _ => exact ⟨rfl, rfl, Or.inr (Or.inr (Or.inr ⟨rfl, "", Or.inr ⟨_, rfl⟩⟩))⟩
  | 1, _ => exact ⟨rfl, rfl, Or.inr (Or.inr (Or.inr ⟨rfl, "", Or.inr ⟨_, rfl⟩⟩))⟩
  | 2, _ => exact ⟨rfl, rfl, Or.inr (Or.inr (Or.inr ⟨rfl, "", Or.inr ⟨_, rfl⟩⟩))⟩
  | 3, _ => exact ⟨rfl, rfl, Or.inr (Or.inr (Or.inr ⟨rfl, "", Or.inr ⟨_, rfl⟩⟩))⟩
  | 4, _ => exact ⟨rfl, rfl, Or.inr (Or.inr (Or.inr ⟨rfl, "", Or.inr ⟨_, rfl⟩⟩))⟩
  | 5, _ => exact ⟨rfl, rfl, Or.inr (Or.inr (Or.inr ⟨rfl, "", Or.inr ⟨_, rfl⟩⟩))⟩
  | 6, _ => exact ⟨rfl, rfl, Or.inr (Or.inr (Or.inr ⟨rfl, "", Or.inr ⟨_, rfl⟩⟩))⟩
  | 7, _ => exact ⟨rfl, rfl, Or.inr (Or.inr (Or.inr ⟨rfl, "", Or.inr ⟨_, rfl⟩⟩))⟩
  | 8, _ => exact ⟨rfl, rfl, Or.inr (Or.inr (Or.inr ⟨rfl, "", Or.inr ⟨_, rfl⟩⟩))⟩
  | 9, _ => exact ⟨rfl, rfl, Or.inr (Or.inr (Or.inr ⟨rfl, "", Or.inr ⟨_, rfl⟩⟩))⟩
  | 10, _ => exact ⟨rfl, rfl, Or.inr (Or.inr (Or.inr ⟨rfl, "", Or.inr ⟨_, rfl⟩⟩))⟩
  | 11, _ => exact ⟨rfl, rfl, Or.inr (Or.inr (Or.inr ⟨rfl, "", Or.inr ⟨_, rfl⟩⟩))⟩
  | 12, _ => exact ⟨rfl, rfl, Or.inr (Or.inr (Or.inr ⟨rfl, "", Or.inr ⟨_, rfl⟩⟩))⟩
  | 13, _ => exact ⟨rfl, rfl, Or.inl ⟨rfl, rfl⟩⟩
  | 14, _ => exact ⟨rfl, rfl, Or.inl ⟨rfl, rfl⟩⟩
  | 15, _ => exact ⟨rfl, rfl, Or.inl ⟨rfl, rfl⟩⟩
  | 16, _ => exact ⟨rfl, rfl, Or.inl ⟨rfl, rfl⟩⟩
  | k + 17, h => exact absurd h (by omega)
theorem zCok_9 : zCok 9 := ⟨RX9, TX9, 17, tyX9, rfl, rfl, inX9, tyX9_ok, nmX9, zCf_9, rfl⟩
set_option maxRecDepth 100000 in
theorem zCf_10 : ∀ k, k < 13 → (TX10 k).1 = RX10 ∧ (TX10 k).2.2.2 = decide (10 ≤ zfk 10 k) ∧ ((zfk 10 k % 10 = 0 ∧ tyX10 k = .int) ∨ (zfk 10 k % 10 = 3 ∧ tyX10 k = .boolean) ∨ (zfk 10 k % 10 = 1 ∧ tyX10 k = .long) ∨ (zfk 10 k % 10 = 2 ∧ ∃ q, tyX10 k = .object q ∨ ∃ q, tyX10 k = .array q)) := by
  intro k hk
  match k, hk with
  | 0, _ => exact ⟨rfl, rfl, Or.inl ⟨rfl, rfl⟩⟩
  | 1, _ => exact ⟨rfl, rfl, Or.inl ⟨rfl, rfl⟩⟩
  | 2, _ => exact ⟨rfl, rfl, Or.inl ⟨rfl, rfl⟩⟩
  | 3, _ => exact ⟨rfl, rfl, Or.inl ⟨rfl, rfl⟩⟩
  | 4, _ => exact ⟨rfl, rfl, Or.inl ⟨rfl, rfl⟩⟩
  | 5, _ => exact ⟨rfl, rfl, Or.inl ⟨rfl, rfl⟩⟩
  | 6, _ => exact ⟨rfl, rfl, Or.inl ⟨rfl, rfl⟩⟩
  | 7, _ => exact ⟨rfl, rfl, Or.inr (Or.inr (Or.inr ⟨rfl, "", Or.inr ⟨_, rfl⟩⟩))⟩
  | 8, _ => exact ⟨rfl, rfl, Or.inr (Or.inr (Or.inr ⟨rfl, "", Or.inr ⟨_, rfl⟩⟩))⟩
  | 9, _ => exact ⟨rfl, rfl, Or.inr (Or.inr (Or.inr ⟨rfl, "", Or.inr ⟨_, rfl⟩⟩))⟩
  | 10, _ => exact ⟨rfl, rfl, Or.inr (Or.inr (Or.inr ⟨rfl, "", Or.inr ⟨_, rfl⟩⟩))⟩
  | 11, _ => exact ⟨rfl, rfl, Or.inr (Or.inr (Or.inr ⟨rfl, "", Or.inr ⟨_, rfl⟩⟩))⟩
  | 12, _ => exact ⟨rfl, rfl, Or.inr (Or.inr (Or.inr ⟨rfl, "", Or.inr ⟨_, rfl⟩⟩))⟩
  | k + 13, h => exact absurd h (by omega)
theorem zCok_10 : zCok 10 := ⟨RX10, TX10, 13, tyX10, rfl, rfl, inX10, tyX10_ok, nmX10, zCf_10, rfl⟩
set_option maxRecDepth 100000 in
theorem zCf_11 : ∀ k, k < 13 → (TX11 k).1 = RX11 ∧ (TX11 k).2.2.2 = decide (10 ≤ zfk 11 k) ∧ ((zfk 11 k % 10 = 0 ∧ tyX11 k = .int) ∨ (zfk 11 k % 10 = 3 ∧ tyX11 k = .boolean) ∨ (zfk 11 k % 10 = 1 ∧ tyX11 k = .long) ∨ (zfk 11 k % 10 = 2 ∧ ∃ q, tyX11 k = .object q ∨ ∃ q, tyX11 k = .array q)) := by
  intro k hk
  match k, hk with
  | 0, _ => exact ⟨rfl, rfl, Or.inr (Or.inr (Or.inr ⟨rfl, "GaleRoof$Tape", Or.inl rfl⟩))⟩
  | 1, _ => exact ⟨rfl, rfl, Or.inr (Or.inr (Or.inr ⟨rfl, "GaleRoof$Reader", Or.inl rfl⟩))⟩
  | 2, _ => exact ⟨rfl, rfl, Or.inr (Or.inr (Or.inr ⟨rfl, "GaleRoof$Machine", Or.inl rfl⟩))⟩
  | 3, _ => exact ⟨rfl, rfl, Or.inr (Or.inr (Or.inr ⟨rfl, "GaleRoof$Gale", Or.inl rfl⟩))⟩
  | 4, _ => exact ⟨rfl, rfl, Or.inr (Or.inr (Or.inr ⟨rfl, "GaleRoof$Scene", Or.inl rfl⟩))⟩
  | 5, _ => exact ⟨rfl, rfl, Or.inr (Or.inr (Or.inr ⟨rfl, "", Or.inr ⟨_, rfl⟩⟩))⟩
  | 6, _ => exact ⟨rfl, rfl, Or.inr (Or.inr (Or.inr ⟨rfl, "GaleRoof$Planner", Or.inl rfl⟩))⟩
  | 7, _ => exact ⟨rfl, rfl, Or.inr (Or.inr (Or.inr ⟨rfl, "GaleRoof$Fate", Or.inl rfl⟩))⟩
  | 8, _ => exact ⟨rfl, rfl, Or.inr (Or.inr (Or.inr ⟨rfl, "GaleRoof$Teller", Or.inl rfl⟩))⟩
  | 9, _ => exact ⟨rfl, rfl, Or.inr (Or.inr (Or.inr ⟨rfl, "GaleRoof$Village", Or.inl rfl⟩))⟩
  | 10, _ => exact ⟨rfl, rfl, Or.inr (Or.inr (Or.inr ⟨rfl, "GaleRoof$Told", Or.inl rfl⟩))⟩
  | 11, _ => exact ⟨rfl, rfl, Or.inr (Or.inr (Or.inr ⟨rfl, "GaleRoof$Told", Or.inl rfl⟩))⟩
  | 12, _ => exact ⟨rfl, rfl, Or.inl ⟨rfl, rfl⟩⟩
  | k + 13, h => exact absurd h (by omega)
theorem zCok_11 : zCok 11 := ⟨RX11, TX11, 13, tyX11, rfl, rfl, inX11, tyX11_ok, nmX11, zCf_11, rfl⟩
set_option maxRecDepth 100000 in
theorem zCf_12 : ∀ k, k < 100 → (TX12 k).1 = RX12 ∧ (TX12 k).2.2.2 = decide (10 ≤ zfk 12 k) ∧ ((zfk 12 k % 10 = 0 ∧ tyX12 k = .int) ∨ (zfk 12 k % 10 = 3 ∧ tyX12 k = .boolean) ∨ (zfk 12 k % 10 = 1 ∧ tyX12 k = .long) ∨ (zfk 12 k % 10 = 2 ∧ ∃ q, tyX12 k = .object q ∨ ∃ q, tyX12 k = .array q)) := by
  intro k hk
  match k, hk with
  | 0, _ => exact ⟨rfl, rfl, Or.inl ⟨rfl, rfl⟩⟩
  | 1, _ => exact ⟨rfl, rfl, Or.inr (Or.inr (Or.inr ⟨rfl, "", Or.inr ⟨_, rfl⟩⟩))⟩
  | 2, _ => exact ⟨rfl, rfl, Or.inl ⟨rfl, rfl⟩⟩
  | 3, _ => exact ⟨rfl, rfl, Or.inr (Or.inr (Or.inr ⟨rfl, "", Or.inr ⟨_, rfl⟩⟩))⟩
  | 4, _ => exact ⟨rfl, rfl, Or.inl ⟨rfl, rfl⟩⟩
  | 5, _ => exact ⟨rfl, rfl, Or.inr (Or.inr (Or.inr ⟨rfl, "", Or.inr ⟨_, rfl⟩⟩))⟩
  | 6, _ => exact ⟨rfl, rfl, Or.inr (Or.inr (Or.inr ⟨rfl, "", Or.inr ⟨_, rfl⟩⟩))⟩
  | 7, _ => exact ⟨rfl, rfl, Or.inr (Or.inr (Or.inr ⟨rfl, "", Or.inr ⟨_, rfl⟩⟩))⟩
  | 8, _ => exact ⟨rfl, rfl, Or.inr (Or.inr (Or.inr ⟨rfl, "", Or.inr ⟨_, rfl⟩⟩))⟩
  | 9, _ => exact ⟨rfl, rfl, Or.inr (Or.inr (Or.inr ⟨rfl, "", Or.inr ⟨_, rfl⟩⟩))⟩
  | 10, _ => exact ⟨rfl, rfl, Or.inl ⟨rfl, rfl⟩⟩
  | 11, _ => exact ⟨rfl, rfl, Or.inl ⟨rfl, rfl⟩⟩
  | 12, _ => exact ⟨rfl, rfl, Or.inl ⟨rfl, rfl⟩⟩
  | 13, _ => exact ⟨rfl, rfl, Or.inl ⟨rfl, rfl⟩⟩
  | 14, _ => exact ⟨rfl, rfl, Or.inl ⟨rfl, rfl⟩⟩
  | 15, _ => exact ⟨rfl, rfl, Or.inl ⟨rfl, rfl⟩⟩
  | 16, _ => exact ⟨rfl, rfl, Or.inl ⟨rfl, rfl⟩⟩
  | 17, _ => exact ⟨rfl, rfl, Or.inl ⟨rfl, rfl⟩⟩
  | 18, _ => exact ⟨rfl, rfl, Or.inl ⟨rfl, rfl⟩⟩
  | 19, _ => exact ⟨rfl, rfl, Or.inl ⟨rfl, rfl⟩⟩
  | 20, _ => exact ⟨rfl, rfl, Or.inl ⟨rfl, rfl⟩⟩
  | 21, _ => exact ⟨rfl, rfl, Or.inr (Or.inr (Or.inr ⟨rfl, "", Or.inr ⟨_, rfl⟩⟩))⟩
  | 22, _ => exact ⟨rfl, rfl, Or.inr (Or.inr (Or.inr ⟨rfl, "", Or.inr ⟨_, rfl⟩⟩))⟩
  | 23, _ => exact ⟨rfl, rfl, Or.inr (Or.inr (Or.inr ⟨rfl, "", Or.inr ⟨_, rfl⟩⟩))⟩
  | 24, _ => exact ⟨rfl, rfl, Or.inr (Or.inr (Or.inr ⟨rfl, "", Or.inr ⟨_, rfl⟩⟩))⟩
  | 25, _ => exact ⟨rfl, rfl, Or.inr (Or.inr (Or.inr ⟨rfl, "", Or.inr ⟨_, rfl⟩⟩))⟩
  | 26, _ => exact ⟨rfl, rfl, Or.inr (Or.inr (Or.inr ⟨rfl, "", Or.inr ⟨_, rfl⟩⟩))⟩
  | 27, _ => exact ⟨rfl, rfl, Or.inr (Or.inr (Or.inr ⟨rfl, "", Or.inr ⟨_, rfl⟩⟩))⟩
  | 28, _ => exact ⟨rfl, rfl, Or.inr (Or.inr (Or.inr ⟨rfl, "", Or.inr ⟨_, rfl⟩⟩))⟩
  | 29, _ => exact ⟨rfl, rfl, Or.inr (Or.inr (Or.inr ⟨rfl, "", Or.inr ⟨_, rfl⟩⟩))⟩
  | 30, _ => exact ⟨rfl, rfl, Or.inr (Or.inr (Or.inr ⟨rfl, "", Or.inr ⟨_, rfl⟩⟩))⟩
  | 31, _ => exact ⟨rfl, rfl, Or.inr (Or.inr (Or.inr ⟨rfl, "", Or.inr ⟨_, rfl⟩⟩))⟩
  | 32, _ => exact ⟨rfl, rfl, Or.inr (Or.inr (Or.inr ⟨rfl, "", Or.inr ⟨_, rfl⟩⟩))⟩
  | 33, _ => exact ⟨rfl, rfl, Or.inr (Or.inr (Or.inr ⟨rfl, "", Or.inr ⟨_, rfl⟩⟩))⟩
  | 34, _ => exact ⟨rfl, rfl, Or.inr (Or.inr (Or.inr ⟨rfl, "", Or.inr ⟨_, rfl⟩⟩))⟩
  | 35, _ => exact ⟨rfl, rfl, Or.inr (Or.inr (Or.inr ⟨rfl, "", Or.inr ⟨_, rfl⟩⟩))⟩
  | 36, _ => exact ⟨rfl, rfl, Or.inl ⟨rfl, rfl⟩⟩
  | 37, _ => exact ⟨rfl, rfl, Or.inr (Or.inr (Or.inr ⟨rfl, "", Or.inr ⟨_, rfl⟩⟩))⟩
  | 38, _ => exact ⟨rfl, rfl, Or.inr (Or.inr (Or.inr ⟨rfl, "", Or.inr ⟨_, rfl⟩⟩))⟩
  | 39, _ => exact ⟨rfl, rfl, Or.inr (Or.inr (Or.inr ⟨rfl, "", Or.inr ⟨_, rfl⟩⟩))⟩
  | 40, _ => exact ⟨rfl, rfl, Or.inr (Or.inr (Or.inr ⟨rfl, "", Or.inr ⟨_, rfl⟩⟩))⟩
  | 41, _ => exact ⟨rfl, rfl, Or.inr (Or.inr (Or.inr ⟨rfl, "", Or.inr ⟨_, rfl⟩⟩))⟩
  | 42, _ => exact ⟨rfl, rfl, Or.inr (Or.inr (Or.inr ⟨rfl, "", Or.inr ⟨_, rfl⟩⟩))⟩
  | 43, _ => exact ⟨rfl, rfl, Or.inl ⟨rfl, rfl⟩⟩
  | 44, _ => exact ⟨rfl, rfl, Or.inr (Or.inr (Or.inr ⟨rfl, "", Or.inr ⟨_, rfl⟩⟩))⟩
  | 45, _ => exact ⟨rfl, rfl, Or.inr (Or.inr (Or.inr ⟨rfl, "", Or.inr ⟨_, rfl⟩⟩))⟩
  | 46, _ => exact ⟨rfl, rfl, Or.inr (Or.inr (Or.inr ⟨rfl, "", Or.inr ⟨_, rfl⟩⟩))⟩
  | 47, _ => exact ⟨rfl, rfl, Or.inl ⟨rfl, rfl⟩⟩
  | 48, _ => exact ⟨rfl, rfl, Or.inr (Or.inr (Or.inr ⟨rfl, "", Or.inr ⟨_, rfl⟩⟩))⟩
  | 49, _ => exact ⟨rfl, rfl, Or.inr (Or.inr (Or.inr ⟨rfl, "", Or.inr ⟨_, rfl⟩⟩))⟩
  | 50, _ => exact ⟨rfl, rfl, Or.inr (Or.inl ⟨rfl, rfl⟩)⟩
  | 51, _ => exact ⟨rfl, rfl, Or.inr (Or.inr (Or.inr ⟨rfl, "", Or.inr ⟨_, rfl⟩⟩))⟩
  | 52, _ => exact ⟨rfl, rfl, Or.inr (Or.inr (Or.inr ⟨rfl, "", Or.inr ⟨_, rfl⟩⟩))⟩
  | 53, _ => exact ⟨rfl, rfl, Or.inr (Or.inr (Or.inr ⟨rfl, "", Or.inr ⟨_, rfl⟩⟩))⟩
  | 54, _ => exact ⟨rfl, rfl, Or.inr (Or.inr (Or.inr ⟨rfl, "", Or.inr ⟨_, rfl⟩⟩))⟩
  | 55, _ => exact ⟨rfl, rfl, Or.inr (Or.inr (Or.inr ⟨rfl, "", Or.inr ⟨_, rfl⟩⟩))⟩
  | 56, _ => exact ⟨rfl, rfl, Or.inr (Or.inr (Or.inr ⟨rfl, "", Or.inr ⟨_, rfl⟩⟩))⟩
  | 57, _ => exact ⟨rfl, rfl, Or.inr (Or.inl ⟨rfl, rfl⟩)⟩
  | 58, _ => exact ⟨rfl, rfl, Or.inr (Or.inr (Or.inr ⟨rfl, "", Or.inr ⟨_, rfl⟩⟩))⟩
  | 59, _ => exact ⟨rfl, rfl, Or.inl ⟨rfl, rfl⟩⟩
  | 60, _ => exact ⟨rfl, rfl, Or.inr (Or.inr (Or.inr ⟨rfl, "", Or.inr ⟨_, rfl⟩⟩))⟩
  | 61, _ => exact ⟨rfl, rfl, Or.inr (Or.inr (Or.inr ⟨rfl, "", Or.inr ⟨_, rfl⟩⟩))⟩
  | 62, _ => exact ⟨rfl, rfl, Or.inl ⟨rfl, rfl⟩⟩
  | 63, _ => exact ⟨rfl, rfl, Or.inr (Or.inr (Or.inr ⟨rfl, "", Or.inr ⟨_, rfl⟩⟩))⟩
  | 64, _ => exact ⟨rfl, rfl, Or.inr (Or.inr (Or.inr ⟨rfl, "", Or.inr ⟨_, rfl⟩⟩))⟩
  | 65, _ => exact ⟨rfl, rfl, Or.inr (Or.inr (Or.inr ⟨rfl, "", Or.inr ⟨_, rfl⟩⟩))⟩
  | 66, _ => exact ⟨rfl, rfl, Or.inr (Or.inr (Or.inr ⟨rfl, "", Or.inr ⟨_, rfl⟩⟩))⟩
  | 67, _ => exact ⟨rfl, rfl, Or.inr (Or.inr (Or.inr ⟨rfl, "", Or.inr ⟨_, rfl⟩⟩))⟩
  | 68, _ => exact ⟨rfl, rfl, Or.inr (Or.inr (Or.inr ⟨rfl, "", Or.inr ⟨_, rfl⟩⟩))⟩
  | 69, _ => exact ⟨rfl, rfl, Or.inl ⟨rfl, rfl⟩⟩
  | 70, _ => exact ⟨rfl, rfl, Or.inr (Or.inr (Or.inr ⟨rfl, "", Or.inr ⟨_, rfl⟩⟩))⟩
  | 71, _ => exact ⟨rfl, rfl, Or.inr (Or.inr (Or.inr ⟨rfl, "", Or.inr ⟨_, rfl⟩⟩))⟩
  | 72, _ => exact ⟨rfl, rfl, Or.inl ⟨rfl, rfl⟩⟩
  | 73, _ => exact ⟨rfl, rfl, Or.inr (Or.inr (Or.inr ⟨rfl, "", Or.inr ⟨_, rfl⟩⟩))⟩
  | 74, _ => exact ⟨rfl, rfl, Or.inr (Or.inr (Or.inr ⟨rfl, "", Or.inr ⟨_, rfl⟩⟩))⟩
  | 75, _ => exact ⟨rfl, rfl, Or.inr (Or.inr (Or.inr ⟨rfl, "", Or.inr ⟨_, rfl⟩⟩))⟩
  | 76, _ => exact ⟨rfl, rfl, Or.inr (Or.inr (Or.inr ⟨rfl, "", Or.inr ⟨_, rfl⟩⟩))⟩
  | 77, _ => exact ⟨rfl, rfl, Or.inl ⟨rfl, rfl⟩⟩
  | 78, _ => exact ⟨rfl, rfl, Or.inl ⟨rfl, rfl⟩⟩
  | 79, _ => exact ⟨rfl, rfl, Or.inr (Or.inr (Or.inr ⟨rfl, "", Or.inr ⟨_, rfl⟩⟩))⟩
  | 80, _ => exact ⟨rfl, rfl, Or.inr (Or.inr (Or.inr ⟨rfl, "", Or.inr ⟨_, rfl⟩⟩))⟩
  | 81, _ => exact ⟨rfl, rfl, Or.inr (Or.inr (Or.inr ⟨rfl, "", Or.inr ⟨_, rfl⟩⟩))⟩
  | 82, _ => exact ⟨rfl, rfl, Or.inr (Or.inr (Or.inr ⟨rfl, "", Or.inr ⟨_, rfl⟩⟩))⟩
  | 83, _ => exact ⟨rfl, rfl, Or.inr (Or.inr (Or.inr ⟨rfl, "", Or.inr ⟨_, rfl⟩⟩))⟩
  | 84, _ => exact ⟨rfl, rfl, Or.inr (Or.inr (Or.inr ⟨rfl, "", Or.inr ⟨_, rfl⟩⟩))⟩
  | 85, _ => exact ⟨rfl, rfl, Or.inr (Or.inr (Or.inr ⟨rfl, "", Or.inr ⟨_, rfl⟩⟩))⟩
  | 86, _ => exact ⟨rfl, rfl, Or.inr (Or.inr (Or.inr ⟨rfl, "", Or.inr ⟨_, rfl⟩⟩))⟩
  | 87, _ => exact ⟨rfl, rfl, Or.inr (Or.inr (Or.inr ⟨rfl, "", Or.inr ⟨_, rfl⟩⟩))⟩
  | 88, _ => exact ⟨rfl, rfl, Or.inr (Or.inr (Or.inr ⟨rfl, "", Or.inr ⟨_, rfl⟩⟩))⟩
  | 89, _ => exact ⟨rfl, rfl, Or.inr (Or.inr (Or.inr ⟨rfl, "", Or.inr ⟨_, rfl⟩⟩))⟩
  | 90, _ => exact ⟨rfl, rfl, Or.inr (Or.inr (Or.inr ⟨rfl, "", Or.inr ⟨_, rfl⟩⟩))⟩
  | 91, _ => exact ⟨rfl, rfl, Or.inr (Or.inr (Or.inr ⟨rfl, "", Or.inr ⟨_, rfl⟩⟩))⟩
  | 92, _ => exact ⟨rfl, rfl, Or.inr (Or.inr (Or.inr ⟨rfl, "", Or.inr ⟨_, rfl⟩⟩))⟩
  | 93, _ => exact ⟨rfl, rfl, Or.inr (Or.inr (Or.inr ⟨rfl, "", Or.inr ⟨_, rfl⟩⟩))⟩
  | 94, _ => exact ⟨rfl, rfl, Or.inr (Or.inr (Or.inr ⟨rfl, "", Or.inr ⟨_, rfl⟩⟩))⟩
  | 95, _ => exact ⟨rfl, rfl, Or.inr (Or.inr (Or.inr ⟨rfl, "", Or.inr ⟨_, rfl⟩⟩))⟩
  | 96, _ => exact ⟨rfl, rfl, Or.inr (Or.inr (Or.inr ⟨rfl, "", Or.inr ⟨_, rfl⟩⟩))⟩
  | 97, _ => exact ⟨rfl, rfl, Or.inr (Or.inr (Or.inr ⟨rfl, "", Or.inr ⟨_, rfl⟩⟩))⟩
  | 98, _ => exact ⟨rfl, rfl, Or.inr (Or.inr (Or.inr ⟨rfl, "", Or.inr ⟨_, rfl⟩⟩))⟩
  | 99, _ => exact ⟨rfl, rfl, Or.inr (Or.inr (Or.inr ⟨rfl, "", Or.inr ⟨_, rfl⟩⟩))⟩
  | k + 100, h => exact absurd h (by omega)
theorem zCok_12 : zCok 12 := ⟨RX12, TX12, 100, tyX12, rfl, rfl, inX12, tyX12_ok, nmX12, zCf_12, rfl⟩
theorem zCok_all : ∀ ci, ci < 13 → zCok ci
  | 0, _ => zCok_0
  | 1, _ => zCok_1
  | 2, _ => zCok_2
  | 3, _ => zCok_3
  | 4, _ => zCok_4
  | 5, _ => zCok_5
  | 6, _ => zCok_6
  | 7, _ => zCok_7
  | 8, _ => zCok_8
  | 9, _ => zCok_9
  | 10, _ => zCok_10
  | 11, _ => zCok_11
  | 12, _ => zCok_12
  | n + 13, h => absurd h (by omega)
def zTf (ci j : Nat) : String × String × String × Bool := match vwCl[ci]? with
  | some q => q.2.1 j
  | none => ("", "", "", false)
def zFw (c : Nat) (e : Nat × Nat × Nat) : Cond := Cond.fieldLink (zcl c) e.1 (zTf e.2.1 e.2.2).1 (zTf e.2.1 e.2.2).2.1 (zTf e.2.1 e.2.2).2.2.1
set_option maxRecDepth 100000 in
theorem zFw_0 : ∀ e ∈ zFl.getD 0 [], zFw 0 e ∈ lw_tbl := zin_m [377, 443, 447, 467, 479, 483, 492, 603, 604, 605] rfl
set_option maxRecDepth 100000 in
theorem zFw_1 : ∀ e ∈ zFl.getD 1 [], zFw 1 e ∈ lw_tbl := zin_m [240, 268, 271, 275, 282, 285, 288, 301, 304, 308, 310, 314, 322, 364, 368, 370, 373, 379, 381, 383, 385, 387, 389, 390, 391, 392, 393, 394, 442, 450, 454] rfl
set_option maxRecDepth 100000 in
theorem zFw_2 : ∀ e ∈ zFl.getD 2 [], zFw 2 e ∈ lw_tbl := zin_m [238, 242, 281, 290, 293, 296] rfl
set_option maxRecDepth 100000 in
theorem zFw_3 : ∀ e ∈ zFl.getD 3 [], zFw 3 e ∈ lw_tbl := zin_m [375, 445, 448, 451, 456, 469, 480, 484, 487, 493, 555, 557, 559, 561, 563, 565, 567, 568, 569, 570, 571] rfl
set_option maxRecDepth 100000 in
theorem zFw_4 : ∀ e ∈ zFl.getD 4 [], zFw 4 e ∈ lw_tbl := zin_m [201, 203, 205, 267, 272, 276, 279, 284, 287, 291, 294, 297, 315, 319, 321, 523, 525, 526, 527, 528, 529, 530] rfl
set_option maxRecDepth 100000 in
theorem zFw_5 : ∀ e ∈ zFl.getD 5 [], zFw 5 e ∈ lw_tbl := zin_m [239, 266, 300, 303, 306, 309, 317, 366, 376, 440, 446, 449, 453] rfl
set_option maxRecDepth 100000 in
theorem zFw_6 : ∀ e ∈ zFl.getD 6 [], zFw 6 e ∈ lw_tbl := zin_m [466, 471, 474, 476, 478, 482, 486, 489, 491] rfl
set_option maxRecDepth 100000 in
theorem zFw_7 : ∀ e ∈ zFl.getD 7 [], zFw 7 e ∈ lw_tbl := zin_m [200, 202, 204, 207, 208, 209, 210, 211] rfl
set_option maxRecDepth 100000 in
theorem zFw_8 : ∀ e ∈ zFl.getD 8 [], zFw 8 e ∈ lw_tbl := zin_m [365, 371, 374, 441, 468, 472, 621, 623, 625, 627, 629, 631, 632, 633, 634] rfl
set_option maxRecDepth 100000 in
theorem zFw_9 : ∀ e ∈ zFl.getD 9 [], zFw 9 e ∈ lw_tbl := zin_m [265, 270, 274, 278, 280, 283, 286, 289, 292, 295, 299, 302, 305, 311, 313, 318, 320] rfl
set_option maxRecDepth 100000 in
theorem zFw_10 : ∀ e ∈ zFl.getD 10 [], zFw 10 e ∈ lw_tbl := zin_m [660, 662, 664, 666, 668, 670, 672, 674, 675, 676, 677, 678, 679] rfl
set_option maxRecDepth 100000 in
theorem zFw_11 : ∀ e ∈ zFl.getD 11 [], zFw 11 e ∈ lw_tbl := zin_m [206, 241, 269, 273, 277, 298, 307, 312, 316, 367, 369, 372, 378, 380, 382, 384, 386, 388, 444, 452, 455, 470, 473, 475, 477, 481, 485, 488, 490, 494, 495, 524, 556, 558, 560, 562, 564, 566, 622, 624, 626, 628, 630, 661, 663, 665, 667, 669, 671, 673, 741, 742, 743, 744, 745, 746, 747, 748, 749, 750, 751, 752, 753] rfl
set_option maxRecDepth 100000 in
theorem zFw_12 : ∀ e ∈ zFl.getD 12 [], zFw 12 e ∈ lw_tbl := zin_m [1438, 1439, 1440, 1441, 1442, 1443, 1444, 1445, 1446, 1447, 1448, 1449, 1450, 1451, 1452, 1453, 1454, 1455, 1456, 1457, 1458, 1459, 1460, 1461, 1462, 1463, 1464, 1465, 1466, 1467, 1468, 1469, 1470, 1471, 1472, 1473, 1474, 1475, 1476, 1477, 1478, 1479, 1480, 1481, 1482, 1483, 1484, 1485, 1486, 1487, 1488, 1489, 1490, 1491, 1492, 1493, 1494, 1495, 1496, 1497, 1498, 1499, 1500, 1501, 1502, 1503, 1504, 1505, 1506, 1507, 1508, 1509, 1510, 1511, 1512, 1513, 1514, 1515, 1516, 1517, 1518, 1519, 1520, 1521, 1522, 1523, 1524, 1525, 1526, 1527, 1528, 1529, 1530, 1531, 1532, 1533, 1534, 1535, 1536] rfl
set_option maxRecDepth 100000 in
theorem zFw_13 : ∀ e ∈ zFl.getD 13 [], zFw 13 e ∈ lw_tbl := zin_m [] rfl
set_option maxRecDepth 100000 in
theorem zFw_14 : ∀ e ∈ zFl.getD 14 [], zFw 14 e ∈ lw_tbl := zin_m [] rfl
set_option maxRecDepth 100000 in
theorem zFw_15 : ∀ e ∈ zFl.getD 15 [], zFw 15 e ∈ lw_tbl := zin_m [] rfl
set_option maxRecDepth 100000 in
theorem zFw_16 : ∀ e ∈ zFl.getD 16 [], zFw 16 e ∈ lw_tbl := zin_m [] rfl
theorem zFw_all : ∀ c, c < 17 → ∀ e ∈ zFl.getD c [], zFw c e ∈ lw_tbl
  | 0, _ => zFw_0
  | 1, _ => zFw_1
  | 2, _ => zFw_2
  | 3, _ => zFw_3
  | 4, _ => zFw_4
  | 5, _ => zFw_5
  | 6, _ => zFw_6
  | 7, _ => zFw_7
  | 8, _ => zFw_8
  | 9, _ => zFw_9
  | 10, _ => zFw_10
  | 11, _ => zFw_11
  | 12, _ => zFw_12
  | 13, _ => zFw_13
  | 14, _ => zFw_14
  | 15, _ => zFw_15
  | 16, _ => zFw_16
  | n + 17, h => absurd h (by omega)
theorem zFl_lt : ∀ l ∈ zFl, ∀ e ∈ l, e.2.1 < 13 ∧ e.2.2 < (zFk.getD e.2.1 []).length := by decide +kernel
theorem getD_mem {α : Type} {l : List (List α)} {c : Nat} {x : α} (h : x ∈ l.getD c []) : l.getD c [] ∈ l := by
  have hc := getD_range rfl h
  rw [List.getD_eq_getElem?_getD, List.getElem?_eq_getElem hc]
  exact List.getElem_mem hc
theorem zfr_ok {c k ci j : Nat} (h : zfr c k = some (ci, j)) : Cond.fieldLink (zcl c) k (zTf ci j).1 (zTf ci j).2.1 (zTf ci j).2.2.1 ∈ zTW ∧ ci < 13 ∧ j < (zFk.getD ci []).length := by
  unfold zfr at h
  rw [Option.map_eq_some_iff] at h
  obtain ⟨e, h1, h2⟩ := h
  have hm := List.mem_of_find?_eq_some h1
  have hk := List.find?_some h1
  have hk : e.1 = k := by simpa using hk
  have hc := getD_range (n := 17) rfl hm
  have q1 := zFw_all c hc e hm
  obtain ⟨q2, q3⟩ := zFl_lt _ (getD_mem hm) e hm
  unfold zFw at q1
  rw [hk, h2] at q1
  rw [h2] at q2 q3
  exact ⟨zTW_in q1 rfl, q2, q3⟩
def zKds : List (List Nat) := [[2, 0, 0, 0, 0, 0, 1, 1, 2, 0, 0, 0, 0, 0, 0, 0, 0, 0, 0, 0, 0, 2, 0, 1, 0, 0, 2, 0, 0, 0, 0, 0], [0, 0, 0, 0, 0, 0, 0, 0, 0, 2, 0, 0, 0, 0, 0, 0, 0, 0, 0, 0, 0, 0, 0, 0, 0, 0, 0, 2, 0, 0, 0, 0], [0, 0, 0, 2, 0, 0, 0, 0, 2, 0, 0, 0, 0, 0, 0, 0, 0, 1, 1, 1, 1, 2, 0, 0, 2, 0, 0, 0, 2, 0, 0, 0], [0, 0, 1, 0, 0, 2, 0, 0, 0, 0, 0, 0, 0, 0, 0, 0, 0, 0, 0, 0, 0, 0, 0, 0, 0, 0, 0, 0, 0, 0, 0, 0], [0, 0, 0, 0, 0, 0, 0, 0, 0, 0, 0, 0, 0, 0, 0, 0, 0, 0, 0, 0, 0, 0, 0, 0, 0, 0, 1, 1, 1, 0, 1, 0], [0, 0, 0, 2, 0, 0, 0, 0, 1, 1, 1, 1, 0, 0, 0, 0, 0, 0, 0, 0, 0, 0, 0, 0, 0, 0, 0, 0, 0, 0, 0, 0], [0, 0, 0, 1, 1, 0, 0, 0, 0, 0, 0, 0, 0, 0, 1, 0, 0, 0, 0, 0, 0, 0, 0, 0, 0, 0, 0, 0, 0, 0, 0, 0], [0, 0, 0, 0, 0, 0, 0, 0, 0, 0, 0, 0, 1, 1, 0, 0, 0, 0, 0, 0, 0, 0, 0, 0, 0, 0, 0, 1, 0, 0, 0, 0], [0, 0, 0, 0, 0, 0, 0, 0, 0, 0, 0, 0, 0, 0, 0, 1, 1, 0, 0, 0, 0, 0, 0, 0, 0, 0, 0, 0, 0, 0, 1, 0], [0, 0, 0, 0, 1, 1, 1, 1]]
def zKd (z : Nat) : Nat := (zKds.getD (z / 32) []).getD (z % 32) 9
def zNp_s : List (List Nat) := [[2, 1, 2, 1, 2, 2, 3, 2, 2, 4, 3, 3, 0, 1, 1, 2, 2, 2, 3, 0, 1, 0, 4, 3, 2, 4, 2, 0, 2, 3, 3, 3], [1, 1, 1, 1, 0, 0, 0, 0, 2, 2, 1, 0, 3, 2, 1, 1, 0, 1, 0, 0, 1, 1, 1, 1, 0, 1, 1, 0, 2, 1, 0, 1], [1, 1, 2, 0, 2, 1, 2, 0, 0, 1, 0, 0, 0, 0, 0, 1, 3, 2, 1, 1, 1, 2, 0, 0, 0, 0, 2, 0, 0, 4, 1, 1], [4, 0, 2, 2, 3, 0, 5, 1, 0, 0, 2, 3, 2, 2, 1, 2, 2, 4, 3, 2, 3, 3, 3, 3, 2, 1, 0, 1, 1, 2, 3, 0], [0, 2, 3, 2, 1, 2, 1, 2, 1, 2, 1, 2, 1, 4, 1, 4, 1, 3, 3, 3, 3, 1, 1, 1, 1, 1, 1, 1, 3, 2, 1, 0], [0, 4, 0, 0, 5, 1, 1, 1, 1, 1, 2, 7, 4, 0, 3, 1, 1, 2, 0, 1, 1, 0, 0, 0, 2, 0, 1, 1, 2, 1, 0, 0], [2, 1, 1, 3, 2, 0, 1, 1, 1, 1, 1, 0, 1, 1, 2, 2, 3, 2, 2, 1, 2, 0, 0, 2, 2, 2, 3, 2, 1, 1, 1, 3], [4, 3, 2, 2, 4, 3, 2, 3, 1, 3, 3, 3, 1, 1, 2, 1, 0, 1, 1, 0, 2, 3, 0, 0, 0, 0, 1, 1, 2, 3, 3, 2], [1, 1, 1, 1, 1, 2, 1, 1, 2, 0, 0, 0, 1, 2, 1, 2, 3, 2, 2, 1, 4, 1, 4, 1, 3, 3, 2, 2, 3, 3, 2, 3], [3, 1, 1, 1, 1, 2, 2, 2]]
def zNp_ (z : Nat) : Nat := (zNp_s.getD (z / 32) []).getD (z % 32) 9
def zYc (z : Nat) : Cond := Cond.code (zyn z) (zcb z) (zmx z) (zrt z)
def zYi (z : Nat) : Cond := Cond.initialized (zyn z).cls
def zYk (z : Nat) : Cond := if zKd z = 1 then Cond.static (zyn z) else Cond.instanceMethod (zyn z)
def zYs (z : Nat) : Cond := if zKd z = 0 then Cond.selects (zyn z).cls (zyn z) (zyn z) else zYi z
def zYok (z : Nat) : Bool := zcl (zcz z) == (zyn z).cls && (decide (zmx z ≤ 13) && (plainFor (zyn z) && ((parseMethodDescriptor (zyn z).desc).map (fun d => d.parameters.length) == some (zNp_ z) && (zKd z == 2) == ((zyn z).name == "<init>") && ((zyn z).cls != "java/lang/invoke/MethodHandle" && (zyn z).cls != "java/lang/invoke/VarHandle"))))
set_option maxRecDepth 100000 in
theorem zYc_0 : ∀ z ∈ [0, 1, 2, 3, 4, 5, 6, 7, 8, 9, 10, 11, 12, 13, 14, 15, 16, 17, 18, 19, 20, 21, 22, 23, 24, 25, 26, 27, 28, 29, 30, 31], zYc z ∈ lw_tbl := zin_m [599, 1225, 1244, 1264, 1248, 1234, 1252, 1255, 362, 998, 1022, 956, 965, 1014, 961, 977, 981, 986, 1004, 1082, 1086, 236, 727, 731, 723, 1313, 551, 740, 1103, 1124, 1112, 1138] rfl
set_option maxRecDepth 100000 in
theorem zYi_0 : ∀ z ∈ [0, 1, 2, 3, 4, 5, 6, 7, 8, 9, 10, 11, 12, 13, 14, 15, 16, 17, 18, 19, 20, 21, 22, 23, 24, 25, 26, 27, 28, 29, 30, 31], zYi z ∈ lw_tbl := zin_m [125, 125, 125, 125, 125, 125, 125, 125, 120, 120, 120, 120, 120, 120, 120, 120, 120, 120, 120, 120, 120, 117, 117, 117, 117, 117, 124, 124, 124, 124, 124, 124] rfl
set_option maxRecDepth 100000 in
theorem zYk_0 : ∀ z ∈ [0, 1, 2, 3, 4, 5, 6, 7, 8, 9, 10, 11, 12, 13, 14, 15, 16, 17, 18, 19, 20, 21, 22, 23, 24, 25, 26, 27, 28, 29, 30, 31], zYk z ∈ lw_tbl := zin_m [598, 1223, 1242, 1262, 1247, 1233, 1251, 1254, 361, 996, 1020, 954, 964, 1013, 960, 975, 980, 985, 1003, 1080, 1085, 235, 725, 730, 721, 1311, 550, 738, 1101, 1123, 1110, 1136] rfl
set_option maxRecDepth 100000 in
theorem zYs_0 : ∀ z ∈ [0, 1, 2, 3, 4, 5, 6, 7, 8, 9, 10, 11, 12, 13, 14, 15, 16, 17, 18, 19, 20, 21, 22, 23, 24, 25, 26, 27, 28, 29, 30, 31], zYs z ∈ lw_tbl := zin_m [125, 1224, 1243, 1263, 39, 38, 125, 125, 120, 997, 1021, 955, 27, 32, 26, 976, 28, 29, 31, 1081, 33, 117, 726, 117, 722, 1312, 124, 739, 1102, 34, 1111, 1137] rfl
theorem zYok_0 : ∀ z ∈ [0, 1, 2, 3, 4, 5, 6, 7, 8, 9, 10, 11, 12, 13, 14, 15, 16, 17, 18, 19, 20, 21, 22, 23, 24, 25, 26, 27, 28, 29, 30, 31], zYok z = true := by decide +kernel
set_option maxRecDepth 100000 in
theorem zYc_1 : ∀ z ∈ [32, 33, 34, 35, 36, 37, 38, 39, 40, 41, 42, 43, 44, 45, 46, 47, 48, 49, 50, 51, 52, 53, 54, 55, 56, 57, 58, 59, 60, 61, 62, 63], zYc z ∈ lw_tbl := zin_m [1150, 1155, 1171, 1183, 1187, 1199, 1203, 1208, 1217, 521, 800, 844, 852, 856, 872, 900, 904, 908, 876, 880, 884, 888, 892, 868, 848, 860, 864, 436, 718, 1116, 1230, 1046] rfl
set_option maxRecDepth 100000 in
theorem zYi_1 : ∀ z ∈ [32, 33, 34, 35, 36, 37, 38, 39, 40, 41, 42, 43, 44, 45, 46, 47, 48, 49, 50, 51, 52, 53, 54, 55, 56, 57, 58, 59, 60, 61, 62, 63], zYi z ∈ lw_tbl := zin_m [124, 124, 124, 124, 124, 124, 124, 124, 124, 123, 123, 123, 123, 123, 123, 123, 123, 123, 123, 123, 123, 123, 123, 123, 123, 123, 123, 122, 122, 122, 122, 122] rfl
set_option maxRecDepth 100000 in
theorem zYk_1 : ∀ z ∈ [32, 33, 34, 35, 36, 37, 38, 39, 40, 41, 42, 43, 44, 45, 46, 47, 48, 49, 50, 51, 52, 53, 54, 55, 56, 57, 58, 59, 60, 61, 62, 63], zYk z ∈ lw_tbl := zin_m [1148, 1154, 1170, 1181, 1186, 1197, 1201, 1206, 1215, 520, 798, 843, 851, 855, 871, 899, 903, 907, 875, 879, 883, 887, 891, 867, 847, 859, 863, 435, 716, 1114, 1228, 1044] rfl
set_option maxRecDepth 100000 in
theorem zYs_1 : ∀ z ∈ [32, 33, 34, 35, 36, 37, 38, 39, 40, 41, 42, 43, 44, 45, 46, 47, 48, 49, 50, 51, 52, 53, 54, 55, 56, 57, 58, 59, 60, 61, 62, 63], zYs z ∈ lw_tbl := zin_m [1149, 35, 36, 1182, 37, 1198, 1202, 1207, 1216, 123, 799, 8, 10, 11, 15, 21, 22, 23, 16, 17, 18, 19, 20, 14, 9, 12, 13, 122, 717, 1115, 1229, 1045] rfl
theorem zYok_1 : ∀ z ∈ [32, 33, 34, 35, 36, 37, 38, 39, 40, 41, 42, 43, 44, 45, 46, 47, 48, 49, 50, 51, 52, 53, 54, 55, 56, 57, 58, 59, 60, 61, 62, 63], zYok z = true := by decide +kernel
set_option maxRecDepth 100000 in
theorem zYc_2 : ∀ z ∈ [64, 65, 66, 67, 68, 69, 70, 71, 72, 73, 74, 75, 76, 77, 78, 79, 80, 81, 82, 83, 84, 85, 86, 87, 88, 89, 90, 91, 92, 93, 94, 95], zYc z ∈ lw_tbl := zin_m [1159, 1163, 1167, 430, 714, 1365, 1053, 1065, 144, 788, 805, 809, 816, 823, 830, 836, 840, 197, 812, 819, 826, 617, 1276, 1285, 252, 257, 896, 264, 658, 1297, 1305, 1331] rfl
set_option maxRecDepth 100000 in
theorem zYi_2 : ∀ z ∈ [64, 65, 66, 67, 68, 69, 70, 71, 72, 73, 74, 75, 76, 77, 78, 79, 80, 81, 82, 83, 84, 85, 86, 87, 88, 89, 90, 91, 92, 93, 94, 95], zYi z ∈ lw_tbl := zin_m [122, 122, 122, 121, 121, 121, 121, 121, 112, 112, 112, 112, 112, 112, 112, 112, 112, 112, 112, 112, 112, 126, 126, 126, 118, 118, 118, 118, 127, 127, 127, 127] rfl
set_option maxRecDepth 100000 in
theorem zYk_2 : ∀ z ∈ [64, 65, 66, 67, 68, 69, 70, 71, 72, 73, 74, 75, 76, 77, 78, 79, 80, 81, 82, 83, 84, 85, 86, 87, 88, 89, 90, 91, 92, 93, 94, 95], zYk z ∈ lw_tbl := zin_m [1157, 1161, 1165, 429, 712, 1363, 1051, 1063, 143, 786, 803, 808, 815, 822, 829, 835, 839, 196, 811, 818, 825, 616, 1274, 1284, 251, 255, 894, 262, 657, 1295, 1303, 1330] rfl
set_option maxRecDepth 100000 in
theorem zYs_2 : ∀ z ∈ [64, 65, 66, 67, 68, 69, 70, 71, 72, 73, 74, 75, 76, 77, 78, 79, 80, 81, 82, 83, 84, 85, 86, 87, 88, 89, 90, 91, 92, 93, 94, 95], zYs z ∈ lw_tbl := zin_m [1158, 1162, 1166, 121, 713, 1364, 1052, 1064, 112, 787, 804, 2, 3, 4, 5, 6, 7, 112, 112, 112, 112, 126, 1275, 40, 118, 256, 895, 263, 127, 1296, 1304, 42] rfl
theorem zYok_2 : ∀ z ∈ [64, 65, 66, 67, 68, 69, 70, 71, 72, 73, 74, 75, 76, 77, 78, 79, 80, 81, 82, 83, 84, 85, 86, 87, 88, 89, 90, 91, 92, 93, 94, 95], zYok z = true := by decide +kernel
set_option maxRecDepth 100000 in
theorem zYc_3 : ∀ z ∈ [96, 97, 98, 99, 100, 101, 102, 103, 104, 105, 106, 107, 108, 109, 110, 111, 112, 113, 114, 115, 116, 117, 118, 119, 120, 121, 122, 123, 124, 125, 126, 127], zYc z ∈ lw_tbl := zin_m [1327, 1341, 1344, 1353, 1357, 136, 784, 792, 796, 913, 917, 925, 929, 933, 941, 945, 949, 969, 990, 1018, 1026, 1030, 1034, 1038, 1042, 1057, 1061, 1070, 1074, 1078, 1090, 1094] rfl
set_option maxRecDepth 100000 in
theorem zYi_3 : ∀ z ∈ [96, 97, 98, 99, 100, 101, 102, 103, 104, 105, 106, 107, 108, 109, 110, 111, 112, 113, 114, 115, 116, 117, 118, 119, 120, 121, 122, 123, 124, 125, 126, 127], zYi z ∈ lw_tbl := zin_m [127, 127, 127, 127, 127, 111, 111, 111, 111, 111, 111, 111, 111, 111, 111, 111, 111, 111, 111, 111, 111, 111, 111, 111, 111, 111, 111, 111, 111, 111, 111, 111] rfl
set_option maxRecDepth 100000 in
theorem zYk_3 : ∀ z ∈ [96, 97, 98, 99, 100, 101, 102, 103, 104, 105, 106, 107, 108, 109, 110, 111, 112, 113, 114, 115, 116, 117, 118, 119, 120, 121, 122, 123, 124, 125, 126, 127], zYk z ∈ lw_tbl := zin_m [1325, 1339, 1343, 1351, 1356, 135, 782, 790, 794, 911, 915, 923, 927, 931, 939, 943, 947, 967, 988, 1016, 1024, 1028, 1032, 1036, 1040, 1055, 1059, 1068, 1072, 1076, 1088, 1092] rfl
set_option maxRecDepth 100000 in
theorem zYs_3 : ∀ z ∈ [96, 97, 98, 99, 100, 101, 102, 103, 104, 105, 106, 107, 108, 109, 110, 111, 112, 113, 114, 115, 116, 117, 118, 119, 120, 121, 122, 123, 124, 125, 126, 127], zYs z ∈ lw_tbl := zin_m [1326, 1340, 127, 1352, 43, 111, 783, 791, 795, 912, 916, 924, 928, 932, 940, 944, 948, 968, 989, 1017, 1025, 1029, 1033, 1037, 1041, 1056, 1060, 1069, 1073, 1077, 1089, 1093] rfl
theorem zYok_3 : ∀ z ∈ [96, 97, 98, 99, 100, 101, 102, 103, 104, 105, 106, 107, 108, 109, 110, 111, 112, 113, 114, 115, 116, 117, 118, 119, 120, 121, 122, 123, 124, 125, 126, 127], zYok z = true := by decide +kernel
set_option maxRecDepth 100000 in
theorem zYc_4 : ∀ z ∈ [128, 129, 130, 131, 132, 133, 134, 135, 136, 137, 138, 139, 140, 141, 142, 143, 144, 145, 146, 147, 148, 149, 150, 151, 152, 153, 154, 155, 156, 157, 158, 159], zYc z ∈ lw_tbl := zin_m [1098, 1108, 1134, 1142, 1146, 1175, 1179, 1191, 1195, 1213, 1221, 1240, 1260, 1268, 1272, 1290, 1301, 1309, 1319, 1336, 1349, 1361, 1371, 1375, 921, 937, 972, 952, 1293, 1323, 1049, 710] rfl
set_option maxRecDepth 100000 in
theorem zYi_4 : ∀ z ∈ [128, 129, 130, 131, 132, 133, 134, 135, 136, 137, 138, 139, 140, 141, 142, 143, 144, 145, 146, 147, 148, 149, 150, 151, 152, 153, 154, 155, 156, 157, 158, 159], zYi z ∈ lw_tbl := zin_m [111, 111, 111, 111, 111, 111, 111, 111, 111, 111, 111, 111, 111, 111, 111, 111, 111, 111, 111, 111, 111, 111, 111, 111, 111, 111, 111, 111, 111, 111, 111, 111] rfl
set_option maxRecDepth 100000 in
theorem zYk_4 : ∀ z ∈ [128, 129, 130, 131, 132, 133, 134, 135, 136, 137, 138, 139, 140, 141, 142, 143, 144, 145, 146, 147, 148, 149, 150, 151, 152, 153, 154, 155, 156, 157, 158, 159], zYk z ∈ lw_tbl := zin_m [1096, 1106, 1132, 1140, 1144, 1173, 1177, 1189, 1193, 1211, 1219, 1238, 1258, 1266, 1270, 1288, 1299, 1307, 1317, 1334, 1347, 1359, 1369, 1373, 920, 936, 971, 951, 1292, 1322, 1048, 709] rfl
set_option maxRecDepth 100000 in
theorem zYs_4 : ∀ z ∈ [128, 129, 130, 131, 132, 133, 134, 135, 136, 137, 138, 139, 140, 141, 142, 143, 144, 145, 146, 147, 148, 149, 150, 151, 152, 153, 154, 155, 156, 157, 158, 159], zYs z ∈ lw_tbl := zin_m [1097, 1107, 1133, 1141, 1145, 1174, 1178, 1190, 1194, 1212, 1220, 1239, 1259, 1267, 1271, 1289, 1300, 1308, 1318, 1335, 1348, 1360, 1370, 1374, 24, 25, 111, 111, 111, 41, 111, 0] rfl
theorem zYok_4 : ∀ z ∈ [128, 129, 130, 131, 132, 133, 134, 135, 136, 137, 138, 139, 140, 141, 142, 143, 144, 145, 146, 147, 148, 149, 150, 151, 152, 153, 154, 155, 156, 157, 158, 159], zYok z = true := by decide +kernel
set_option maxRecDepth 100000 in
theorem zYc_5 : ∀ z ∈ [160, 161, 162, 163, 164, 165, 166, 167, 168, 169, 170, 171, 172, 173, 174, 175, 176, 177, 178, 179, 180, 181, 182, 183, 184, 185, 186, 187, 188, 189, 190, 191], zYc z ∈ lw_tbl := zin_m [736, 994, 1380, 1385, 1742, 1746, 1750, 1762, 1772, 1769, 1392, 1389, 1766, 1758, 1776, 1780, 1792, 1800, 1788, 1804, 1397, 1754, 1836, 1784, 1796, 1808, 1812, 1816, 1828, 1832, 1820, 1824] rfl
set_option maxRecDepth 100000 in
theorem zYi_5 : ∀ z ∈ [160, 161, 162, 163, 164, 165, 166, 167, 168, 169, 170, 171, 172, 173, 174, 175, 176, 177, 178, 179, 180, 181, 182, 183, 184, 185, 186, 187, 188, 189, 190, 191], zYi z ∈ lw_tbl := zin_m [111, 111, 111, 128, 128, 128, 128, 128, 128, 128, 128, 128, 128, 128, 128, 128, 128, 128, 128, 128, 128, 128, 128, 128, 128, 128, 128, 128, 128, 128, 128, 128] rfl
set_option maxRecDepth 100000 in
theorem zYk_5 : ∀ z ∈ [160, 161, 162, 163, 164, 165, 166, 167, 168, 169, 170, 171, 172, 173, 174, 175, 176, 177, 178, 179, 180, 181, 182, 183, 184, 185, 186, 187, 188, 189, 190, 191], zYk z ∈ lw_tbl := zin_m [735, 993, 1379, 1384, 1740, 1745, 1748, 1761, 1771, 1768, 1391, 1388, 1765, 1757, 1775, 1779, 1791, 1799, 1787, 1803, 1396, 1752, 1834, 1783, 1795, 1807, 1811, 1815, 1827, 1831, 1819, 1823] rfl
set_option maxRecDepth 100000 in
theorem zYs_5 : ∀ z ∈ [160, 161, 162, 163, 164, 165, 166, 167, 168, 169, 170, 171, 172, 173, 174, 175, 176, 177, 178, 179, 180, 181, 182, 183, 184, 185, 186, 187, 188, 189, 190, 191], zYs z ∈ lw_tbl := zin_m [1, 30, 44, 128, 1741, 56, 1749, 58, 128, 128, 128, 128, 59, 57, 60, 61, 64, 66, 63, 67, 45, 1753, 1835, 62, 65, 68, 69, 70, 73, 74, 71, 72] rfl
theorem zYok_5 : ∀ z ∈ [160, 161, 162, 163, 164, 165, 166, 167, 168, 169, 170, 171, 172, 173, 174, 175, 176, 177, 178, 179, 180, 181, 182, 183, 184, 185, 186, 187, 188, 189, 190, 191], zYok z = true := by decide +kernel
set_option maxRecDepth 100000 in
theorem zYc_6 : ∀ z ∈ [192, 193, 194, 195, 196, 197, 198, 199, 200, 201, 202, 203, 204, 205, 206, 207, 208, 209, 210, 211, 212, 213, 214, 215, 216, 217, 218, 219, 220, 221, 222, 223], zYc z ∈ lw_tbl := zin_m [1437, 1433, 1429, 1847, 1922, 1405, 1413, 1417, 1421, 1409, 1425, 1401, 1844, 1863, 1894, 1840, 1851, 1855, 1859, 1867, 1871, 1879, 1887, 1883, 1875, 1903, 1899, 1911, 1907, 1915, 1919, 1926] rfl
set_option maxRecDepth 100000 in
theorem zYi_6 : ∀ z ∈ [192, 193, 194, 195, 196, 197, 198, 199, 200, 201, 202, 203, 204, 205, 206, 207, 208, 209, 210, 211, 212, 213, 214, 215, 216, 217, 218, 219, 220, 221, 222, 223], zYi z ∈ lw_tbl := zin_m [128, 128, 128, 128, 128, 128, 128, 128, 128, 128, 128, 128, 128, 128, 128, 128, 128, 128, 128, 128, 128, 128, 128, 128, 128, 128, 128, 128, 128, 128, 128, 128] rfl
set_option maxRecDepth 100000 in
theorem zYk_6 : ∀ z ∈ [192, 193, 194, 195, 196, 197, 198, 199, 200, 201, 202, 203, 204, 205, 206, 207, 208, 209, 210, 211, 212, 213, 214, 215, 216, 217, 218, 219, 220, 221, 222, 223], zYk z ∈ lw_tbl := zin_m [1436, 1432, 1428, 1846, 1921, 1404, 1412, 1416, 1420, 1408, 1424, 1400, 1843, 1862, 1893, 1838, 1849, 1853, 1857, 1865, 1869, 1878, 1886, 1882, 1873, 1902, 1898, 1910, 1906, 1914, 1918, 1925] rfl
set_option maxRecDepth 100000 in
theorem zYs_6 : ∀ z ∈ [192, 193, 194, 195, 196, 197, 198, 199, 200, 201, 202, 203, 204, 205, 206, 207, 208, 209, 210, 211, 212, 213, 214, 215, 216, 217, 218, 219, 220, 221, 222, 223], zYs z ∈ lw_tbl := zin_m [55, 54, 53, 128, 128, 47, 49, 50, 51, 48, 52, 46, 75, 76, 128, 1839, 1850, 1854, 1858, 1866, 1870, 77, 79, 78, 1874, 81, 80, 83, 82, 84, 85, 86] rfl
theorem zYok_6 : ∀ z ∈ [192, 193, 194, 195, 196, 197, 198, 199, 200, 201, 202, 203, 204, 205, 206, 207, 208, 209, 210, 211, 212, 213, 214, 215, 216, 217, 218, 219, 220, 221, 222, 223], zYok z = true := by decide +kernel
set_option maxRecDepth 100000 in
theorem zYc_7 : ∀ z ∈ [224, 225, 226, 227, 228, 229, 230, 231, 232, 233, 234, 235, 236, 237, 238, 239, 240, 241, 242, 243, 244, 245, 246, 247, 248, 249, 250, 251, 252, 253, 254, 255], zYc z ∈ lw_tbl := zin_m [1891, 1942, 1938, 1950, 1934, 1930, 1946, 1954, 1962, 1958, 1966, 1970, 1977, 1984, 1974, 1981, 1988, 1992, 1996, 2004, 2000, 2008, 2012, 2020, 2016, 2028, 2032, 2035, 2024, 2043, 2039, 2047] rfl
set_option maxRecDepth 100000 in
theorem zYi_7 : ∀ z ∈ [224, 225, 226, 227, 228, 229, 230, 231, 232, 233, 234, 235, 236, 237, 238, 239, 240, 241, 242, 243, 244, 245, 246, 247, 248, 249, 250, 251, 252, 253, 254, 255], zYi z ∈ lw_tbl := zin_m [128, 128, 128, 128, 128, 128, 128, 128, 128, 128, 128, 128, 128, 128, 128, 128, 128, 128, 128, 128, 128, 128, 128, 128, 128, 128, 128, 128, 128, 128, 128, 128] rfl
set_option maxRecDepth 100000 in
theorem zYk_7 : ∀ z ∈ [224, 225, 226, 227, 228, 229, 230, 231, 232, 233, 234, 235, 236, 237, 238, 239, 240, 241, 242, 243, 244, 245, 246, 247, 248, 249, 250, 251, 252, 253, 254, 255], zYk z ∈ lw_tbl := zin_m [1889, 1941, 1937, 1949, 1933, 1928, 1944, 1952, 1961, 1956, 1964, 1968, 1976, 1983, 1972, 1979, 1986, 1990, 1994, 2003, 1998, 2006, 2010, 2019, 2014, 2027, 2031, 2034, 2022, 2042, 2037, 2045] rfl
set_option maxRecDepth 100000 in
theorem zYs_7 : ∀ z ∈ [224, 225, 226, 227, 228, 229, 230, 231, 232, 233, 234, 235, 236, 237, 238, 239, 240, 241, 242, 243, 244, 245, 246, 247, 248, 249, 250, 251, 252, 253, 254, 255], zYs z ∈ lw_tbl := zin_m [1890, 89, 88, 90, 87, 1929, 1945, 1953, 91, 1957, 1965, 1969, 128, 128, 1973, 1980, 1987, 1991, 1995, 92, 1999, 2007, 2011, 93, 2015, 94, 95, 128, 2023, 96, 2038, 2046] rfl
theorem zYok_7 : ∀ z ∈ [224, 225, 226, 227, 228, 229, 230, 231, 232, 233, 234, 235, 236, 237, 238, 239, 240, 241, 242, 243, 244, 245, 246, 247, 248, 249, 250, 251, 252, 253, 254, 255], zYok z = true := by decide +kernel
set_option maxRecDepth 100000 in
theorem zYc_8 : ∀ z ∈ [256, 257, 258, 259, 260, 261, 262, 263, 264, 265, 266, 267, 268, 269, 270, 271, 272, 273, 274, 275, 276, 277, 278, 279, 280, 281, 282, 283, 284, 285, 286, 287], zYc z ∈ lw_tbl := zin_m [2059, 2063, 2067, 2055, 2051, 2071, 2079, 2075, 2083, 2091, 2095, 2099, 2087, 2104, 2108, 2122, 2119, 2116, 2112, 2127, 2131, 2135, 2139, 2143, 2151, 2147, 2167, 2159, 2163, 2155, 2175, 2171] rfl
set_option maxRecDepth 100000 in
theorem zYi_8 : ∀ z ∈ [256, 257, 258, 259, 260, 261, 262, 263, 264, 265, 266, 267, 268, 269, 270, 271, 272, 273, 274, 275, 276, 277, 278, 279, 280, 281, 282, 283, 284, 285, 286, 287], zYi z ∈ lw_tbl := zin_m [128, 128, 128, 128, 128, 128, 128, 128, 128, 128, 128, 128, 128, 128, 128, 128, 128, 128, 128, 128, 128, 128, 128, 128, 128, 128, 128, 128, 128, 128, 128, 128] rfl
set_option maxRecDepth 100000 in
theorem zYk_8 : ∀ z ∈ [256, 257, 258, 259, 260, 261, 262, 263, 264, 265, 266, 267, 268, 269, 270, 271, 272, 273, 274, 275, 276, 277, 278, 279, 280, 281, 282, 283, 284, 285, 286, 287], zYk z ∈ lw_tbl := zin_m [2058, 2062, 2066, 2054, 2049, 2069, 2078, 2073, 2081, 2090, 2094, 2098, 2085, 2102, 2106, 2121, 2118, 2115, 2110, 2125, 2129, 2133, 2137, 2141, 2150, 2145, 2166, 2158, 2162, 2153, 2174, 2169] rfl
set_option maxRecDepth 100000 in
theorem zYs_8 : ∀ z ∈ [256, 257, 258, 259, 260, 261, 262, 263, 264, 265, 266, 267, 268, 269, 270, 271, 272, 273, 274, 275, 276, 277, 278, 279, 280, 281, 282, 283, 284, 285, 286, 287], zYs z ∈ lw_tbl := zin_m [98, 99, 100, 97, 2050, 2070, 101, 2074, 2082, 102, 103, 104, 2086, 2103, 2107, 128, 128, 105, 2111, 2126, 2130, 2134, 2138, 2142, 106, 2146, 109, 107, 108, 2154, 128, 2170] rfl
theorem zYok_8 : ∀ z ∈ [256, 257, 258, 259, 260, 261, 262, 263, 264, 265, 266, 267, 268, 269, 270, 271, 272, 273, 274, 275, 276, 277, 278, 279, 280, 281, 282, 283, 284, 285, 286, 287], zYok z = true := by decide +kernel
set_option maxRecDepth 100000 in
theorem zYc_9 : ∀ z ∈ [288, 289, 290, 291, 292, 293, 294, 295], zYc z ∈ lw_tbl := zin_m [2179, 2183, 2187, 2191, 1127, 1010, 1007, 260] rfl
set_option maxRecDepth 100000 in
theorem zYi_9 : ∀ z ∈ [288, 289, 290, 291, 292, 293, 294, 295], zYi z ∈ lw_tbl := zin_m [128, 128, 128, 128, 131, 129, 129, 119] rfl
set_option maxRecDepth 100000 in
theorem zYk_9 : ∀ z ∈ [288, 289, 290, 291, 292, 293, 294, 295], zYk z ∈ lw_tbl := zin_m [2177, 2181, 2185, 2189, 1126, 1009, 1006, 259] rfl
set_option maxRecDepth 100000 in
theorem zYs_9 : ∀ z ∈ [288, 289, 290, 291, 292, 293, 294, 295], zYs z ∈ lw_tbl := zin_m [2178, 2182, 2186, 2190, 131, 129, 129, 119] rfl
theorem zYok_9 : ∀ z ∈ [288, 289, 290, 291, 292, 293, 294, 295], zYok z = true := by decide +kernel
theorem zYl : List.range 296 = [0, 1, 2, 3, 4, 5, 6, 7, 8, 9, 10, 11, 12, 13, 14, 15, 16, 17, 18, 19, 20, 21, 22, 23, 24, 25, 26, 27, 28, 29, 30, 31] ++ ([32, 33, 34, 35, 36, 37, 38, 39, 40, 41, 42, 43, 44, 45, 46, 47, 48, 49, 50, 51, 52, 53, 54, 55, 56, 57, 58, 59, 60, 61, 62, 63] ++ ([64, 65, 66, 67, 68, 69, 70, 71, 72, 73, 74, 75, 76, 77, 78, 79, 80, 81, 82, 83, 84, 85, 86, 87, 88, 89, 90, 91, 92, 93, 94, 95] ++ ([96, 97, 98, 99, 100, 101, 102, 103, 104, 105, 106, 107, 108, 109, 110, 111, 112, 113, 114, 115, 116, 117, 118, 119, 120, 121, 122, 123, 124, 125, 126, 127] ++ ([128, 129, 130, 131, 132, 133, 134, 135, 136, 137, 138, 139, 140, 141, 142, 143, 144, 145, 146, 147, 148, 149, 150, 151, 152, 153, 154, 155, 156, 157, 158, 159] ++ ([160, 161, 162, 163, 164, 165, 166, 167, 168, 169, 170, 171, 172, 173, 174, 175, 176, 177, 178, 179, 180, 181, 182, 183, 184, 185, 186, 187, 188, 189, 190, 191] ++ ([192, 193, 194, 195, 196, 197, 198, 199, 200, 201, 202, 203, 204, 205, 206, 207, 208, 209, 210, 211, 212, 213, 214, 215, 216, 217, 218, 219, 220, 221, 222, 223] ++ ([224, 225, 226, 227, 228, 229, 230, 231, 232, 233, 234, 235, 236, 237, 238, 239, 240, 241, 242, 243, 244, 245, 246, 247, 248, 249, 250, 251, 252, 253, 254, 255] ++ ([256, 257, 258, 259, 260, 261, 262, 263, 264, 265, 266, 267, 268, 269, 270, 271, 272, 273, 274, 275, 276, 277, 278, 279, 280, 281, 282, 283, 284, 285, 286, 287] ++ ([288, 289, 290, 291, 292, 293, 294, 295]))))))))) := by decide +kernel
theorem zYc_all {z : Nat} (h : z < 296) : zYc z ∈ lw_tbl := by
  have hm := List.mem_range.mpr h
  rw [zYl] at hm
  exact (List.forall_mem_append.mpr ⟨zYc_0, List.forall_mem_append.mpr ⟨zYc_1, List.forall_mem_append.mpr ⟨zYc_2, List.forall_mem_append.mpr ⟨zYc_3, List.forall_mem_append.mpr ⟨zYc_4, List.forall_mem_append.mpr ⟨zYc_5, List.forall_mem_append.mpr ⟨zYc_6, List.forall_mem_append.mpr ⟨zYc_7, List.forall_mem_append.mpr ⟨zYc_8, zYc_9⟩⟩⟩⟩⟩⟩⟩⟩⟩ : ∀ z ∈ [0, 1, 2, 3, 4, 5, 6, 7, 8, 9, 10, 11, 12, 13, 14, 15, 16, 17, 18, 19, 20, 21, 22, 23, 24, 25, 26, 27, 28, 29, 30, 31] ++ ([32, 33, 34, 35, 36, 37, 38, 39, 40, 41, 42, 43, 44, 45, 46, 47, 48, 49, 50, 51, 52, 53, 54, 55, 56, 57, 58, 59, 60, 61, 62, 63] ++ ([64, 65, 66, 67, 68, 69, 70, 71, 72, 73, 74, 75, 76, 77, 78, 79, 80, 81, 82, 83, 84, 85, 86, 87, 88, 89, 90, 91, 92, 93, 94, 95] ++ ([96, 97, 98, 99, 100, 101, 102, 103, 104, 105, 106, 107, 108, 109, 110, 111, 112, 113, 114, 115, 116, 117, 118, 119, 120, 121, 122, 123, 124, 125, 126, 127] ++ ([128, 129, 130, 131, 132, 133, 134, 135, 136, 137, 138, 139, 140, 141, 142, 143, 144, 145, 146, 147, 148, 149, 150, 151, 152, 153, 154, 155, 156, 157, 158, 159] ++ ([160, 161, 162, 163, 164, 165, 166, 167, 168, 169, 170, 171, 172, 173, 174, 175, 176, 177, 178, 179, 180, 181, 182, 183, 184, 185, 186, 187, 188, 189, 190, 191] ++ ([192, 193, 194, 195, 196, 197, 198, 199, 200, 201, 202, 203, 204, 205, 206, 207, 208, 209, 210, 211, 212, 213, 214, 215, 216, 217, 218, 219, 220, 221, 222, 223] ++ ([224, 225, 226, 227, 228, 229, 230, 231, 232, 233, 234, 235, 236, 237, 238, 239, 240, 241, 242, 243, 244, 245, 246, 247, 248, 249, 250, 251, 252, 253, 254, 255] ++ ([256, 257, 258, 259, 260, 261, 262, 263, 264, 265, 266, 267, 268, 269, 270, 271, 272, 273, 274, 275, 276, 277, 278, 279, 280, 281, 282, 283, 284, 285, 286, 287] ++ ([288, 289, 290, 291, 292, 293, 294, 295]))))))))), zYc z ∈ lw_tbl) z hm
theorem zYi_all {z : Nat} (h : z < 296) : zYi z ∈ lw_tbl := by
  have hm := List.mem_range.mpr h
  rw [zYl] at hm
  exact (List.forall_mem_append.mpr ⟨zYi_0, List.forall_mem_append.mpr ⟨zYi_1, List.forall_mem_append.mpr ⟨zYi_2, List.forall_mem_append.mpr ⟨zYi_3, List.forall_mem_append.mpr ⟨zYi_4, List.forall_mem_append.mpr ⟨zYi_5, List.forall_mem_append.mpr ⟨zYi_6, List.forall_mem_append.mpr ⟨zYi_7, List.forall_mem_append.mpr ⟨zYi_8, zYi_9⟩⟩⟩⟩⟩⟩⟩⟩⟩ : ∀ z ∈ [0, 1, 2, 3, 4, 5, 6, 7, 8, 9, 10, 11, 12, 13, 14, 15, 16, 17, 18, 19, 20, 21, 22, 23, 24, 25, 26, 27, 28, 29, 30, 31] ++ ([32, 33, 34, 35, 36, 37, 38, 39, 40, 41, 42, 43, 44, 45, 46, 47, 48, 49, 50, 51, 52, 53, 54, 55, 56, 57, 58, 59, 60, 61, 62, 63] ++ ([64, 65, 66, 67, 68, 69, 70, 71, 72, 73, 74, 75, 76, 77, 78, 79, 80, 81, 82, 83, 84, 85, 86, 87, 88, 89, 90, 91, 92, 93, 94, 95] ++ ([96, 97, 98, 99, 100, 101, 102, 103, 104, 105, 106, 107, 108, 109, 110, 111, 112, 113, 114, 115, 116, 117, 118, 119, 120, 121, 122, 123, 124, 125, 126, 127] ++ ([128, 129, 130, 131, 132, 133, 134, 135, 136, 137, 138, 139, 140, 141, 142, 143, 144, 145, 146, 147, 148, 149, 150, 151, 152, 153, 154, 155, 156, 157, 158, 159] ++ ([160, 161, 162, 163, 164, 165, 166, 167, 168, 169, 170, 171, 172, 173, 174, 175, 176, 177, 178, 179, 180, 181, 182, 183, 184, 185, 186, 187, 188, 189, 190, 191] ++ ([192, 193, 194, 195, 196, 197, 198, 199, 200, 201, 202, 203, 204, 205, 206, 207, 208, 209, 210, 211, 212, 213, 214, 215, 216, 217, 218, 219, 220, 221, 222, 223] ++ ([224, 225, 226, 227, 228, 229, 230, 231, 232, 233, 234, 235, 236, 237, 238, 239, 240, 241, 242, 243, 244, 245, 246, 247, 248, 249, 250, 251, 252, 253, 254, 255] ++ ([256, 257, 258, 259, 260, 261, 262, 263, 264, 265, 266, 267, 268, 269, 270, 271, 272, 273, 274, 275, 276, 277, 278, 279, 280, 281, 282, 283, 284, 285, 286, 287] ++ ([288, 289, 290, 291, 292, 293, 294, 295]))))))))), zYi z ∈ lw_tbl) z hm
theorem zYk_all {z : Nat} (h : z < 296) : zYk z ∈ lw_tbl := by
  have hm := List.mem_range.mpr h
  rw [zYl] at hm
  exact (List.forall_mem_append.mpr ⟨zYk_0, List.forall_mem_append.mpr ⟨zYk_1, List.forall_mem_append.mpr ⟨zYk_2, List.forall_mem_append.mpr ⟨zYk_3, List.forall_mem_append.mpr ⟨zYk_4, List.forall_mem_append.mpr ⟨zYk_5, List.forall_mem_append.mpr ⟨zYk_6, List.forall_mem_append.mpr ⟨zYk_7, List.forall_mem_append.mpr ⟨zYk_8, zYk_9⟩⟩⟩⟩⟩⟩⟩⟩⟩ : ∀ z ∈ [0, 1, 2, 3, 4, 5, 6, 7, 8, 9, 10, 11, 12, 13, 14, 15, 16, 17, 18, 19, 20, 21, 22, 23, 24, 25, 26, 27, 28, 29, 30, 31] ++ ([32, 33, 34, 35, 36, 37, 38, 39, 40, 41, 42, 43, 44, 45, 46, 47, 48, 49, 50, 51, 52, 53, 54, 55, 56, 57, 58, 59, 60, 61, 62, 63] ++ ([64, 65, 66, 67, 68, 69, 70, 71, 72, 73, 74, 75, 76, 77, 78, 79, 80, 81, 82, 83, 84, 85, 86, 87, 88, 89, 90, 91, 92, 93, 94, 95] ++ ([96, 97, 98, 99, 100, 101, 102, 103, 104, 105, 106, 107, 108, 109, 110, 111, 112, 113, 114, 115, 116, 117, 118, 119, 120, 121, 122, 123, 124, 125, 126, 127] ++ ([128, 129, 130, 131, 132, 133, 134, 135, 136, 137, 138, 139, 140, 141, 142, 143, 144, 145, 146, 147, 148, 149, 150, 151, 152, 153, 154, 155, 156, 157, 158, 159] ++ ([160, 161, 162, 163, 164, 165, 166, 167, 168, 169, 170, 171, 172, 173, 174, 175, 176, 177, 178, 179, 180, 181, 182, 183, 184, 185, 186, 187, 188, 189, 190, 191] ++ ([192, 193, 194, 195, 196, 197, 198, 199, 200, 201, 202, 203, 204, 205, 206, 207, 208, 209, 210, 211, 212, 213, 214, 215, 216, 217, 218, 219, 220, 221, 222, 223] ++ ([224, 225, 226, 227, 228, 229, 230, 231, 232, 233, 234, 235, 236, 237, 238, 239, 240, 241, 242, 243, 244, 245, 246, 247, 248, 249, 250, 251, 252, 253, 254, 255] ++ ([256, 257, 258, 259, 260, 261, 262, 263, 264, 265, 266, 267, 268, 269, 270, 271, 272, 273, 274, 275, 276, 277, 278, 279, 280, 281, 282, 283, 284, 285, 286, 287] ++ ([288, 289, 290, 291, 292, 293, 294, 295]))))))))), zYk z ∈ lw_tbl) z hm
theorem zYs_all {z : Nat} (h : z < 296) : zYs z ∈ lw_tbl := by
  have hm := List.mem_range.mpr h
  rw [zYl] at hm
  exact (List.forall_mem_append.mpr ⟨zYs_0, List.forall_mem_append.mpr ⟨zYs_1, List.forall_mem_append.mpr ⟨zYs_2, List.forall_mem_append.mpr ⟨zYs_3, List.forall_mem_append.mpr ⟨zYs_4, List.forall_mem_append.mpr ⟨zYs_5, List.forall_mem_append.mpr ⟨zYs_6, List.forall_mem_append.mpr ⟨zYs_7, List.forall_mem_append.mpr ⟨zYs_8, zYs_9⟩⟩⟩⟩⟩⟩⟩⟩⟩ : ∀ z ∈ [0, 1, 2, 3, 4, 5, 6, 7, 8, 9, 10, 11, 12, 13, 14, 15, 16, 17, 18, 19, 20, 21, 22, 23, 24, 25, 26, 27, 28, 29, 30, 31] ++ ([32, 33, 34, 35, 36, 37, 38, 39, 40, 41, 42, 43, 44, 45, 46, 47, 48, 49, 50, 51, 52, 53, 54, 55, 56, 57, 58, 59, 60, 61, 62, 63] ++ ([64, 65, 66, 67, 68, 69, 70, 71, 72, 73, 74, 75, 76, 77, 78, 79, 80, 81, 82, 83, 84, 85, 86, 87, 88, 89, 90, 91, 92, 93, 94, 95] ++ ([96, 97, 98, 99, 100, 101, 102, 103, 104, 105, 106, 107, 108, 109, 110, 111, 112, 113, 114, 115, 116, 117, 118, 119, 120, 121, 122, 123, 124, 125, 126, 127] ++ ([128, 129, 130, 131, 132, 133, 134, 135, 136, 137, 138, 139, 140, 141, 142, 143, 144, 145, 146, 147, 148, 149, 150, 151, 152, 153, 154, 155, 156, 157, 158, 159] ++ ([160, 161, 162, 163, 164, 165, 166, 167, 168, 169, 170, 171, 172, 173, 174, 175, 176, 177, 178, 179, 180, 181, 182, 183, 184, 185, 186, 187, 188, 189, 190, 191] ++ ([192, 193, 194, 195, 196, 197, 198, 199, 200, 201, 202, 203, 204, 205, 206, 207, 208, 209, 210, 211, 212, 213, 214, 215, 216, 217, 218, 219, 220, 221, 222, 223] ++ ([224, 225, 226, 227, 228, 229, 230, 231, 232, 233, 234, 235, 236, 237, 238, 239, 240, 241, 242, 243, 244, 245, 246, 247, 248, 249, 250, 251, 252, 253, 254, 255] ++ ([256, 257, 258, 259, 260, 261, 262, 263, 264, 265, 266, 267, 268, 269, 270, 271, 272, 273, 274, 275, 276, 277, 278, 279, 280, 281, 282, 283, 284, 285, 286, 287] ++ ([288, 289, 290, 291, 292, 293, 294, 295]))))))))), zYs z ∈ lw_tbl) z hm
theorem zYok_all {z : Nat} (h : z < 296) : zYok z = true := by
  have hm := List.mem_range.mpr h
  rw [zYl] at hm
  exact (List.forall_mem_append.mpr ⟨zYok_0, List.forall_mem_append.mpr ⟨zYok_1, List.forall_mem_append.mpr ⟨zYok_2, List.forall_mem_append.mpr ⟨zYok_3, List.forall_mem_append.mpr ⟨zYok_4, List.forall_mem_append.mpr ⟨zYok_5, List.forall_mem_append.mpr ⟨zYok_6, List.forall_mem_append.mpr ⟨zYok_7, List.forall_mem_append.mpr ⟨zYok_8, zYok_9⟩⟩⟩⟩⟩⟩⟩⟩⟩ : ∀ z ∈ [0, 1, 2, 3, 4, 5, 6, 7, 8, 9, 10, 11, 12, 13, 14, 15, 16, 17, 18, 19, 20, 21, 22, 23, 24, 25, 26, 27, 28, 29, 30, 31] ++ ([32, 33, 34, 35, 36, 37, 38, 39, 40, 41, 42, 43, 44, 45, 46, 47, 48, 49, 50, 51, 52, 53, 54, 55, 56, 57, 58, 59, 60, 61, 62, 63] ++ ([64, 65, 66, 67, 68, 69, 70, 71, 72, 73, 74, 75, 76, 77, 78, 79, 80, 81, 82, 83, 84, 85, 86, 87, 88, 89, 90, 91, 92, 93, 94, 95] ++ ([96, 97, 98, 99, 100, 101, 102, 103, 104, 105, 106, 107, 108, 109, 110, 111, 112, 113, 114, 115, 116, 117, 118, 119, 120, 121, 122, 123, 124, 125, 126, 127] ++ ([128, 129, 130, 131, 132, 133, 134, 135, 136, 137, 138, 139, 140, 141, 142, 143, 144, 145, 146, 147, 148, 149, 150, 151, 152, 153, 154, 155, 156, 157, 158, 159] ++ ([160, 161, 162, 163, 164, 165, 166, 167, 168, 169, 170, 171, 172, 173, 174, 175, 176, 177, 178, 179, 180, 181, 182, 183, 184, 185, 186, 187, 188, 189, 190, 191] ++ ([192, 193, 194, 195, 196, 197, 198, 199, 200, 201, 202, 203, 204, 205, 206, 207, 208, 209, 210, 211, 212, 213, 214, 215, 216, 217, 218, 219, 220, 221, 222, 223] ++ ([224, 225, 226, 227, 228, 229, 230, 231, 232, 233, 234, 235, 236, 237, 238, 239, 240, 241, 242, 243, 244, 245, 246, 247, 248, 249, 250, 251, 252, 253, 254, 255] ++ ([256, 257, 258, 259, 260, 261, 262, 263, 264, 265, 266, 267, 268, 269, 270, 271, 272, 273, 274, 275, 276, 277, 278, 279, 280, 281, 282, 283, 284, 285, 286, 287] ++ ([288, 289, 290, 291, 292, 293, 294, 295]))))))))), zYok z = true) z hm
def zMw (c : Nat) (e : Nat × Nat × Nat × Nat) : Cond := match e.2.1 with
  | 3 => .methodLinkNest (zcl c) e.1 (zyn e.2.2.1) "GaleRoof"
  | 4 => .methodLinkNest (zcl c) e.1 (zyn e.2.2.1) "GaleRoof"
  | 5 => .methodLink (zcl c) e.1 Lib.objectInit
  | 6 => .methodLink (zcl c) e.1 arraycopyName
  | 7 => .methodLink (zcl c) e.1 ⟨"java/lang/String", "length", "()I"⟩
  | 8 => .methodLink (zcl c) e.1 ⟨"java/lang/String", "charAt", "(I)C"⟩
  | _ => .methodLink (zcl c) e.1 (zyn e.2.2.1)
set_option maxRecDepth 100000 in
theorem zMw_0 : ∀ e ∈ zMl.getD 0 [], zMw 0 e ∈ lw_tbl := zin_m [600, 602, 1226, 1227, 1231, 1235, 1236, 1245, 1249, 1250, 1253] rfl
set_option maxRecDepth 100000 in
theorem zMw_1 : ∀ e ∈ zMl.getD 1 [], zMw 1 e ∈ lw_tbl := zin_m [363, 957, 958, 962, 978, 982, 983, 999, 1000, 1001, 1005, 1008, 1011, 1083] rfl
set_option maxRecDepth 100000 in
theorem zMw_2 : ∀ e ∈ zMl.getD 2 [], zMw 2 e ∈ lw_tbl := zin_m [237, 724, 729, 1314, 1315] rfl
set_option maxRecDepth 100000 in
theorem zMw_3 : ∀ e ∈ zMl.getD 3 [], zMw 3 e ∈ lw_tbl := zin_m [552, 554, 1104, 1113, 1121, 1125, 1151, 1152, 1156, 1160, 1164, 1168, 1184, 1204] rfl
set_option maxRecDepth 100000 in
theorem zMw_4 : ∀ e ∈ zMl.getD 4 [], zMw 4 e ∈ lw_tbl := zin_m [522, 801, 802, 841, 845, 849, 853, 857, 861, 865, 869, 873, 877, 881, 885, 889, 893, 897, 901, 905, 909] rfl
set_option maxRecDepth 100000 in
theorem zMw_5 : ∀ e ∈ zMl.getD 5 [], zMw 5 e ∈ lw_tbl := zin_m [437, 719, 720, 1117] rfl
set_option maxRecDepth 100000 in
theorem zMw_6 : ∀ e ∈ zMl.getD 6 [], zMw 6 e ∈ lw_tbl := zin_m [431, 434, 715, 732, 1366, 1367] rfl
set_option maxRecDepth 100000 in
theorem zMw_7 : ∀ e ∈ zMl.getD 7 [], zMw 7 e ∈ lw_tbl := zin_m [145, 147, 157, 195, 806, 810, 813, 817, 820, 824, 827, 833, 837] rfl
set_option maxRecDepth 100000 in
theorem zMw_8 : ∀ e ∈ zMl.getD 8 [], zMw 8 e ∈ lw_tbl := zin_m [618, 620, 1277, 1278, 1279, 1281, 1282, 1286] rfl
set_option maxRecDepth 100000 in
theorem zMw_9 : ∀ e ∈ zMl.getD 9 [], zMw 9 e ∈ lw_tbl := zin_m [253, 254, 258, 261] rfl
set_option maxRecDepth 100000 in
theorem zMw_10 : ∀ e ∈ zMl.getD 10 [], zMw 10 e ∈ lw_tbl := zin_m [659, 1328, 1332, 1342, 1354] rfl
set_option maxRecDepth 100000 in
theorem zMw_11 : ∀ e ∈ zMl.getD 11 [], zMw 11 e ∈ lw_tbl := zin_m [137, 142, 234, 250, 360, 428, 519, 549, 597, 615, 656, 707, 711, 733, 737, 785, 797, 918, 934, 950, 953, 970, 974, 991, 995, 1019, 1043, 1047, 1050, 1062, 1066, 1079, 1100, 1109, 1135, 1147, 1180, 1196, 1200, 1205, 1214, 1222, 1241, 1261, 1273, 1291, 1294, 1302, 1310, 1320, 1324, 1338, 1345, 1350, 1362, 1376, 1377] rfl
set_option maxRecDepth 100000 in
theorem zMw_12 : ∀ e ∈ zMl.getD 12 [], zMw 12 e ∈ lw_tbl := zin_m [1386, 1387, 1390, 1394, 1398, 1402, 1406, 1410, 1414, 1418, 1422, 1426, 1430, 1434, 1743, 1755, 1759, 1763, 1767, 1770, 1773, 1777, 1781, 1785, 1789, 1793, 1797, 1801, 1805, 1809, 1813, 1817, 1821, 1825, 1829, 1841, 1845, 1860, 1876, 1880, 1884, 1892, 1896, 1900, 1904, 1908, 1912, 1916, 1920, 1923, 1931, 1935, 1939, 1947, 1959, 1975, 1982, 2001, 2017, 2025, 2029, 2033, 2040, 2052, 2056, 2060, 2064, 2076, 2088, 2092, 2096, 2113, 2117, 2120, 2148, 2156, 2160, 2164, 2173] rfl
set_option maxRecDepth 100000 in
theorem zMw_13 : ∀ e ∈ zMl.getD 13 [], zMw 13 e ∈ lw_tbl := zin_m [] rfl
set_option maxRecDepth 100000 in
theorem zMw_14 : ∀ e ∈ zMl.getD 14 [], zMw 14 e ∈ lw_tbl := zin_m [] rfl
set_option maxRecDepth 100000 in
theorem zMw_15 : ∀ e ∈ zMl.getD 15 [], zMw 15 e ∈ lw_tbl := zin_m [] rfl
set_option maxRecDepth 100000 in
theorem zMw_16 : ∀ e ∈ zMl.getD 16 [], zMw 16 e ∈ lw_tbl := zin_m [134, 781, 789, 793, 910, 914, 922, 926, 930, 938, 942, 946, 966, 987, 1015, 1023, 1027, 1031, 1035, 1039, 1054, 1058, 1067, 1071, 1075, 1087, 1091, 1095, 1105, 1131, 1139, 1143, 1172, 1176, 1188, 1192, 1210, 1218, 1237, 1257, 1265, 1269, 1287, 1298, 1306, 1316, 1333, 1346, 1358, 1368, 1372, 1383, 1739, 1747, 1751, 1833, 1837, 1848, 1852, 1856, 1864, 1868, 1872, 1888, 1927, 1943, 1951, 1955, 1963, 1967, 1971, 1978, 1985, 1989, 1993, 1997, 2005, 2009, 2013, 2021, 2036, 2044, 2048, 2068, 2072, 2080, 2084, 2101, 2105, 2109, 2124, 2128, 2132, 2136, 2140, 2144, 2152, 2168, 2176, 2180, 2184, 2188] rfl
theorem zMw_all : ∀ c, c < 17 → ∀ e ∈ zMl.getD c [], zMw c e ∈ lw_tbl
  | 0, _ => zMw_0
  | 1, _ => zMw_1
  | 2, _ => zMw_2
  | 3, _ => zMw_3
  | 4, _ => zMw_4
  | 5, _ => zMw_5
  | 6, _ => zMw_6
  | 7, _ => zMw_7
  | 8, _ => zMw_8
  | 9, _ => zMw_9
  | 10, _ => zMw_10
  | 11, _ => zMw_11
  | 12, _ => zMw_12
  | 13, _ => zMw_13
  | 14, _ => zMw_14
  | 15, _ => zMw_15
  | 16, _ => zMw_16
  | n + 17, h => absurd h (by omega)
def zMk (e : Nat × Nat × Nat × Nat) : Bool := match e.2.1 with
  | 0 => zKd e.2.2.1 == 0 && zNp_ e.2.2.1 == e.2.2.2
  | 1 => zKd e.2.2.1 == 1 && zNp_ e.2.2.1 == e.2.2.2
  | 2 => zKd e.2.2.1 == 2 && zNp_ e.2.2.1 == e.2.2.2 && zrt e.2.2.1 == none
  | 3 => zKd e.2.2.1 == 2 && zNp_ e.2.2.1 == e.2.2.2 && zrt e.2.2.1 == none
  | 4 => zKd e.2.2.1 == 1 && zNp_ e.2.2.1 == e.2.2.2
  | 5 => true
  | 6 => true
  | 7 => true
  | 8 => true
  | _ => false
theorem zMk_all : ∀ l ∈ zMl, ∀ e ∈ l, zMk e = true ∧ e.2.2.1 < 296 := by decide +kernel
theorem zmr_ok {c k kd y np : Nat} (h : zmr c k = some (kd, y, np)) : zMw c (k, kd, y, np) ∈ lw_tbl ∧ zMk (k, kd, y, np) = true ∧ y < 296 := by
  unfold zmr at h
  rw [Option.map_eq_some_iff] at h
  obtain ⟨e, h1, h2⟩ := h
  have hm := List.mem_of_find?_eq_some h1
  have hk := List.find?_some h1
  have hk : e.1 = k := by simpa using hk
  have hc := getD_range (n := 17) rfl hm
  obtain ⟨e1, e2⟩ := e
  simp only at hk h2
  subst hk; subst h2
  exact ⟨zMw_all c hc _ hm, zMk_all _ (getD_mem hm) _ hm⟩
def zCiw (c : Nat) (e : Nat × Int) : Cond := Cond.constant (zcl c) e.1 (Int32.ofInt e.2)
set_option maxRecDepth 100000 in
theorem zCiw_0 : ∀ e ∈ zCi.getD 0 [], zCiw 0 e ∈ lw_tbl := zin_m [1256] (by decide +kernel)
set_option maxRecDepth 100000 in
theorem zCiw_1 : ∀ e ∈ zCi.getD 1 [], zCiw 1 e ∈ lw_tbl := zin_m [] (by decide +kernel)
set_option maxRecDepth 100000 in
theorem zCiw_2 : ∀ e ∈ zCi.getD 2 [], zCiw 2 e ∈ lw_tbl := zin_m [728] (by decide +kernel)
set_option maxRecDepth 100000 in
theorem zCiw_3 : ∀ e ∈ zCi.getD 3 [], zCiw 3 e ∈ lw_tbl := zin_m [1120] (by decide +kernel)
set_option maxRecDepth 100000 in
theorem zCiw_4 : ∀ e ∈ zCi.getD 4 [], zCiw 4 e ∈ lw_tbl := zin_m [] (by decide +kernel)
set_option maxRecDepth 100000 in
theorem zCiw_5 : ∀ e ∈ zCi.getD 5 [], zCiw 5 e ∈ lw_tbl := zin_m [] (by decide +kernel)
set_option maxRecDepth 100000 in
theorem zCiw_6 : ∀ e ∈ zCi.getD 6 [], zCiw 6 e ∈ lw_tbl := zin_m [] (by decide +kernel)
set_option maxRecDepth 100000 in
theorem zCiw_7 : ∀ e ∈ zCi.getD 7 [], zCiw 7 e ∈ lw_tbl := zin_m [] (by decide +kernel)
set_option maxRecDepth 100000 in
theorem zCiw_8 : ∀ e ∈ zCi.getD 8 [], zCiw 8 e ∈ lw_tbl := zin_m [1280] (by decide +kernel)
set_option maxRecDepth 100000 in
theorem zCiw_9 : ∀ e ∈ zCi.getD 9 [], zCiw 9 e ∈ lw_tbl := zin_m [] (by decide +kernel)
set_option maxRecDepth 100000 in
theorem zCiw_10 : ∀ e ∈ zCi.getD 10 [], zCiw 10 e ∈ lw_tbl := zin_m [] (by decide +kernel)
set_option maxRecDepth 100000 in
theorem zCiw_11 : ∀ e ∈ zCi.getD 11 [], zCiw 11 e ∈ lw_tbl := zin_m [973, 1099, 1209] (by decide +kernel)
set_option maxRecDepth 100000 in
theorem zCiw_12 : ∀ e ∈ zCi.getD 12 [], zCiw 12 e ∈ lw_tbl := zin_m [1895, 2100, 2123] (by decide +kernel)
set_option maxRecDepth 100000 in
theorem zCiw_13 : ∀ e ∈ zCi.getD 13 [], zCiw 13 e ∈ lw_tbl := zin_m [1128, 1129, 1130] (by decide +kernel)
set_option maxRecDepth 100000 in
theorem zCiw_14 : ∀ e ∈ zCi.getD 14 [], zCiw 14 e ∈ lw_tbl := zin_m [] (by decide +kernel)
set_option maxRecDepth 100000 in
theorem zCiw_15 : ∀ e ∈ zCi.getD 15 [], zCiw 15 e ∈ lw_tbl := zin_m [] (by decide +kernel)
set_option maxRecDepth 100000 in
theorem zCiw_16 : ∀ e ∈ zCi.getD 16 [], zCiw 16 e ∈ lw_tbl := zin_m [] (by decide +kernel)
theorem zCiw_all : ∀ c, c < 17 → ∀ e ∈ zCi.getD c [], zCiw c e ∈ lw_tbl
  | 0, _ => zCiw_0
  | 1, _ => zCiw_1
  | 2, _ => zCiw_2
  | 3, _ => zCiw_3
  | 4, _ => zCiw_4
  | 5, _ => zCiw_5
  | 6, _ => zCiw_6
  | 7, _ => zCiw_7
  | 8, _ => zCiw_8
  | 9, _ => zCiw_9
  | 10, _ => zCiw_10
  | 11, _ => zCiw_11
  | 12, _ => zCiw_12
  | 13, _ => zCiw_13
  | 14, _ => zCiw_14
  | 15, _ => zCiw_15
  | 16, _ => zCiw_16
  | n + 17, h => absurd h (by omega)
theorem zCi_rg : ∀ l ∈ zCi, ∀ e ∈ l, -2147483648 ≤ e.2 ∧ e.2 ≤ 2147483647 := by decide +kernel
theorem zci_ok {c k : Nat} {v : Int} (h : zci c k = some v) : Cond.constant (zcl c) k (Int32.ofInt v) ∈ zTW ∧ R32 v := by
  unfold zci at h
  rw [Option.map_eq_some_iff] at h
  obtain ⟨e, h1, h2⟩ := h
  have hm := List.mem_of_find?_eq_some h1
  have hk := List.find?_some h1
  have hk : e.1 = k := by simpa using hk
  have hc := getD_range (n := 17) rfl hm
  have q1 := zCiw_all c hc e hm
  have q2 := zCi_rg _ (getD_mem hm) e hm
  unfold zCiw at q1
  rw [hk, h2] at q1
  rw [h2] at q2
  exact ⟨zTW_in q1 rfl, q2⟩
def zCgw (c : Nat) (e : Nat × Int) : Cond := Cond.constantLong (zcl c) e.1 (Int64.ofInt e.2)
set_option maxRecDepth 100000 in
theorem zCgw_0 : ∀ e ∈ zCg.getD 0 [], zCgw 0 e ∈ lw_tbl := zin_m [] (by decide +kernel)
set_option maxRecDepth 100000 in
theorem zCgw_1 : ∀ e ∈ zCg.getD 1 [], zCgw 1 e ∈ lw_tbl := zin_m [] (by decide +kernel)
set_option maxRecDepth 100000 in
theorem zCgw_2 : ∀ e ∈ zCg.getD 2 [], zCgw 2 e ∈ lw_tbl := zin_m [] (by decide +kernel)
set_option maxRecDepth 100000 in
theorem zCgw_3 : ∀ e ∈ zCg.getD 3 [], zCgw 3 e ∈ lw_tbl := zin_m [] (by decide +kernel)
set_option maxRecDepth 100000 in
theorem zCgw_4 : ∀ e ∈ zCg.getD 4 [], zCgw 4 e ∈ lw_tbl := zin_m [] (by decide +kernel)
set_option maxRecDepth 100000 in
theorem zCgw_5 : ∀ e ∈ zCg.getD 5 [], zCgw 5 e ∈ lw_tbl := zin_m [] (by decide +kernel)
set_option maxRecDepth 100000 in
theorem zCgw_6 : ∀ e ∈ zCg.getD 6 [], zCgw 6 e ∈ lw_tbl := zin_m [] (by decide +kernel)
set_option maxRecDepth 100000 in
theorem zCgw_7 : ∀ e ∈ zCg.getD 7 [], zCgw 7 e ∈ lw_tbl := zin_m [198, 199, 831, 832] (by decide +kernel)
set_option maxRecDepth 100000 in
theorem zCgw_8 : ∀ e ∈ zCg.getD 8 [], zCgw 8 e ∈ lw_tbl := zin_m [] (by decide +kernel)
set_option maxRecDepth 100000 in
theorem zCgw_9 : ∀ e ∈ zCg.getD 9 [], zCgw 9 e ∈ lw_tbl := zin_m [] (by decide +kernel)
set_option maxRecDepth 100000 in
theorem zCgw_10 : ∀ e ∈ zCg.getD 10 [], zCgw 10 e ∈ lw_tbl := zin_m [] (by decide +kernel)
set_option maxRecDepth 100000 in
theorem zCgw_11 : ∀ e ∈ zCg.getD 11 [], zCgw 11 e ∈ lw_tbl := zin_m [1337] (by decide +kernel)
set_option maxRecDepth 100000 in
theorem zCgw_12 : ∀ e ∈ zCg.getD 12 [], zCgw 12 e ∈ lw_tbl := zin_m [1393, 2172] (by decide +kernel)
set_option maxRecDepth 100000 in
theorem zCgw_13 : ∀ e ∈ zCg.getD 13 [], zCgw 13 e ∈ lw_tbl := zin_m [] (by decide +kernel)
set_option maxRecDepth 100000 in
theorem zCgw_14 : ∀ e ∈ zCg.getD 14 [], zCgw 14 e ∈ lw_tbl := zin_m [] (by decide +kernel)
set_option maxRecDepth 100000 in
theorem zCgw_15 : ∀ e ∈ zCg.getD 15 [], zCgw 15 e ∈ lw_tbl := zin_m [] (by decide +kernel)
set_option maxRecDepth 100000 in
theorem zCgw_16 : ∀ e ∈ zCg.getD 16 [], zCgw 16 e ∈ lw_tbl := zin_m [] (by decide +kernel)
theorem zCgw_all : ∀ c, c < 17 → ∀ e ∈ zCg.getD c [], zCgw c e ∈ lw_tbl
  | 0, _ => zCgw_0
  | 1, _ => zCgw_1
  | 2, _ => zCgw_2
  | 3, _ => zCgw_3
  | 4, _ => zCgw_4
  | 5, _ => zCgw_5
  | 6, _ => zCgw_6
  | 7, _ => zCgw_7
  | 8, _ => zCgw_8
  | 9, _ => zCgw_9
  | 10, _ => zCgw_10
  | 11, _ => zCgw_11
  | 12, _ => zCgw_12
  | 13, _ => zCgw_13
  | 14, _ => zCgw_14
  | 15, _ => zCgw_15
  | 16, _ => zCgw_16
  | n + 17, h => absurd h (by omega)
theorem zCg_rg : ∀ l ∈ zCg, ∀ e ∈ l, -9223372036854775808 ≤ e.2 ∧ e.2 ≤ 9223372036854775807 := by decide +kernel
theorem zcg_ok {c k : Nat} {v : Int} (h : zcg c k = some v) : Cond.constantLong (zcl c) k (Int64.ofInt v) ∈ zTW ∧ R64 v := by
  unfold zcg at h
  rw [Option.map_eq_some_iff] at h
  obtain ⟨e, h1, h2⟩ := h
  have hm := List.mem_of_find?_eq_some h1
  have hk := List.find?_some h1
  have hk : e.1 = k := by simpa using hk
  have hc := getD_range (n := 17) rfl hm
  have q1 := zCgw_all c hc e hm
  have q2 := zCg_rg _ (getD_mem hm) e hm
  unfold zCgw at q1
  rw [hk, h2] at q1
  rw [h2] at q2
  exact ⟨zTW_in q1 rfl, q2⟩
def zNww (c : Nat) (e : Nat × Nat) : Cond := Cond.classLink (zcl c) e.1 (zcl e.2)
set_option maxRecDepth 100000 in
theorem zNww_0 : ∀ e ∈ zNw.getD 0 [], zNww 0 e ∈ lw_tbl := zin_m [601] rfl
set_option maxRecDepth 100000 in
theorem zNww_1 : ∀ e ∈ zNw.getD 1 [], zNww 1 e ∈ lw_tbl := zin_m [] rfl
set_option maxRecDepth 100000 in
theorem zNww_2 : ∀ e ∈ zNw.getD 2 [], zNww 2 e ∈ lw_tbl := zin_m [] rfl
set_option maxRecDepth 100000 in
theorem zNww_3 : ∀ e ∈ zNw.getD 3 [], zNww 3 e ∈ lw_tbl := zin_m [553] rfl
set_option maxRecDepth 100000 in
theorem zNww_4 : ∀ e ∈ zNw.getD 4 [], zNww 4 e ∈ lw_tbl := zin_m [] rfl
set_option maxRecDepth 100000 in
theorem zNww_5 : ∀ e ∈ zNw.getD 5 [], zNww 5 e ∈ lw_tbl := zin_m [] rfl
set_option maxRecDepth 100000 in
theorem zNww_6 : ∀ e ∈ zNw.getD 6 [], zNww 6 e ∈ lw_tbl := zin_m [432] rfl
set_option maxRecDepth 100000 in
theorem zNww_7 : ∀ e ∈ zNw.getD 7 [], zNww 7 e ∈ lw_tbl := zin_m [] rfl
set_option maxRecDepth 100000 in
theorem zNww_8 : ∀ e ∈ zNw.getD 8 [], zNww 8 e ∈ lw_tbl := zin_m [619] rfl
set_option maxRecDepth 100000 in
theorem zNww_9 : ∀ e ∈ zNw.getD 9 [], zNww 9 e ∈ lw_tbl := zin_m [] rfl
set_option maxRecDepth 100000 in
theorem zNww_10 : ∀ e ∈ zNw.getD 10 [], zNww 10 e ∈ lw_tbl := zin_m [] rfl
set_option maxRecDepth 100000 in
theorem zNww_11 : ∀ e ∈ zNw.getD 11 [], zNww 11 e ∈ lw_tbl := zin_m [140, 232, 248, 358, 426, 517, 547, 595, 613, 654] rfl
set_option maxRecDepth 100000 in
theorem zNww_12 : ∀ e ∈ zNw.getD 12 [], zNww 12 e ∈ lw_tbl := zin_m [] rfl
set_option maxRecDepth 100000 in
theorem zNww_13 : ∀ e ∈ zNw.getD 13 [], zNww 13 e ∈ lw_tbl := zin_m [] rfl
set_option maxRecDepth 100000 in
theorem zNww_14 : ∀ e ∈ zNw.getD 14 [], zNww 14 e ∈ lw_tbl := zin_m [] rfl
set_option maxRecDepth 100000 in
theorem zNww_15 : ∀ e ∈ zNw.getD 15 [], zNww 15 e ∈ lw_tbl := zin_m [] rfl
set_option maxRecDepth 100000 in
theorem zNww_16 : ∀ e ∈ zNw.getD 16 [], zNww 16 e ∈ lw_tbl := zin_m [132, 1381] rfl
theorem zNww_all : ∀ c, c < 17 → ∀ e ∈ zNw.getD c [], zNww c e ∈ lw_tbl
  | 0, _ => zNww_0
  | 1, _ => zNww_1
  | 2, _ => zNww_2
  | 3, _ => zNww_3
  | 4, _ => zNww_4
  | 5, _ => zNww_5
  | 6, _ => zNww_6
  | 7, _ => zNww_7
  | 8, _ => zNww_8
  | 9, _ => zNww_9
  | 10, _ => zNww_10
  | 11, _ => zNww_11
  | 12, _ => zNww_12
  | 13, _ => zNww_13
  | 14, _ => zNww_14
  | 15, _ => zNww_15
  | 16, _ => zNww_16
  | n + 17, h => absurd h (by omega)
set_option maxRecDepth 100000 in
theorem zIw1 : ∀ ci ∈ List.range 13, Cond.instantiable (zcl ci) (zFk.getD ci []).length ∈ lw_tbl := zin_m [596, 359, 233, 548, 518, 433, 427, 141, 614, 249, 655, 133, 1382] rfl
set_option maxRecDepth 100000 in
theorem zIw2 : ∀ ci ∈ List.range 13, Cond.initialized (zcl ci) ∈ lw_tbl := zin_m [125, 120, 117, 124, 123, 122, 121, 112, 126, 118, 127, 111, 128] rfl
theorem zNw_lt : ∀ l ∈ zNw, ∀ e ∈ l, e.2 < 13 := by decide +kernel
theorem znw_ok {c k ci : Nat} (h : znw c k = some ci) : Cond.classLink (zcl c) k (zcl ci) ∈ zTW ∧ Cond.instantiable (zcl ci) (zFk.getD ci []).length ∈ zTW ∧ Cond.initialized (zcl ci) ∈ zTW ∧ ci < 13 := by
  unfold znw at h
  rw [Option.map_eq_some_iff] at h
  obtain ⟨e, h1, h2⟩ := h
  have hm := List.mem_of_find?_eq_some h1
  have hk := List.find?_some h1
  have hk : e.1 = k := by simpa using hk
  have hc := getD_range (n := 17) rfl hm
  have q1 := zNww_all c hc e hm
  have q2 := zNw_lt _ (getD_mem hm) e hm
  unfold zNww at q1
  rw [hk, h2] at q1
  rw [h2] at q2
  exact ⟨zTW_in q1 rfl, zTW_in (zIw1 ci (List.mem_range.mpr q2)) rfl, zTW_in (zIw2 ci (List.mem_range.mpr q2)) rfl, q2⟩
set_option maxRecDepth 100000 in
theorem zAw_int : Cond.arrayClass .int ∈ zTW := zTW_at 229 rfl rfl
set_option maxRecDepth 100000 in
theorem zAw_byte : Cond.arrayClass .byte ∈ zTW := zTW_at 231 rfl rfl
set_option maxRecDepth 100000 in
theorem zAw_boolean : Cond.arrayClass .boolean ∈ zTW := zTW_at 1738 rfl rfl
set_option maxRecDepth 100000 in
theorem zAw_long : Cond.arrayClass .long ∈ zTW := zTW_at 230 rfl rfl
set_option maxRecDepth 100000 in
theorem zOw_i : Cond.instanceMethod Lib.objectInit ∈ zTW := zTW_at 138 rfl rfl
set_option maxRecDepth 100000 in
theorem zOw_c : Cond.code Lib.objectInit ⟨#[0xb1]⟩ 1 none ∈ zTW := zTW_at 139 rfl rfl
set_option maxRecDepth 100000 in
theorem zSw_n : Cond.native arraycopyName ∈ zTW := zTW_at 1119 rfl rfl
set_option maxRecDepth 100000 in
theorem zSw_s : Cond.static arraycopyName ∈ zTW := zTW_at 1118 rfl rfl
set_option maxRecDepth 100000 in
theorem zSw_i : Cond.initialized "java/lang/System" ∈ zTW := zTW_at 130 rfl rfl
set_option maxRecDepth 100000 in
theorem zLw_mn : Cond.classLink (zcl 5) 9 "[[I" ∈ zTW := zTW_at 438 rfl rfl
set_option maxRecDepth 100000 in
theorem zLw_an : Cond.classLink (zcl 11) 21 "GaleRoof$Scene" ∈ zTW := zTW_at 426 rfl rfl
