/-! PURE 3: the joint state's cells, one by one. -/
theorem g0_0 {a : Nat} {V : VV} : getF (hp a V) a 6 0 = some (.ref (a + 1)) := hp_getF (j := 0) (by decide) rfl
theorem g0_1 {a : Nat} {V : VV} : getF (hp a V) a 6 1 = some (.ref (a + 17)) := hp_getF (j := 0) (by decide) rfl
theorem g0_2 {a : Nat} {V : VV} : getF (hp a V) a 6 2 = some (.ref (a + 33)) := hp_getF (j := 0) (by decide) rfl
theorem g0_3 {a : Nat} {V : VV} : getF (hp a V) a 6 3 = some (.ref (a + 49)) := hp_getF (j := 0) (by decide) rfl
theorem g0_4 {a : Nat} {V : VV} : getF (hp a V) a 6 4 = some (.ref (a + 64)) := hp_getF (j := 0) (by decide) rfl
theorem g0_5 {a : Nat} {V : VV} : getF (hp a V) a 6 5 = some (.int (V 0 5)) := hp_getF (j := 0) (by decide) rfl
theorem p0_5 {a : Nat} {V : VV} {x : Int32} : putF (hp a V) a 6 5 (.int x) = some (hp a (updR V 0 (upd (V 0) 5 x))) := hp_putF (j := 0) (by decide) rfl (Nat.le_of_ble_eq_true rfl) rfl
theorem o0 {a : Nat} {V : VV} : isO (hp a V) a 6 = true := hp_isO (j := 0) (by decide) rfl
theorem g1_0 {a : Nat} {V : VV} : getF (hp a V) (a + 1) 0 0 = some (.ref (a + 2)) := hp_getF (j := 1) (by decide) rfl
theorem g1_1 {a : Nat} {V : VV} : getF (hp a V) (a + 1) 0 1 = some (.ref (a + 4)) := hp_getF (j := 1) (by decide) rfl
theorem g1_2 {a : Nat} {V : VV} : getF (hp a V) (a + 1) 0 2 = some (.ref (a + 6)) := hp_getF (j := 1) (by decide) rfl
theorem g1_3 {a : Nat} {V : VV} : getF (hp a V) (a + 1) 0 3 = some (.ref (a + 15)) := hp_getF (j := 1) (by decide) rfl
theorem g1_4 {a : Nat} {V : VV} : getF (hp a V) (a + 1) 0 4 = some (.int (V 1 4)) := hp_getF (j := 1) (by decide) rfl
theorem p1_4 {a : Nat} {V : VV} {x : Int32} : putF (hp a V) (a + 1) 0 4 (.int x) = some (hp a (updR V 1 (upd (V 1) 4 x))) := hp_putF (j := 1) (by decide) rfl (Nat.le_of_ble_eq_true rfl) rfl
theorem g1_5 {a : Nat} {V : VV} : getF (hp a V) (a + 1) 0 5 = some (.int (V 1 5)) := hp_getF (j := 1) (by decide) rfl
theorem p1_5 {a : Nat} {V : VV} {x : Int32} : putF (hp a V) (a + 1) 0 5 (.int x) = some (hp a (updR V 1 (upd (V 1) 5 x))) := hp_putF (j := 1) (by decide) rfl (Nat.le_of_ble_eq_true rfl) rfl
theorem o1 {a : Nat} {V : VV} : isO (hp a V) (a + 1) 0 = true := hp_isO (j := 1) (by decide) rfl
theorem g2_0 {a : Nat} {V : VV} : getF (hp a V) (a + 2) 3 0 = some (.ref (a + 3)) := hp_getF (j := 2) (by decide) rfl
theorem g2_1 {a : Nat} {V : VV} : getF (hp a V) (a + 2) 3 1 = some (.int (V 2 1)) := hp_getF (j := 2) (by decide) rfl
theorem p2_1 {a : Nat} {V : VV} {x : Int32} : putF (hp a V) (a + 2) 3 1 (.int x) = some (hp a (updR V 2 (upd (V 2) 1 x))) := hp_putF (j := 2) (by decide) rfl (Nat.le_of_ble_eq_true rfl) rfl
theorem o2 {a : Nat} {V : VV} : isO (hp a V) (a + 2) 3 = true := hp_isO (j := 2) (by decide) rfl
theorem ga3 {a : Nat} {V : VV} {i : Int32} : getA (hp a V) false (a + 3) i = if 0 ≤ i.toInt ∧ i.toInt < (96 : Nat) then some (V 3 i.toNatClampNeg) else none := hp_getA (j := 3) (by decide) (fun _ => rfl)
theorem sa3 {a : Nat} {V : VV} {i x : Int32} : setA (hp a V) false (a + 3) i x = if 0 ≤ i.toInt ∧ i.toInt < (96 : Nat) then some (hp a (updR V 3 (upd (V 3) i.toNatClampNeg x))) else none := hp_setA (j := 3) (by decide) (fun _ => rfl)
theorem ga3n {a : Nat} {V : VV} {m : Nat} (h : m < 96) : getA (hp a V) false (a + 3) (nI m) = some (V 3 m) := by
  rw [ga3, nI_toInt (by omega), nI_clamp (by omega), if_pos ⟨by omega, by omega⟩]
theorem sa3n {a : Nat} {V : VV} {m : Nat} {x : Int32} (h : m < 96) : setA (hp a V) false (a + 3) (nI m) x = some (hp a (updR V 3 (upd (V 3) m x))) := by
  rw [sa3, nI_toInt (by omega), nI_clamp (by omega), if_pos ⟨by omega, by omega⟩]
theorem hl3 {a : Nat} {V : VV} : hp a V (a + 3) = some (.inr (false, 96, V 3)) := hp_len (j := 3) (by decide) (fun _ => rfl)
theorem g4_0 {a : Nat} {V : VV} : getF (hp a V) (a + 4) 3 0 = some (.ref (a + 5)) := hp_getF (j := 4) (by decide) rfl
theorem g4_1 {a : Nat} {V : VV} : getF (hp a V) (a + 4) 3 1 = some (.int (V 4 1)) := hp_getF (j := 4) (by decide) rfl
theorem p4_1 {a : Nat} {V : VV} {x : Int32} : putF (hp a V) (a + 4) 3 1 (.int x) = some (hp a (updR V 4 (upd (V 4) 1 x))) := hp_putF (j := 4) (by decide) rfl (Nat.le_of_ble_eq_true rfl) rfl
theorem o4 {a : Nat} {V : VV} : isO (hp a V) (a + 4) 3 = true := hp_isO (j := 4) (by decide) rfl
theorem ga5 {a : Nat} {V : VV} {i : Int32} : getA (hp a V) false (a + 5) i = if 0 ≤ i.toInt ∧ i.toInt < (33 : Nat) then some (V 5 i.toNatClampNeg) else none := hp_getA (j := 5) (by decide) (fun _ => rfl)
theorem sa5 {a : Nat} {V : VV} {i x : Int32} : setA (hp a V) false (a + 5) i x = if 0 ≤ i.toInt ∧ i.toInt < (33 : Nat) then some (hp a (updR V 5 (upd (V 5) i.toNatClampNeg x))) else none := hp_setA (j := 5) (by decide) (fun _ => rfl)
theorem ga5n {a : Nat} {V : VV} {m : Nat} (h : m < 33) : getA (hp a V) false (a + 5) (nI m) = some (V 5 m) := by
  rw [ga5, nI_toInt (by omega), nI_clamp (by omega), if_pos ⟨by omega, by omega⟩]
theorem sa5n {a : Nat} {V : VV} {m : Nat} {x : Int32} (h : m < 33) : setA (hp a V) false (a + 5) (nI m) x = some (hp a (updR V 5 (upd (V 5) m x))) := by
  rw [sa5, nI_toInt (by omega), nI_clamp (by omega), if_pos ⟨by omega, by omega⟩]
theorem hl5 {a : Nat} {V : VV} : hp a V (a + 5) = some (.inr (false, 33, V 5)) := hp_len (j := 5) (by decide) (fun _ => rfl)
theorem g6_0 {a : Nat} {V : VV} : getF (hp a V) (a + 6) 4 0 = some (.ref (a + 7)) := hp_getF (j := 6) (by decide) rfl
theorem g6_1 {a : Nat} {V : VV} : getF (hp a V) (a + 6) 4 1 = some (.ref (a + 9)) := hp_getF (j := 6) (by decide) rfl
theorem g6_2 {a : Nat} {V : VV} : getF (hp a V) (a + 6) 4 2 = some (.ref (a + 11)) := hp_getF (j := 6) (by decide) rfl
theorem g6_3 {a : Nat} {V : VV} : getF (hp a V) (a + 6) 4 3 = some (.ref (a + 13)) := hp_getF (j := 6) (by decide) rfl
theorem o6 {a : Nat} {V : VV} : isO (hp a V) (a + 6) 4 = true := hp_isO (j := 6) (by decide) rfl
theorem g7_0 {a : Nat} {V : VV} : getF (hp a V) (a + 7) 5 0 = some (.int 48) := hp_getF (j := 7) (by decide) rfl
theorem g7_1 {a : Nat} {V : VV} : getF (hp a V) (a + 7) 5 1 = some (.int 17) := hp_getF (j := 7) (by decide) rfl
theorem g7_2 {a : Nat} {V : VV} : getF (hp a V) (a + 7) 5 2 = some (.ref (a + 8)) := hp_getF (j := 7) (by decide) rfl
theorem g7_3 {a : Nat} {V : VV} : getF (hp a V) (a + 7) 5 3 = some (.int (V 7 3)) := hp_getF (j := 7) (by decide) rfl
theorem p7_3 {a : Nat} {V : VV} {x : Int32} : putF (hp a V) (a + 7) 5 3 (.int x) = some (hp a (updR V 7 (upd (V 7) 3 x))) := hp_putF (j := 7) (by decide) rfl (Nat.le_of_ble_eq_true rfl) rfl
theorem o7 {a : Nat} {V : VV} : isO (hp a V) (a + 7) 5 = true := hp_isO (j := 7) (by decide) rfl
theorem ga8 {a : Nat} {V : VV} {i : Int32} : getA (hp a V) false (a + 8) i = if 0 ≤ i.toInt ∧ i.toInt < (816 : Nat) then some (V 8 i.toNatClampNeg) else none := hp_getA (j := 8) (by decide) (fun _ => rfl)
theorem sa8 {a : Nat} {V : VV} {i x : Int32} : setA (hp a V) false (a + 8) i x = if 0 ≤ i.toInt ∧ i.toInt < (816 : Nat) then some (hp a (updR V 8 (upd (V 8) i.toNatClampNeg x))) else none := hp_setA (j := 8) (by decide) (fun _ => rfl)
theorem ga8n {a : Nat} {V : VV} {m : Nat} (h : m < 816) : getA (hp a V) false (a + 8) (nI m) = some (V 8 m) := by
  rw [ga8, nI_toInt (by omega), nI_clamp (by omega), if_pos ⟨by omega, by omega⟩]
theorem sa8n {a : Nat} {V : VV} {m : Nat} {x : Int32} (h : m < 816) : setA (hp a V) false (a + 8) (nI m) x = some (hp a (updR V 8 (upd (V 8) m x))) := by
  rw [sa8, nI_toInt (by omega), nI_clamp (by omega), if_pos ⟨by omega, by omega⟩]
theorem hl8 {a : Nat} {V : VV} : hp a V (a + 8) = some (.inr (false, 816, V 8)) := hp_len (j := 8) (by decide) (fun _ => rfl)
theorem g9_0 {a : Nat} {V : VV} : getF (hp a V) (a + 9) 5 0 = some (.int 12) := hp_getF (j := 9) (by decide) rfl
theorem g9_1 {a : Nat} {V : VV} : getF (hp a V) (a + 9) 5 1 = some (.int 3) := hp_getF (j := 9) (by decide) rfl
theorem g9_2 {a : Nat} {V : VV} : getF (hp a V) (a + 9) 5 2 = some (.ref (a + 10)) := hp_getF (j := 9) (by decide) rfl
theorem g9_3 {a : Nat} {V : VV} : getF (hp a V) (a + 9) 5 3 = some (.int (V 9 3)) := hp_getF (j := 9) (by decide) rfl
theorem p9_3 {a : Nat} {V : VV} {x : Int32} : putF (hp a V) (a + 9) 5 3 (.int x) = some (hp a (updR V 9 (upd (V 9) 3 x))) := hp_putF (j := 9) (by decide) rfl (Nat.le_of_ble_eq_true rfl) rfl
theorem o9 {a : Nat} {V : VV} : isO (hp a V) (a + 9) 5 = true := hp_isO (j := 9) (by decide) rfl
theorem ga10 {a : Nat} {V : VV} {i : Int32} : getA (hp a V) false (a + 10) i = if 0 ≤ i.toInt ∧ i.toInt < (36 : Nat) then some (V 10 i.toNatClampNeg) else none := hp_getA (j := 10) (by decide) (fun _ => rfl)
theorem sa10 {a : Nat} {V : VV} {i x : Int32} : setA (hp a V) false (a + 10) i x = if 0 ≤ i.toInt ∧ i.toInt < (36 : Nat) then some (hp a (updR V 10 (upd (V 10) i.toNatClampNeg x))) else none := hp_setA (j := 10) (by decide) (fun _ => rfl)
theorem ga10n {a : Nat} {V : VV} {m : Nat} (h : m < 36) : getA (hp a V) false (a + 10) (nI m) = some (V 10 m) := by
  rw [ga10, nI_toInt (by omega), nI_clamp (by omega), if_pos ⟨by omega, by omega⟩]
theorem sa10n {a : Nat} {V : VV} {m : Nat} {x : Int32} (h : m < 36) : setA (hp a V) false (a + 10) (nI m) x = some (hp a (updR V 10 (upd (V 10) m x))) := by
  rw [sa10, nI_toInt (by omega), nI_clamp (by omega), if_pos ⟨by omega, by omega⟩]
theorem hl10 {a : Nat} {V : VV} : hp a V (a + 10) = some (.inr (false, 36, V 10)) := hp_len (j := 10) (by decide) (fun _ => rfl)
theorem g11_0 {a : Nat} {V : VV} : getF (hp a V) (a + 11) 3 0 = some (.ref (a + 12)) := hp_getF (j := 11) (by decide) rfl
theorem g11_1 {a : Nat} {V : VV} : getF (hp a V) (a + 11) 3 1 = some (.int (V 11 1)) := hp_getF (j := 11) (by decide) rfl
theorem p11_1 {a : Nat} {V : VV} {x : Int32} : putF (hp a V) (a + 11) 3 1 (.int x) = some (hp a (updR V 11 (upd (V 11) 1 x))) := hp_putF (j := 11) (by decide) rfl (Nat.le_of_ble_eq_true rfl) rfl
theorem o11 {a : Nat} {V : VV} : isO (hp a V) (a + 11) 3 = true := hp_isO (j := 11) (by decide) rfl
theorem ga12 {a : Nat} {V : VV} {i : Int32} : getA (hp a V) false (a + 12) i = if 0 ≤ i.toInt ∧ i.toInt < (1024 : Nat) then some (V 12 i.toNatClampNeg) else none := hp_getA (j := 12) (by decide) (fun _ => rfl)
theorem sa12 {a : Nat} {V : VV} {i x : Int32} : setA (hp a V) false (a + 12) i x = if 0 ≤ i.toInt ∧ i.toInt < (1024 : Nat) then some (hp a (updR V 12 (upd (V 12) i.toNatClampNeg x))) else none := hp_setA (j := 12) (by decide) (fun _ => rfl)
theorem ga12n {a : Nat} {V : VV} {m : Nat} (h : m < 1024) : getA (hp a V) false (a + 12) (nI m) = some (V 12 m) := by
  rw [ga12, nI_toInt (by omega), nI_clamp (by omega), if_pos ⟨by omega, by omega⟩]
theorem sa12n {a : Nat} {V : VV} {m : Nat} {x : Int32} (h : m < 1024) : setA (hp a V) false (a + 12) (nI m) x = some (hp a (updR V 12 (upd (V 12) m x))) := by
  rw [sa12, nI_toInt (by omega), nI_clamp (by omega), if_pos ⟨by omega, by omega⟩]
theorem hl12 {a : Nat} {V : VV} : hp a V (a + 12) = some (.inr (false, 1024, V 12)) := hp_len (j := 12) (by decide) (fun _ => rfl)
theorem g13_0 {a : Nat} {V : VV} : getF (hp a V) (a + 13) 5 0 = some (.int 3) := hp_getF (j := 13) (by decide) rfl
theorem g13_1 {a : Nat} {V : VV} : getF (hp a V) (a + 13) 5 1 = some (.int 16) := hp_getF (j := 13) (by decide) rfl
theorem g13_2 {a : Nat} {V : VV} : getF (hp a V) (a + 13) 5 2 = some (.ref (a + 14)) := hp_getF (j := 13) (by decide) rfl
theorem g13_3 {a : Nat} {V : VV} : getF (hp a V) (a + 13) 5 3 = some (.int (V 13 3)) := hp_getF (j := 13) (by decide) rfl
theorem p13_3 {a : Nat} {V : VV} {x : Int32} : putF (hp a V) (a + 13) 5 3 (.int x) = some (hp a (updR V 13 (upd (V 13) 3 x))) := hp_putF (j := 13) (by decide) rfl (Nat.le_of_ble_eq_true rfl) rfl
theorem o13 {a : Nat} {V : VV} : isO (hp a V) (a + 13) 5 = true := hp_isO (j := 13) (by decide) rfl
theorem ga14 {a : Nat} {V : VV} {i : Int32} : getA (hp a V) false (a + 14) i = if 0 ≤ i.toInt ∧ i.toInt < (48 : Nat) then some (V 14 i.toNatClampNeg) else none := hp_getA (j := 14) (by decide) (fun _ => rfl)
theorem sa14 {a : Nat} {V : VV} {i x : Int32} : setA (hp a V) false (a + 14) i x = if 0 ≤ i.toInt ∧ i.toInt < (48 : Nat) then some (hp a (updR V 14 (upd (V 14) i.toNatClampNeg x))) else none := hp_setA (j := 14) (by decide) (fun _ => rfl)
theorem ga14n {a : Nat} {V : VV} {m : Nat} (h : m < 48) : getA (hp a V) false (a + 14) (nI m) = some (V 14 m) := by
  rw [ga14, nI_toInt (by omega), nI_clamp (by omega), if_pos ⟨by omega, by omega⟩]
theorem sa14n {a : Nat} {V : VV} {m : Nat} {x : Int32} (h : m < 48) : setA (hp a V) false (a + 14) (nI m) x = some (hp a (updR V 14 (upd (V 14) m x))) := by
  rw [sa14, nI_toInt (by omega), nI_clamp (by omega), if_pos ⟨by omega, by omega⟩]
theorem hl14 {a : Nat} {V : VV} : hp a V (a + 14) = some (.inr (false, 48, V 14)) := hp_len (j := 14) (by decide) (fun _ => rfl)
theorem g15_0 {a : Nat} {V : VV} : getF (hp a V) (a + 15) 5 0 = some (.int 196) := hp_getF (j := 15) (by decide) rfl
theorem g15_1 {a : Nat} {V : VV} : getF (hp a V) (a + 15) 5 1 = some (.int 3) := hp_getF (j := 15) (by decide) rfl
theorem g15_2 {a : Nat} {V : VV} : getF (hp a V) (a + 15) 5 2 = some (.ref (a + 16)) := hp_getF (j := 15) (by decide) rfl
theorem g15_3 {a : Nat} {V : VV} : getF (hp a V) (a + 15) 5 3 = some (.int (V 15 3)) := hp_getF (j := 15) (by decide) rfl
theorem p15_3 {a : Nat} {V : VV} {x : Int32} : putF (hp a V) (a + 15) 5 3 (.int x) = some (hp a (updR V 15 (upd (V 15) 3 x))) := hp_putF (j := 15) (by decide) rfl (Nat.le_of_ble_eq_true rfl) rfl
theorem o15 {a : Nat} {V : VV} : isO (hp a V) (a + 15) 5 = true := hp_isO (j := 15) (by decide) rfl
theorem ga16 {a : Nat} {V : VV} {i : Int32} : getA (hp a V) false (a + 16) i = if 0 ≤ i.toInt ∧ i.toInt < (588 : Nat) then some (V 16 i.toNatClampNeg) else none := hp_getA (j := 16) (by decide) (fun _ => rfl)
theorem sa16 {a : Nat} {V : VV} {i x : Int32} : setA (hp a V) false (a + 16) i x = if 0 ≤ i.toInt ∧ i.toInt < (588 : Nat) then some (hp a (updR V 16 (upd (V 16) i.toNatClampNeg x))) else none := hp_setA (j := 16) (by decide) (fun _ => rfl)
theorem ga16n {a : Nat} {V : VV} {m : Nat} (h : m < 588) : getA (hp a V) false (a + 16) (nI m) = some (V 16 m) := by
  rw [ga16, nI_toInt (by omega), nI_clamp (by omega), if_pos ⟨by omega, by omega⟩]
theorem sa16n {a : Nat} {V : VV} {m : Nat} {x : Int32} (h : m < 588) : setA (hp a V) false (a + 16) (nI m) x = some (hp a (updR V 16 (upd (V 16) m x))) := by
  rw [sa16, nI_toInt (by omega), nI_clamp (by omega), if_pos ⟨by omega, by omega⟩]
theorem hl16 {a : Nat} {V : VV} : hp a V (a + 16) = some (.inr (false, 588, V 16)) := hp_len (j := 16) (by decide) (fun _ => rfl)
theorem g17_0 {a : Nat} {V : VV} : getF (hp a V) (a + 17) 0 0 = some (.ref (a + 18)) := hp_getF (j := 17) (by decide) rfl
theorem g17_1 {a : Nat} {V : VV} : getF (hp a V) (a + 17) 0 1 = some (.ref (a + 20)) := hp_getF (j := 17) (by decide) rfl
theorem g17_2 {a : Nat} {V : VV} : getF (hp a V) (a + 17) 0 2 = some (.ref (a + 22)) := hp_getF (j := 17) (by decide) rfl
theorem g17_3 {a : Nat} {V : VV} : getF (hp a V) (a + 17) 0 3 = some (.ref (a + 31)) := hp_getF (j := 17) (by decide) rfl
theorem g17_4 {a : Nat} {V : VV} : getF (hp a V) (a + 17) 0 4 = some (.int (V 17 4)) := hp_getF (j := 17) (by decide) rfl
theorem p17_4 {a : Nat} {V : VV} {x : Int32} : putF (hp a V) (a + 17) 0 4 (.int x) = some (hp a (updR V 17 (upd (V 17) 4 x))) := hp_putF (j := 17) (by decide) rfl (Nat.le_of_ble_eq_true rfl) rfl
theorem g17_5 {a : Nat} {V : VV} : getF (hp a V) (a + 17) 0 5 = some (.int (V 17 5)) := hp_getF (j := 17) (by decide) rfl
theorem p17_5 {a : Nat} {V : VV} {x : Int32} : putF (hp a V) (a + 17) 0 5 (.int x) = some (hp a (updR V 17 (upd (V 17) 5 x))) := hp_putF (j := 17) (by decide) rfl (Nat.le_of_ble_eq_true rfl) rfl
theorem o17 {a : Nat} {V : VV} : isO (hp a V) (a + 17) 0 = true := hp_isO (j := 17) (by decide) rfl
theorem g18_0 {a : Nat} {V : VV} : getF (hp a V) (a + 18) 3 0 = some (.ref (a + 19)) := hp_getF (j := 18) (by decide) rfl
theorem g18_1 {a : Nat} {V : VV} : getF (hp a V) (a + 18) 3 1 = some (.int (V 18 1)) := hp_getF (j := 18) (by decide) rfl
theorem p18_1 {a : Nat} {V : VV} {x : Int32} : putF (hp a V) (a + 18) 3 1 (.int x) = some (hp a (updR V 18 (upd (V 18) 1 x))) := hp_putF (j := 18) (by decide) rfl (Nat.le_of_ble_eq_true rfl) rfl
theorem o18 {a : Nat} {V : VV} : isO (hp a V) (a + 18) 3 = true := hp_isO (j := 18) (by decide) rfl
theorem ga19 {a : Nat} {V : VV} {i : Int32} : getA (hp a V) false (a + 19) i = if 0 ≤ i.toInt ∧ i.toInt < (96 : Nat) then some (V 19 i.toNatClampNeg) else none := hp_getA (j := 19) (by decide) (fun _ => rfl)
theorem sa19 {a : Nat} {V : VV} {i x : Int32} : setA (hp a V) false (a + 19) i x = if 0 ≤ i.toInt ∧ i.toInt < (96 : Nat) then some (hp a (updR V 19 (upd (V 19) i.toNatClampNeg x))) else none := hp_setA (j := 19) (by decide) (fun _ => rfl)
theorem ga19n {a : Nat} {V : VV} {m : Nat} (h : m < 96) : getA (hp a V) false (a + 19) (nI m) = some (V 19 m) := by
  rw [ga19, nI_toInt (by omega), nI_clamp (by omega), if_pos ⟨by omega, by omega⟩]
theorem sa19n {a : Nat} {V : VV} {m : Nat} {x : Int32} (h : m < 96) : setA (hp a V) false (a + 19) (nI m) x = some (hp a (updR V 19 (upd (V 19) m x))) := by
  rw [sa19, nI_toInt (by omega), nI_clamp (by omega), if_pos ⟨by omega, by omega⟩]
theorem hl19 {a : Nat} {V : VV} : hp a V (a + 19) = some (.inr (false, 96, V 19)) := hp_len (j := 19) (by decide) (fun _ => rfl)
theorem g20_0 {a : Nat} {V : VV} : getF (hp a V) (a + 20) 3 0 = some (.ref (a + 21)) := hp_getF (j := 20) (by decide) rfl
theorem g20_1 {a : Nat} {V : VV} : getF (hp a V) (a + 20) 3 1 = some (.int (V 20 1)) := hp_getF (j := 20) (by decide) rfl
theorem p20_1 {a : Nat} {V : VV} {x : Int32} : putF (hp a V) (a + 20) 3 1 (.int x) = some (hp a (updR V 20 (upd (V 20) 1 x))) := hp_putF (j := 20) (by decide) rfl (Nat.le_of_ble_eq_true rfl) rfl
theorem o20 {a : Nat} {V : VV} : isO (hp a V) (a + 20) 3 = true := hp_isO (j := 20) (by decide) rfl
theorem ga21 {a : Nat} {V : VV} {i : Int32} : getA (hp a V) false (a + 21) i = if 0 ≤ i.toInt ∧ i.toInt < (33 : Nat) then some (V 21 i.toNatClampNeg) else none := hp_getA (j := 21) (by decide) (fun _ => rfl)
theorem sa21 {a : Nat} {V : VV} {i x : Int32} : setA (hp a V) false (a + 21) i x = if 0 ≤ i.toInt ∧ i.toInt < (33 : Nat) then some (hp a (updR V 21 (upd (V 21) i.toNatClampNeg x))) else none := hp_setA (j := 21) (by decide) (fun _ => rfl)
theorem ga21n {a : Nat} {V : VV} {m : Nat} (h : m < 33) : getA (hp a V) false (a + 21) (nI m) = some (V 21 m) := by
  rw [ga21, nI_toInt (by omega), nI_clamp (by omega), if_pos ⟨by omega, by omega⟩]
theorem sa21n {a : Nat} {V : VV} {m : Nat} {x : Int32} (h : m < 33) : setA (hp a V) false (a + 21) (nI m) x = some (hp a (updR V 21 (upd (V 21) m x))) := by
  rw [sa21, nI_toInt (by omega), nI_clamp (by omega), if_pos ⟨by omega, by omega⟩]
theorem hl21 {a : Nat} {V : VV} : hp a V (a + 21) = some (.inr (false, 33, V 21)) := hp_len (j := 21) (by decide) (fun _ => rfl)
theorem g22_0 {a : Nat} {V : VV} : getF (hp a V) (a + 22) 4 0 = some (.ref (a + 23)) := hp_getF (j := 22) (by decide) rfl
theorem g22_1 {a : Nat} {V : VV} : getF (hp a V) (a + 22) 4 1 = some (.ref (a + 25)) := hp_getF (j := 22) (by decide) rfl
theorem g22_2 {a : Nat} {V : VV} : getF (hp a V) (a + 22) 4 2 = some (.ref (a + 27)) := hp_getF (j := 22) (by decide) rfl
theorem g22_3 {a : Nat} {V : VV} : getF (hp a V) (a + 22) 4 3 = some (.ref (a + 29)) := hp_getF (j := 22) (by decide) rfl
theorem o22 {a : Nat} {V : VV} : isO (hp a V) (a + 22) 4 = true := hp_isO (j := 22) (by decide) rfl
theorem g23_0 {a : Nat} {V : VV} : getF (hp a V) (a + 23) 5 0 = some (.int 48) := hp_getF (j := 23) (by decide) rfl
theorem g23_1 {a : Nat} {V : VV} : getF (hp a V) (a + 23) 5 1 = some (.int 17) := hp_getF (j := 23) (by decide) rfl
theorem g23_2 {a : Nat} {V : VV} : getF (hp a V) (a + 23) 5 2 = some (.ref (a + 24)) := hp_getF (j := 23) (by decide) rfl
theorem g23_3 {a : Nat} {V : VV} : getF (hp a V) (a + 23) 5 3 = some (.int (V 23 3)) := hp_getF (j := 23) (by decide) rfl
theorem p23_3 {a : Nat} {V : VV} {x : Int32} : putF (hp a V) (a + 23) 5 3 (.int x) = some (hp a (updR V 23 (upd (V 23) 3 x))) := hp_putF (j := 23) (by decide) rfl (Nat.le_of_ble_eq_true rfl) rfl
theorem o23 {a : Nat} {V : VV} : isO (hp a V) (a + 23) 5 = true := hp_isO (j := 23) (by decide) rfl
theorem ga24 {a : Nat} {V : VV} {i : Int32} : getA (hp a V) false (a + 24) i = if 0 ≤ i.toInt ∧ i.toInt < (816 : Nat) then some (V 24 i.toNatClampNeg) else none := hp_getA (j := 24) (by decide) (fun _ => rfl)
theorem sa24 {a : Nat} {V : VV} {i x : Int32} : setA (hp a V) false (a + 24) i x = if 0 ≤ i.toInt ∧ i.toInt < (816 : Nat) then some (hp a (updR V 24 (upd (V 24) i.toNatClampNeg x))) else none := hp_setA (j := 24) (by decide) (fun _ => rfl)
theorem ga24n {a : Nat} {V : VV} {m : Nat} (h : m < 816) : getA (hp a V) false (a + 24) (nI m) = some (V 24 m) := by
  rw [ga24, nI_toInt (by omega), nI_clamp (by omega), if_pos ⟨by omega, by omega⟩]
theorem sa24n {a : Nat} {V : VV} {m : Nat} {x : Int32} (h : m < 816) : setA (hp a V) false (a + 24) (nI m) x = some (hp a (updR V 24 (upd (V 24) m x))) := by
  rw [sa24, nI_toInt (by omega), nI_clamp (by omega), if_pos ⟨by omega, by omega⟩]
theorem hl24 {a : Nat} {V : VV} : hp a V (a + 24) = some (.inr (false, 816, V 24)) := hp_len (j := 24) (by decide) (fun _ => rfl)
theorem g25_0 {a : Nat} {V : VV} : getF (hp a V) (a + 25) 5 0 = some (.int 12) := hp_getF (j := 25) (by decide) rfl
theorem g25_1 {a : Nat} {V : VV} : getF (hp a V) (a + 25) 5 1 = some (.int 3) := hp_getF (j := 25) (by decide) rfl
theorem g25_2 {a : Nat} {V : VV} : getF (hp a V) (a + 25) 5 2 = some (.ref (a + 26)) := hp_getF (j := 25) (by decide) rfl
theorem g25_3 {a : Nat} {V : VV} : getF (hp a V) (a + 25) 5 3 = some (.int (V 25 3)) := hp_getF (j := 25) (by decide) rfl
theorem p25_3 {a : Nat} {V : VV} {x : Int32} : putF (hp a V) (a + 25) 5 3 (.int x) = some (hp a (updR V 25 (upd (V 25) 3 x))) := hp_putF (j := 25) (by decide) rfl (Nat.le_of_ble_eq_true rfl) rfl
theorem o25 {a : Nat} {V : VV} : isO (hp a V) (a + 25) 5 = true := hp_isO (j := 25) (by decide) rfl
theorem ga26 {a : Nat} {V : VV} {i : Int32} : getA (hp a V) false (a + 26) i = if 0 ≤ i.toInt ∧ i.toInt < (36 : Nat) then some (V 26 i.toNatClampNeg) else none := hp_getA (j := 26) (by decide) (fun _ => rfl)
theorem sa26 {a : Nat} {V : VV} {i x : Int32} : setA (hp a V) false (a + 26) i x = if 0 ≤ i.toInt ∧ i.toInt < (36 : Nat) then some (hp a (updR V 26 (upd (V 26) i.toNatClampNeg x))) else none := hp_setA (j := 26) (by decide) (fun _ => rfl)
theorem ga26n {a : Nat} {V : VV} {m : Nat} (h : m < 36) : getA (hp a V) false (a + 26) (nI m) = some (V 26 m) := by
  rw [ga26, nI_toInt (by omega), nI_clamp (by omega), if_pos ⟨by omega, by omega⟩]
theorem sa26n {a : Nat} {V : VV} {m : Nat} {x : Int32} (h : m < 36) : setA (hp a V) false (a + 26) (nI m) x = some (hp a (updR V 26 (upd (V 26) m x))) := by
  rw [sa26, nI_toInt (by omega), nI_clamp (by omega), if_pos ⟨by omega, by omega⟩]
theorem hl26 {a : Nat} {V : VV} : hp a V (a + 26) = some (.inr (false, 36, V 26)) := hp_len (j := 26) (by decide) (fun _ => rfl)
theorem g27_0 {a : Nat} {V : VV} : getF (hp a V) (a + 27) 3 0 = some (.ref (a + 28)) := hp_getF (j := 27) (by decide) rfl
theorem g27_1 {a : Nat} {V : VV} : getF (hp a V) (a + 27) 3 1 = some (.int (V 27 1)) := hp_getF (j := 27) (by decide) rfl
theorem p27_1 {a : Nat} {V : VV} {x : Int32} : putF (hp a V) (a + 27) 3 1 (.int x) = some (hp a (updR V 27 (upd (V 27) 1 x))) := hp_putF (j := 27) (by decide) rfl (Nat.le_of_ble_eq_true rfl) rfl
theorem o27 {a : Nat} {V : VV} : isO (hp a V) (a + 27) 3 = true := hp_isO (j := 27) (by decide) rfl
theorem ga28 {a : Nat} {V : VV} {i : Int32} : getA (hp a V) false (a + 28) i = if 0 ≤ i.toInt ∧ i.toInt < (1024 : Nat) then some (V 28 i.toNatClampNeg) else none := hp_getA (j := 28) (by decide) (fun _ => rfl)
theorem sa28 {a : Nat} {V : VV} {i x : Int32} : setA (hp a V) false (a + 28) i x = if 0 ≤ i.toInt ∧ i.toInt < (1024 : Nat) then some (hp a (updR V 28 (upd (V 28) i.toNatClampNeg x))) else none := hp_setA (j := 28) (by decide) (fun _ => rfl)
theorem ga28n {a : Nat} {V : VV} {m : Nat} (h : m < 1024) : getA (hp a V) false (a + 28) (nI m) = some (V 28 m) := by
  rw [ga28, nI_toInt (by omega), nI_clamp (by omega), if_pos ⟨by omega, by omega⟩]
theorem sa28n {a : Nat} {V : VV} {m : Nat} {x : Int32} (h : m < 1024) : setA (hp a V) false (a + 28) (nI m) x = some (hp a (updR V 28 (upd (V 28) m x))) := by
  rw [sa28, nI_toInt (by omega), nI_clamp (by omega), if_pos ⟨by omega, by omega⟩]
theorem hl28 {a : Nat} {V : VV} : hp a V (a + 28) = some (.inr (false, 1024, V 28)) := hp_len (j := 28) (by decide) (fun _ => rfl)
theorem g29_0 {a : Nat} {V : VV} : getF (hp a V) (a + 29) 5 0 = some (.int 3) := hp_getF (j := 29) (by decide) rfl
theorem g29_1 {a : Nat} {V : VV} : getF (hp a V) (a + 29) 5 1 = some (.int 16) := hp_getF (j := 29) (by decide) rfl
theorem g29_2 {a : Nat} {V : VV} : getF (hp a V) (a + 29) 5 2 = some (.ref (a + 30)) := hp_getF (j := 29) (by decide) rfl
theorem g29_3 {a : Nat} {V : VV} : getF (hp a V) (a + 29) 5 3 = some (.int (V 29 3)) := hp_getF (j := 29) (by decide) rfl
theorem p29_3 {a : Nat} {V : VV} {x : Int32} : putF (hp a V) (a + 29) 5 3 (.int x) = some (hp a (updR V 29 (upd (V 29) 3 x))) := hp_putF (j := 29) (by decide) rfl (Nat.le_of_ble_eq_true rfl) rfl
theorem o29 {a : Nat} {V : VV} : isO (hp a V) (a + 29) 5 = true := hp_isO (j := 29) (by decide) rfl
theorem ga30 {a : Nat} {V : VV} {i : Int32} : getA (hp a V) false (a + 30) i = if 0 ≤ i.toInt ∧ i.toInt < (48 : Nat) then some (V 30 i.toNatClampNeg) else none := hp_getA (j := 30) (by decide) (fun _ => rfl)
theorem sa30 {a : Nat} {V : VV} {i x : Int32} : setA (hp a V) false (a + 30) i x = if 0 ≤ i.toInt ∧ i.toInt < (48 : Nat) then some (hp a (updR V 30 (upd (V 30) i.toNatClampNeg x))) else none := hp_setA (j := 30) (by decide) (fun _ => rfl)
theorem ga30n {a : Nat} {V : VV} {m : Nat} (h : m < 48) : getA (hp a V) false (a + 30) (nI m) = some (V 30 m) := by
  rw [ga30, nI_toInt (by omega), nI_clamp (by omega), if_pos ⟨by omega, by omega⟩]
theorem sa30n {a : Nat} {V : VV} {m : Nat} {x : Int32} (h : m < 48) : setA (hp a V) false (a + 30) (nI m) x = some (hp a (updR V 30 (upd (V 30) m x))) := by
  rw [sa30, nI_toInt (by omega), nI_clamp (by omega), if_pos ⟨by omega, by omega⟩]
theorem hl30 {a : Nat} {V : VV} : hp a V (a + 30) = some (.inr (false, 48, V 30)) := hp_len (j := 30) (by decide) (fun _ => rfl)
theorem g31_0 {a : Nat} {V : VV} : getF (hp a V) (a + 31) 5 0 = some (.int 196) := hp_getF (j := 31) (by decide) rfl
theorem g31_1 {a : Nat} {V : VV} : getF (hp a V) (a + 31) 5 1 = some (.int 3) := hp_getF (j := 31) (by decide) rfl
theorem g31_2 {a : Nat} {V : VV} : getF (hp a V) (a + 31) 5 2 = some (.ref (a + 32)) := hp_getF (j := 31) (by decide) rfl
theorem g31_3 {a : Nat} {V : VV} : getF (hp a V) (a + 31) 5 3 = some (.int (V 31 3)) := hp_getF (j := 31) (by decide) rfl
theorem p31_3 {a : Nat} {V : VV} {x : Int32} : putF (hp a V) (a + 31) 5 3 (.int x) = some (hp a (updR V 31 (upd (V 31) 3 x))) := hp_putF (j := 31) (by decide) rfl (Nat.le_of_ble_eq_true rfl) rfl
theorem o31 {a : Nat} {V : VV} : isO (hp a V) (a + 31) 5 = true := hp_isO (j := 31) (by decide) rfl
theorem ga32 {a : Nat} {V : VV} {i : Int32} : getA (hp a V) false (a + 32) i = if 0 ≤ i.toInt ∧ i.toInt < (588 : Nat) then some (V 32 i.toNatClampNeg) else none := hp_getA (j := 32) (by decide) (fun _ => rfl)
theorem sa32 {a : Nat} {V : VV} {i x : Int32} : setA (hp a V) false (a + 32) i x = if 0 ≤ i.toInt ∧ i.toInt < (588 : Nat) then some (hp a (updR V 32 (upd (V 32) i.toNatClampNeg x))) else none := hp_setA (j := 32) (by decide) (fun _ => rfl)
theorem ga32n {a : Nat} {V : VV} {m : Nat} (h : m < 588) : getA (hp a V) false (a + 32) (nI m) = some (V 32 m) := by
  rw [ga32, nI_toInt (by omega), nI_clamp (by omega), if_pos ⟨by omega, by omega⟩]
theorem sa32n {a : Nat} {V : VV} {m : Nat} {x : Int32} (h : m < 588) : setA (hp a V) false (a + 32) (nI m) x = some (hp a (updR V 32 (upd (V 32) m x))) := by
  rw [sa32, nI_toInt (by omega), nI_clamp (by omega), if_pos ⟨by omega, by omega⟩]
theorem hl32 {a : Nat} {V : VV} : hp a V (a + 32) = some (.inr (false, 588, V 32)) := hp_len (j := 32) (by decide) (fun _ => rfl)
theorem g33_0 {a : Nat} {V : VV} : getF (hp a V) (a + 33) 0 0 = some (.ref (a + 34)) := hp_getF (j := 33) (by decide) rfl
theorem g33_1 {a : Nat} {V : VV} : getF (hp a V) (a + 33) 0 1 = some (.ref (a + 36)) := hp_getF (j := 33) (by decide) rfl
theorem g33_2 {a : Nat} {V : VV} : getF (hp a V) (a + 33) 0 2 = some (.ref (a + 38)) := hp_getF (j := 33) (by decide) rfl
theorem g33_3 {a : Nat} {V : VV} : getF (hp a V) (a + 33) 0 3 = some (.ref (a + 47)) := hp_getF (j := 33) (by decide) rfl
theorem g33_4 {a : Nat} {V : VV} : getF (hp a V) (a + 33) 0 4 = some (.int (V 33 4)) := hp_getF (j := 33) (by decide) rfl
theorem p33_4 {a : Nat} {V : VV} {x : Int32} : putF (hp a V) (a + 33) 0 4 (.int x) = some (hp a (updR V 33 (upd (V 33) 4 x))) := hp_putF (j := 33) (by decide) rfl (Nat.le_of_ble_eq_true rfl) rfl
theorem g33_5 {a : Nat} {V : VV} : getF (hp a V) (a + 33) 0 5 = some (.int (V 33 5)) := hp_getF (j := 33) (by decide) rfl
theorem p33_5 {a : Nat} {V : VV} {x : Int32} : putF (hp a V) (a + 33) 0 5 (.int x) = some (hp a (updR V 33 (upd (V 33) 5 x))) := hp_putF (j := 33) (by decide) rfl (Nat.le_of_ble_eq_true rfl) rfl
theorem o33 {a : Nat} {V : VV} : isO (hp a V) (a + 33) 0 = true := hp_isO (j := 33) (by decide) rfl
theorem g34_0 {a : Nat} {V : VV} : getF (hp a V) (a + 34) 3 0 = some (.ref (a + 35)) := hp_getF (j := 34) (by decide) rfl
theorem g34_1 {a : Nat} {V : VV} : getF (hp a V) (a + 34) 3 1 = some (.int (V 34 1)) := hp_getF (j := 34) (by decide) rfl
theorem p34_1 {a : Nat} {V : VV} {x : Int32} : putF (hp a V) (a + 34) 3 1 (.int x) = some (hp a (updR V 34 (upd (V 34) 1 x))) := hp_putF (j := 34) (by decide) rfl (Nat.le_of_ble_eq_true rfl) rfl
theorem o34 {a : Nat} {V : VV} : isO (hp a V) (a + 34) 3 = true := hp_isO (j := 34) (by decide) rfl
theorem ga35 {a : Nat} {V : VV} {i : Int32} : getA (hp a V) false (a + 35) i = if 0 ≤ i.toInt ∧ i.toInt < (96 : Nat) then some (V 35 i.toNatClampNeg) else none := hp_getA (j := 35) (by decide) (fun _ => rfl)
theorem sa35 {a : Nat} {V : VV} {i x : Int32} : setA (hp a V) false (a + 35) i x = if 0 ≤ i.toInt ∧ i.toInt < (96 : Nat) then some (hp a (updR V 35 (upd (V 35) i.toNatClampNeg x))) else none := hp_setA (j := 35) (by decide) (fun _ => rfl)
theorem ga35n {a : Nat} {V : VV} {m : Nat} (h : m < 96) : getA (hp a V) false (a + 35) (nI m) = some (V 35 m) := by
  rw [ga35, nI_toInt (by omega), nI_clamp (by omega), if_pos ⟨by omega, by omega⟩]
theorem sa35n {a : Nat} {V : VV} {m : Nat} {x : Int32} (h : m < 96) : setA (hp a V) false (a + 35) (nI m) x = some (hp a (updR V 35 (upd (V 35) m x))) := by
  rw [sa35, nI_toInt (by omega), nI_clamp (by omega), if_pos ⟨by omega, by omega⟩]
theorem hl35 {a : Nat} {V : VV} : hp a V (a + 35) = some (.inr (false, 96, V 35)) := hp_len (j := 35) (by decide) (fun _ => rfl)
theorem g36_0 {a : Nat} {V : VV} : getF (hp a V) (a + 36) 3 0 = some (.ref (a + 37)) := hp_getF (j := 36) (by decide) rfl
theorem g36_1 {a : Nat} {V : VV} : getF (hp a V) (a + 36) 3 1 = some (.int (V 36 1)) := hp_getF (j := 36) (by decide) rfl
theorem p36_1 {a : Nat} {V : VV} {x : Int32} : putF (hp a V) (a + 36) 3 1 (.int x) = some (hp a (updR V 36 (upd (V 36) 1 x))) := hp_putF (j := 36) (by decide) rfl (Nat.le_of_ble_eq_true rfl) rfl
theorem o36 {a : Nat} {V : VV} : isO (hp a V) (a + 36) 3 = true := hp_isO (j := 36) (by decide) rfl
theorem ga37 {a : Nat} {V : VV} {i : Int32} : getA (hp a V) false (a + 37) i = if 0 ≤ i.toInt ∧ i.toInt < (33 : Nat) then some (V 37 i.toNatClampNeg) else none := hp_getA (j := 37) (by decide) (fun _ => rfl)
theorem sa37 {a : Nat} {V : VV} {i x : Int32} : setA (hp a V) false (a + 37) i x = if 0 ≤ i.toInt ∧ i.toInt < (33 : Nat) then some (hp a (updR V 37 (upd (V 37) i.toNatClampNeg x))) else none := hp_setA (j := 37) (by decide) (fun _ => rfl)
theorem ga37n {a : Nat} {V : VV} {m : Nat} (h : m < 33) : getA (hp a V) false (a + 37) (nI m) = some (V 37 m) := by
  rw [ga37, nI_toInt (by omega), nI_clamp (by omega), if_pos ⟨by omega, by omega⟩]
theorem sa37n {a : Nat} {V : VV} {m : Nat} {x : Int32} (h : m < 33) : setA (hp a V) false (a + 37) (nI m) x = some (hp a (updR V 37 (upd (V 37) m x))) := by
  rw [sa37, nI_toInt (by omega), nI_clamp (by omega), if_pos ⟨by omega, by omega⟩]
theorem hl37 {a : Nat} {V : VV} : hp a V (a + 37) = some (.inr (false, 33, V 37)) := hp_len (j := 37) (by decide) (fun _ => rfl)
theorem g38_0 {a : Nat} {V : VV} : getF (hp a V) (a + 38) 4 0 = some (.ref (a + 39)) := hp_getF (j := 38) (by decide) rfl
theorem g38_1 {a : Nat} {V : VV} : getF (hp a V) (a + 38) 4 1 = some (.ref (a + 41)) := hp_getF (j := 38) (by decide) rfl
theorem g38_2 {a : Nat} {V : VV} : getF (hp a V) (a + 38) 4 2 = some (.ref (a + 43)) := hp_getF (j := 38) (by decide) rfl
theorem g38_3 {a : Nat} {V : VV} : getF (hp a V) (a + 38) 4 3 = some (.ref (a + 45)) := hp_getF (j := 38) (by decide) rfl
theorem o38 {a : Nat} {V : VV} : isO (hp a V) (a + 38) 4 = true := hp_isO (j := 38) (by decide) rfl
theorem g39_0 {a : Nat} {V : VV} : getF (hp a V) (a + 39) 5 0 = some (.int 48) := hp_getF (j := 39) (by decide) rfl
theorem g39_1 {a : Nat} {V : VV} : getF (hp a V) (a + 39) 5 1 = some (.int 17) := hp_getF (j := 39) (by decide) rfl
theorem g39_2 {a : Nat} {V : VV} : getF (hp a V) (a + 39) 5 2 = some (.ref (a + 40)) := hp_getF (j := 39) (by decide) rfl
theorem g39_3 {a : Nat} {V : VV} : getF (hp a V) (a + 39) 5 3 = some (.int (V 39 3)) := hp_getF (j := 39) (by decide) rfl
theorem p39_3 {a : Nat} {V : VV} {x : Int32} : putF (hp a V) (a + 39) 5 3 (.int x) = some (hp a (updR V 39 (upd (V 39) 3 x))) := hp_putF (j := 39) (by decide) rfl (Nat.le_of_ble_eq_true rfl) rfl
theorem o39 {a : Nat} {V : VV} : isO (hp a V) (a + 39) 5 = true := hp_isO (j := 39) (by decide) rfl
theorem ga40 {a : Nat} {V : VV} {i : Int32} : getA (hp a V) false (a + 40) i = if 0 ≤ i.toInt ∧ i.toInt < (816 : Nat) then some (V 40 i.toNatClampNeg) else none := hp_getA (j := 40) (by decide) (fun _ => rfl)
theorem sa40 {a : Nat} {V : VV} {i x : Int32} : setA (hp a V) false (a + 40) i x = if 0 ≤ i.toInt ∧ i.toInt < (816 : Nat) then some (hp a (updR V 40 (upd (V 40) i.toNatClampNeg x))) else none := hp_setA (j := 40) (by decide) (fun _ => rfl)
theorem ga40n {a : Nat} {V : VV} {m : Nat} (h : m < 816) : getA (hp a V) false (a + 40) (nI m) = some (V 40 m) := by
  rw [ga40, nI_toInt (by omega), nI_clamp (by omega), if_pos ⟨by omega, by omega⟩]
theorem sa40n {a : Nat} {V : VV} {m : Nat} {x : Int32} (h : m < 816) : setA (hp a V) false (a + 40) (nI m) x = some (hp a (updR V 40 (upd (V 40) m x))) := by
  rw [sa40, nI_toInt (by omega), nI_clamp (by omega), if_pos ⟨by omega, by omega⟩]
theorem hl40 {a : Nat} {V : VV} : hp a V (a + 40) = some (.inr (false, 816, V 40)) := hp_len (j := 40) (by decide) (fun _ => rfl)
theorem g41_0 {a : Nat} {V : VV} : getF (hp a V) (a + 41) 5 0 = some (.int 12) := hp_getF (j := 41) (by decide) rfl
theorem g41_1 {a : Nat} {V : VV} : getF (hp a V) (a + 41) 5 1 = some (.int 3) := hp_getF (j := 41) (by decide) rfl
theorem g41_2 {a : Nat} {V : VV} : getF (hp a V) (a + 41) 5 2 = some (.ref (a + 42)) := hp_getF (j := 41) (by decide) rfl
theorem g41_3 {a : Nat} {V : VV} : getF (hp a V) (a + 41) 5 3 = some (.int (V 41 3)) := hp_getF (j := 41) (by decide) rfl
theorem p41_3 {a : Nat} {V : VV} {x : Int32} : putF (hp a V) (a + 41) 5 3 (.int x) = some (hp a (updR V 41 (upd (V 41) 3 x))) := hp_putF (j := 41) (by decide) rfl (Nat.le_of_ble_eq_true rfl) rfl
theorem o41 {a : Nat} {V : VV} : isO (hp a V) (a + 41) 5 = true := hp_isO (j := 41) (by decide) rfl
theorem ga42 {a : Nat} {V : VV} {i : Int32} : getA (hp a V) false (a + 42) i = if 0 ≤ i.toInt ∧ i.toInt < (36 : Nat) then some (V 42 i.toNatClampNeg) else none := hp_getA (j := 42) (by decide) (fun _ => rfl)
theorem sa42 {a : Nat} {V : VV} {i x : Int32} : setA (hp a V) false (a + 42) i x = if 0 ≤ i.toInt ∧ i.toInt < (36 : Nat) then some (hp a (updR V 42 (upd (V 42) i.toNatClampNeg x))) else none := hp_setA (j := 42) (by decide) (fun _ => rfl)
theorem ga42n {a : Nat} {V : VV} {m : Nat} (h : m < 36) : getA (hp a V) false (a + 42) (nI m) = some (V 42 m) := by
  rw [ga42, nI_toInt (by omega), nI_clamp (by omega), if_pos ⟨by omega, by omega⟩]
theorem sa42n {a : Nat} {V : VV} {m : Nat} {x : Int32} (h : m < 36) : setA (hp a V) false (a + 42) (nI m) x = some (hp a (updR V 42 (upd (V 42) m x))) := by
  rw [sa42, nI_toInt (by omega), nI_clamp (by omega), if_pos ⟨by omega, by omega⟩]
theorem hl42 {a : Nat} {V : VV} : hp a V (a + 42) = some (.inr (false, 36, V 42)) := hp_len (j := 42) (by decide) (fun _ => rfl)
theorem g43_0 {a : Nat} {V : VV} : getF (hp a V) (a + 43) 3 0 = some (.ref (a + 44)) := hp_getF (j := 43) (by decide) rfl
theorem g43_1 {a : Nat} {V : VV} : getF (hp a V) (a + 43) 3 1 = some (.int (V 43 1)) := hp_getF (j := 43) (by decide) rfl
theorem p43_1 {a : Nat} {V : VV} {x : Int32} : putF (hp a V) (a + 43) 3 1 (.int x) = some (hp a (updR V 43 (upd (V 43) 1 x))) := hp_putF (j := 43) (by decide) rfl (Nat.le_of_ble_eq_true rfl) rfl
theorem o43 {a : Nat} {V : VV} : isO (hp a V) (a + 43) 3 = true := hp_isO (j := 43) (by decide) rfl
theorem ga44 {a : Nat} {V : VV} {i : Int32} : getA (hp a V) false (a + 44) i = if 0 ≤ i.toInt ∧ i.toInt < (1024 : Nat) then some (V 44 i.toNatClampNeg) else none := hp_getA (j := 44) (by decide) (fun _ => rfl)
theorem sa44 {a : Nat} {V : VV} {i x : Int32} : setA (hp a V) false (a + 44) i x = if 0 ≤ i.toInt ∧ i.toInt < (1024 : Nat) then some (hp a (updR V 44 (upd (V 44) i.toNatClampNeg x))) else none := hp_setA (j := 44) (by decide) (fun _ => rfl)
theorem ga44n {a : Nat} {V : VV} {m : Nat} (h : m < 1024) : getA (hp a V) false (a + 44) (nI m) = some (V 44 m) := by
  rw [ga44, nI_toInt (by omega), nI_clamp (by omega), if_pos ⟨by omega, by omega⟩]
theorem sa44n {a : Nat} {V : VV} {m : Nat} {x : Int32} (h : m < 1024) : setA (hp a V) false (a + 44) (nI m) x = some (hp a (updR V 44 (upd (V 44) m x))) := by
  rw [sa44, nI_toInt (by omega), nI_clamp (by omega), if_pos ⟨by omega, by omega⟩]
theorem hl44 {a : Nat} {V : VV} : hp a V (a + 44) = some (.inr (false, 1024, V 44)) := hp_len (j := 44) (by decide) (fun _ => rfl)
theorem g45_0 {a : Nat} {V : VV} : getF (hp a V) (a + 45) 5 0 = some (.int 3) := hp_getF (j := 45) (by decide) rfl
theorem g45_1 {a : Nat} {V : VV} : getF (hp a V) (a + 45) 5 1 = some (.int 16) := hp_getF (j := 45) (by decide) rfl
theorem g45_2 {a : Nat} {V : VV} : getF (hp a V) (a + 45) 5 2 = some (.ref (a + 46)) := hp_getF (j := 45) (by decide) rfl
theorem g45_3 {a : Nat} {V : VV} : getF (hp a V) (a + 45) 5 3 = some (.int (V 45 3)) := hp_getF (j := 45) (by decide) rfl
theorem p45_3 {a : Nat} {V : VV} {x : Int32} : putF (hp a V) (a + 45) 5 3 (.int x) = some (hp a (updR V 45 (upd (V 45) 3 x))) := hp_putF (j := 45) (by decide) rfl (Nat.le_of_ble_eq_true rfl) rfl
theorem o45 {a : Nat} {V : VV} : isO (hp a V) (a + 45) 5 = true := hp_isO (j := 45) (by decide) rfl
theorem ga46 {a : Nat} {V : VV} {i : Int32} : getA (hp a V) false (a + 46) i = if 0 ≤ i.toInt ∧ i.toInt < (48 : Nat) then some (V 46 i.toNatClampNeg) else none := hp_getA (j := 46) (by decide) (fun _ => rfl)
theorem sa46 {a : Nat} {V : VV} {i x : Int32} : setA (hp a V) false (a + 46) i x = if 0 ≤ i.toInt ∧ i.toInt < (48 : Nat) then some (hp a (updR V 46 (upd (V 46) i.toNatClampNeg x))) else none := hp_setA (j := 46) (by decide) (fun _ => rfl)
theorem ga46n {a : Nat} {V : VV} {m : Nat} (h : m < 48) : getA (hp a V) false (a + 46) (nI m) = some (V 46 m) := by
  rw [ga46, nI_toInt (by omega), nI_clamp (by omega), if_pos ⟨by omega, by omega⟩]
theorem sa46n {a : Nat} {V : VV} {m : Nat} {x : Int32} (h : m < 48) : setA (hp a V) false (a + 46) (nI m) x = some (hp a (updR V 46 (upd (V 46) m x))) := by
  rw [sa46, nI_toInt (by omega), nI_clamp (by omega), if_pos ⟨by omega, by omega⟩]
theorem hl46 {a : Nat} {V : VV} : hp a V (a + 46) = some (.inr (false, 48, V 46)) := hp_len (j := 46) (by decide) (fun _ => rfl)
theorem g47_0 {a : Nat} {V : VV} : getF (hp a V) (a + 47) 5 0 = some (.int 196) := hp_getF (j := 47) (by decide) rfl
theorem g47_1 {a : Nat} {V : VV} : getF (hp a V) (a + 47) 5 1 = some (.int 3) := hp_getF (j := 47) (by decide) rfl
theorem g47_2 {a : Nat} {V : VV} : getF (hp a V) (a + 47) 5 2 = some (.ref (a + 48)) := hp_getF (j := 47) (by decide) rfl
theorem g47_3 {a : Nat} {V : VV} : getF (hp a V) (a + 47) 5 3 = some (.int (V 47 3)) := hp_getF (j := 47) (by decide) rfl
theorem p47_3 {a : Nat} {V : VV} {x : Int32} : putF (hp a V) (a + 47) 5 3 (.int x) = some (hp a (updR V 47 (upd (V 47) 3 x))) := hp_putF (j := 47) (by decide) rfl (Nat.le_of_ble_eq_true rfl) rfl
theorem o47 {a : Nat} {V : VV} : isO (hp a V) (a + 47) 5 = true := hp_isO (j := 47) (by decide) rfl
theorem ga48 {a : Nat} {V : VV} {i : Int32} : getA (hp a V) false (a + 48) i = if 0 ≤ i.toInt ∧ i.toInt < (588 : Nat) then some (V 48 i.toNatClampNeg) else none := hp_getA (j := 48) (by decide) (fun _ => rfl)
theorem sa48 {a : Nat} {V : VV} {i x : Int32} : setA (hp a V) false (a + 48) i x = if 0 ≤ i.toInt ∧ i.toInt < (588 : Nat) then some (hp a (updR V 48 (upd (V 48) i.toNatClampNeg x))) else none := hp_setA (j := 48) (by decide) (fun _ => rfl)
theorem ga48n {a : Nat} {V : VV} {m : Nat} (h : m < 588) : getA (hp a V) false (a + 48) (nI m) = some (V 48 m) := by
  rw [ga48, nI_toInt (by omega), nI_clamp (by omega), if_pos ⟨by omega, by omega⟩]
theorem sa48n {a : Nat} {V : VV} {m : Nat} {x : Int32} (h : m < 588) : setA (hp a V) false (a + 48) (nI m) x = some (hp a (updR V 48 (upd (V 48) m x))) := by
  rw [sa48, nI_toInt (by omega), nI_clamp (by omega), if_pos ⟨by omega, by omega⟩]
theorem hl48 {a : Nat} {V : VV} : hp a V (a + 48) = some (.inr (false, 588, V 48)) := hp_len (j := 48) (by decide) (fun _ => rfl)
theorem g49_0 {a : Nat} {V : VV} : getF (hp a V) (a + 49) 2 0 = some (.ref (a + 50)) := hp_getF (j := 49) (by decide) rfl
theorem g49_1 {a : Nat} {V : VV} : getF (hp a V) (a + 49) 2 1 = some (.int (V 49 1)) := hp_getF (j := 49) (by decide) rfl
theorem p49_1 {a : Nat} {V : VV} {x : Int32} : putF (hp a V) (a + 49) 2 1 (.int x) = some (hp a (updR V 49 (upd (V 49) 1 x))) := hp_putF (j := 49) (by decide) rfl (Nat.le_of_ble_eq_true rfl) rfl
theorem g49_2 {a : Nat} {V : VV} : getF (hp a V) (a + 49) 2 2 = some (.int (V 49 2)) := hp_getF (j := 49) (by decide) rfl
theorem p49_2 {a : Nat} {V : VV} {x : Int32} : putF (hp a V) (a + 49) 2 2 (.int x) = some (hp a (updR V 49 (upd (V 49) 2 x))) := hp_putF (j := 49) (by decide) rfl (Nat.le_of_ble_eq_true rfl) rfl
theorem g49_3 {a : Nat} {V : VV} : getF (hp a V) (a + 49) 2 3 = some (.ref (a + 59)) := hp_getF (j := 49) (by decide) rfl
theorem g49_4 {a : Nat} {V : VV} : getF (hp a V) (a + 49) 2 4 = some (.ref (a + 60)) := hp_getF (j := 49) (by decide) rfl
theorem g49_5 {a : Nat} {V : VV} : getF (hp a V) (a + 49) 2 5 = some (.int (V 49 5)) := hp_getF (j := 49) (by decide) rfl
theorem p49_5 {a : Nat} {V : VV} {x : Int32} : putF (hp a V) (a + 49) 2 5 (.int x) = some (hp a (updR V 49 (upd (V 49) 5 x))) := hp_putF (j := 49) (by decide) rfl (Nat.le_of_ble_eq_true rfl) rfl
theorem g49_6 {a : Nat} {V : VV} : getF (hp a V) (a + 49) 2 6 = some (.int (V 49 6)) := hp_getF (j := 49) (by decide) rfl
theorem p49_6 {a : Nat} {V : VV} {x : Int32} : putF (hp a V) (a + 49) 2 6 (.int x) = some (hp a (updR V 49 (upd (V 49) 6 x))) := hp_putF (j := 49) (by decide) rfl (Nat.le_of_ble_eq_true rfl) rfl
theorem g49_7 {a : Nat} {V : VV} : getF (hp a V) (a + 49) 2 7 = some (.int (V 49 7)) := hp_getF (j := 49) (by decide) rfl
theorem p49_7 {a : Nat} {V : VV} {x : Int32} : putF (hp a V) (a + 49) 2 7 (.int x) = some (hp a (updR V 49 (upd (V 49) 7 x))) := hp_putF (j := 49) (by decide) rfl (Nat.le_of_ble_eq_true rfl) rfl
theorem g49_8 {a : Nat} {V : VV} : getF (hp a V) (a + 49) 2 8 = some (.int (V 49 8)) := hp_getF (j := 49) (by decide) rfl
theorem p49_8 {a : Nat} {V : VV} {x : Int32} : putF (hp a V) (a + 49) 2 8 (.int x) = some (hp a (updR V 49 (upd (V 49) 8 x))) := hp_putF (j := 49) (by decide) rfl (Nat.le_of_ble_eq_true rfl) rfl
theorem g49_9 {a : Nat} {V : VV} : getF (hp a V) (a + 49) 2 9 = some (.int (V 49 9)) := hp_getF (j := 49) (by decide) rfl
theorem p49_9 {a : Nat} {V : VV} {x : Int32} : putF (hp a V) (a + 49) 2 9 (.int x) = some (hp a (updR V 49 (upd (V 49) 9 x))) := hp_putF (j := 49) (by decide) rfl (Nat.le_of_ble_eq_true rfl) rfl
theorem g49_10 {a : Nat} {V : VV} : getF (hp a V) (a + 49) 2 10 = some (.int (V 49 10)) := hp_getF (j := 49) (by decide) rfl
theorem p49_10 {a : Nat} {V : VV} {x : Int32} : putF (hp a V) (a + 49) 2 10 (.int x) = some (hp a (updR V 49 (upd (V 49) 10 x))) := hp_putF (j := 49) (by decide) rfl (Nat.le_of_ble_eq_true rfl) rfl
theorem g49_11 {a : Nat} {V : VV} : getF (hp a V) (a + 49) 2 11 = some (.ref (a + 62)) := hp_getF (j := 49) (by decide) rfl
theorem g49_12 {a : Nat} {V : VV} : getF (hp a V) (a + 49) 2 12 = some (.int (V 49 12)) := hp_getF (j := 49) (by decide) rfl
theorem p49_12 {a : Nat} {V : VV} {x : Int32} : putF (hp a V) (a + 49) 2 12 (.int x) = some (hp a (updR V 49 (upd (V 49) 12 x))) := hp_putF (j := 49) (by decide) rfl (Nat.le_of_ble_eq_true rfl) rfl
theorem g49_13 {a : Nat} {V : VV} : getF (hp a V) (a + 49) 2 13 = some (.int (V 49 13)) := hp_getF (j := 49) (by decide) rfl
theorem p49_13 {a : Nat} {V : VV} {x : Int32} : putF (hp a V) (a + 49) 2 13 (.int x) = some (hp a (updR V 49 (upd (V 49) 13 x))) := hp_putF (j := 49) (by decide) rfl (Nat.le_of_ble_eq_true rfl) rfl
theorem o49 {a : Nat} {V : VV} : isO (hp a V) (a + 49) 2 = true := hp_isO (j := 49) (by decide) rfl
theorem g50_0 {a : Nat} {V : VV} : getF (hp a V) (a + 50) 4 0 = some (.ref (a + 51)) := hp_getF (j := 50) (by decide) rfl
theorem g50_1 {a : Nat} {V : VV} : getF (hp a V) (a + 50) 4 1 = some (.ref (a + 53)) := hp_getF (j := 50) (by decide) rfl
theorem g50_2 {a : Nat} {V : VV} : getF (hp a V) (a + 50) 4 2 = some (.ref (a + 55)) := hp_getF (j := 50) (by decide) rfl
theorem g50_3 {a : Nat} {V : VV} : getF (hp a V) (a + 50) 4 3 = some (.ref (a + 57)) := hp_getF (j := 50) (by decide) rfl
theorem o50 {a : Nat} {V : VV} : isO (hp a V) (a + 50) 4 = true := hp_isO (j := 50) (by decide) rfl
theorem g51_0 {a : Nat} {V : VV} : getF (hp a V) (a + 51) 5 0 = some (.int 48) := hp_getF (j := 51) (by decide) rfl
theorem g51_1 {a : Nat} {V : VV} : getF (hp a V) (a + 51) 5 1 = some (.int 17) := hp_getF (j := 51) (by decide) rfl
theorem g51_2 {a : Nat} {V : VV} : getF (hp a V) (a + 51) 5 2 = some (.ref (a + 52)) := hp_getF (j := 51) (by decide) rfl
theorem g51_3 {a : Nat} {V : VV} : getF (hp a V) (a + 51) 5 3 = some (.int (V 51 3)) := hp_getF (j := 51) (by decide) rfl
theorem p51_3 {a : Nat} {V : VV} {x : Int32} : putF (hp a V) (a + 51) 5 3 (.int x) = some (hp a (updR V 51 (upd (V 51) 3 x))) := hp_putF (j := 51) (by decide) rfl (Nat.le_of_ble_eq_true rfl) rfl
theorem o51 {a : Nat} {V : VV} : isO (hp a V) (a + 51) 5 = true := hp_isO (j := 51) (by decide) rfl
theorem ga52 {a : Nat} {V : VV} {i : Int32} : getA (hp a V) false (a + 52) i = if 0 ≤ i.toInt ∧ i.toInt < (816 : Nat) then some (V 52 i.toNatClampNeg) else none := hp_getA (j := 52) (by decide) (fun _ => rfl)
theorem sa52 {a : Nat} {V : VV} {i x : Int32} : setA (hp a V) false (a + 52) i x = if 0 ≤ i.toInt ∧ i.toInt < (816 : Nat) then some (hp a (updR V 52 (upd (V 52) i.toNatClampNeg x))) else none := hp_setA (j := 52) (by decide) (fun _ => rfl)
theorem ga52n {a : Nat} {V : VV} {m : Nat} (h : m < 816) : getA (hp a V) false (a + 52) (nI m) = some (V 52 m) := by
  rw [ga52, nI_toInt (by omega), nI_clamp (by omega), if_pos ⟨by omega, by omega⟩]
theorem sa52n {a : Nat} {V : VV} {m : Nat} {x : Int32} (h : m < 816) : setA (hp a V) false (a + 52) (nI m) x = some (hp a (updR V 52 (upd (V 52) m x))) := by
  rw [sa52, nI_toInt (by omega), nI_clamp (by omega), if_pos ⟨by omega, by omega⟩]
theorem hl52 {a : Nat} {V : VV} : hp a V (a + 52) = some (.inr (false, 816, V 52)) := hp_len (j := 52) (by decide) (fun _ => rfl)
theorem g53_0 {a : Nat} {V : VV} : getF (hp a V) (a + 53) 5 0 = some (.int 12) := hp_getF (j := 53) (by decide) rfl
theorem g53_1 {a : Nat} {V : VV} : getF (hp a V) (a + 53) 5 1 = some (.int 3) := hp_getF (j := 53) (by decide) rfl
theorem g53_2 {a : Nat} {V : VV} : getF (hp a V) (a + 53) 5 2 = some (.ref (a + 54)) := hp_getF (j := 53) (by decide) rfl
theorem g53_3 {a : Nat} {V : VV} : getF (hp a V) (a + 53) 5 3 = some (.int (V 53 3)) := hp_getF (j := 53) (by decide) rfl
theorem p53_3 {a : Nat} {V : VV} {x : Int32} : putF (hp a V) (a + 53) 5 3 (.int x) = some (hp a (updR V 53 (upd (V 53) 3 x))) := hp_putF (j := 53) (by decide) rfl (Nat.le_of_ble_eq_true rfl) rfl
theorem o53 {a : Nat} {V : VV} : isO (hp a V) (a + 53) 5 = true := hp_isO (j := 53) (by decide) rfl
theorem ga54 {a : Nat} {V : VV} {i : Int32} : getA (hp a V) false (a + 54) i = if 0 ≤ i.toInt ∧ i.toInt < (36 : Nat) then some (V 54 i.toNatClampNeg) else none := hp_getA (j := 54) (by decide) (fun _ => rfl)
theorem sa54 {a : Nat} {V : VV} {i x : Int32} : setA (hp a V) false (a + 54) i x = if 0 ≤ i.toInt ∧ i.toInt < (36 : Nat) then some (hp a (updR V 54 (upd (V 54) i.toNatClampNeg x))) else none := hp_setA (j := 54) (by decide) (fun _ => rfl)
theorem ga54n {a : Nat} {V : VV} {m : Nat} (h : m < 36) : getA (hp a V) false (a + 54) (nI m) = some (V 54 m) := by
  rw [ga54, nI_toInt (by omega), nI_clamp (by omega), if_pos ⟨by omega, by omega⟩]
theorem sa54n {a : Nat} {V : VV} {m : Nat} {x : Int32} (h : m < 36) : setA (hp a V) false (a + 54) (nI m) x = some (hp a (updR V 54 (upd (V 54) m x))) := by
  rw [sa54, nI_toInt (by omega), nI_clamp (by omega), if_pos ⟨by omega, by omega⟩]
theorem hl54 {a : Nat} {V : VV} : hp a V (a + 54) = some (.inr (false, 36, V 54)) := hp_len (j := 54) (by decide) (fun _ => rfl)
theorem g55_0 {a : Nat} {V : VV} : getF (hp a V) (a + 55) 3 0 = some (.ref (a + 56)) := hp_getF (j := 55) (by decide) rfl
theorem g55_1 {a : Nat} {V : VV} : getF (hp a V) (a + 55) 3 1 = some (.int (V 55 1)) := hp_getF (j := 55) (by decide) rfl
theorem p55_1 {a : Nat} {V : VV} {x : Int32} : putF (hp a V) (a + 55) 3 1 (.int x) = some (hp a (updR V 55 (upd (V 55) 1 x))) := hp_putF (j := 55) (by decide) rfl (Nat.le_of_ble_eq_true rfl) rfl
theorem o55 {a : Nat} {V : VV} : isO (hp a V) (a + 55) 3 = true := hp_isO (j := 55) (by decide) rfl
theorem ga56 {a : Nat} {V : VV} {i : Int32} : getA (hp a V) false (a + 56) i = if 0 ≤ i.toInt ∧ i.toInt < (1024 : Nat) then some (V 56 i.toNatClampNeg) else none := hp_getA (j := 56) (by decide) (fun _ => rfl)
theorem sa56 {a : Nat} {V : VV} {i x : Int32} : setA (hp a V) false (a + 56) i x = if 0 ≤ i.toInt ∧ i.toInt < (1024 : Nat) then some (hp a (updR V 56 (upd (V 56) i.toNatClampNeg x))) else none := hp_setA (j := 56) (by decide) (fun _ => rfl)
theorem ga56n {a : Nat} {V : VV} {m : Nat} (h : m < 1024) : getA (hp a V) false (a + 56) (nI m) = some (V 56 m) := by
  rw [ga56, nI_toInt (by omega), nI_clamp (by omega), if_pos ⟨by omega, by omega⟩]
theorem sa56n {a : Nat} {V : VV} {m : Nat} {x : Int32} (h : m < 1024) : setA (hp a V) false (a + 56) (nI m) x = some (hp a (updR V 56 (upd (V 56) m x))) := by
  rw [sa56, nI_toInt (by omega), nI_clamp (by omega), if_pos ⟨by omega, by omega⟩]
theorem hl56 {a : Nat} {V : VV} : hp a V (a + 56) = some (.inr (false, 1024, V 56)) := hp_len (j := 56) (by decide) (fun _ => rfl)
theorem g57_0 {a : Nat} {V : VV} : getF (hp a V) (a + 57) 5 0 = some (.int 3) := hp_getF (j := 57) (by decide) rfl
theorem g57_1 {a : Nat} {V : VV} : getF (hp a V) (a + 57) 5 1 = some (.int 16) := hp_getF (j := 57) (by decide) rfl
theorem g57_2 {a : Nat} {V : VV} : getF (hp a V) (a + 57) 5 2 = some (.ref (a + 58)) := hp_getF (j := 57) (by decide) rfl
theorem g57_3 {a : Nat} {V : VV} : getF (hp a V) (a + 57) 5 3 = some (.int (V 57 3)) := hp_getF (j := 57) (by decide) rfl
theorem p57_3 {a : Nat} {V : VV} {x : Int32} : putF (hp a V) (a + 57) 5 3 (.int x) = some (hp a (updR V 57 (upd (V 57) 3 x))) := hp_putF (j := 57) (by decide) rfl (Nat.le_of_ble_eq_true rfl) rfl
theorem o57 {a : Nat} {V : VV} : isO (hp a V) (a + 57) 5 = true := hp_isO (j := 57) (by decide) rfl
theorem ga58 {a : Nat} {V : VV} {i : Int32} : getA (hp a V) false (a + 58) i = if 0 ≤ i.toInt ∧ i.toInt < (48 : Nat) then some (V 58 i.toNatClampNeg) else none := hp_getA (j := 58) (by decide) (fun _ => rfl)
theorem sa58 {a : Nat} {V : VV} {i x : Int32} : setA (hp a V) false (a + 58) i x = if 0 ≤ i.toInt ∧ i.toInt < (48 : Nat) then some (hp a (updR V 58 (upd (V 58) i.toNatClampNeg x))) else none := hp_setA (j := 58) (by decide) (fun _ => rfl)
theorem ga58n {a : Nat} {V : VV} {m : Nat} (h : m < 48) : getA (hp a V) false (a + 58) (nI m) = some (V 58 m) := by
  rw [ga58, nI_toInt (by omega), nI_clamp (by omega), if_pos ⟨by omega, by omega⟩]
theorem sa58n {a : Nat} {V : VV} {m : Nat} {x : Int32} (h : m < 48) : setA (hp a V) false (a + 58) (nI m) x = some (hp a (updR V 58 (upd (V 58) m x))) := by
  rw [sa58, nI_toInt (by omega), nI_clamp (by omega), if_pos ⟨by omega, by omega⟩]
theorem hl58 {a : Nat} {V : VV} : hp a V (a + 58) = some (.inr (false, 48, V 58)) := hp_len (j := 58) (by decide) (fun _ => rfl)
theorem g59_0 {a : Nat} {V : VV} : getF (hp a V) (a + 59) 1 0 = some (.int (V 59 0)) := hp_getF (j := 59) (by decide) rfl
theorem p59_0 {a : Nat} {V : VV} {x : Int32} : putF (hp a V) (a + 59) 1 0 (.int x) = some (hp a (updR V 59 (upd (V 59) 0 x))) := hp_putF (j := 59) (by decide) rfl (Nat.le_of_ble_eq_true rfl) rfl
theorem g59_1 {a : Nat} {V : VV} : getF (hp a V) (a + 59) 1 1 = some (.int (V 59 1)) := hp_getF (j := 59) (by decide) rfl
theorem p59_1 {a : Nat} {V : VV} {x : Int32} : putF (hp a V) (a + 59) 1 1 (.int x) = some (hp a (updR V 59 (upd (V 59) 1 x))) := hp_putF (j := 59) (by decide) rfl (Nat.le_of_ble_eq_true rfl) rfl
theorem g59_2 {a : Nat} {V : VV} : getF (hp a V) (a + 59) 1 2 = some (.int (V 59 2)) := hp_getF (j := 59) (by decide) rfl
theorem p59_2 {a : Nat} {V : VV} {x : Int32} : putF (hp a V) (a + 59) 1 2 (.int x) = some (hp a (updR V 59 (upd (V 59) 2 x))) := hp_putF (j := 59) (by decide) rfl (Nat.le_of_ble_eq_true rfl) rfl
theorem g59_3 {a : Nat} {V : VV} : getF (hp a V) (a + 59) 1 3 = some (.int (V 59 3)) := hp_getF (j := 59) (by decide) rfl
theorem p59_3 {a : Nat} {V : VV} {x : Int32} : putF (hp a V) (a + 59) 1 3 (.int x) = some (hp a (updR V 59 (upd (V 59) 3 x))) := hp_putF (j := 59) (by decide) rfl (Nat.le_of_ble_eq_true rfl) rfl
theorem g59_4 {a : Nat} {V : VV} : getF (hp a V) (a + 59) 1 4 = some (.int (V 59 4)) := hp_getF (j := 59) (by decide) rfl
theorem p59_4 {a : Nat} {V : VV} {x : Int32} : putF (hp a V) (a + 59) 1 4 (.int x) = some (hp a (updR V 59 (upd (V 59) 4 x))) := hp_putF (j := 59) (by decide) rfl (Nat.le_of_ble_eq_true rfl) rfl
theorem g59_5 {a : Nat} {V : VV} : getF (hp a V) (a + 59) 1 5 = some (.int (V 59 5)) := hp_getF (j := 59) (by decide) rfl
theorem p59_5 {a : Nat} {V : VV} {x : Int32} : putF (hp a V) (a + 59) 1 5 (.int x) = some (hp a (updR V 59 (upd (V 59) 5 x))) := hp_putF (j := 59) (by decide) rfl (Nat.le_of_ble_eq_true rfl) rfl
theorem o59 {a : Nat} {V : VV} : isO (hp a V) (a + 59) 1 = true := hp_isO (j := 59) (by decide) rfl
theorem g60_0 {a : Nat} {V : VV} : getF (hp a V) (a + 60) 5 0 = some (.int 4) := hp_getF (j := 60) (by decide) rfl
theorem g60_1 {a : Nat} {V : VV} : getF (hp a V) (a + 60) 5 1 = some (.int 6) := hp_getF (j := 60) (by decide) rfl
theorem g60_2 {a : Nat} {V : VV} : getF (hp a V) (a + 60) 5 2 = some (.ref (a + 61)) := hp_getF (j := 60) (by decide) rfl
theorem g60_3 {a : Nat} {V : VV} : getF (hp a V) (a + 60) 5 3 = some (.int (V 60 3)) := hp_getF (j := 60) (by decide) rfl
theorem p60_3 {a : Nat} {V : VV} {x : Int32} : putF (hp a V) (a + 60) 5 3 (.int x) = some (hp a (updR V 60 (upd (V 60) 3 x))) := hp_putF (j := 60) (by decide) rfl (Nat.le_of_ble_eq_true rfl) rfl
theorem o60 {a : Nat} {V : VV} : isO (hp a V) (a + 60) 5 = true := hp_isO (j := 60) (by decide) rfl
theorem ga61 {a : Nat} {V : VV} {i : Int32} : getA (hp a V) false (a + 61) i = if 0 ≤ i.toInt ∧ i.toInt < (24 : Nat) then some (V 61 i.toNatClampNeg) else none := hp_getA (j := 61) (by decide) (fun _ => rfl)
theorem sa61 {a : Nat} {V : VV} {i x : Int32} : setA (hp a V) false (a + 61) i x = if 0 ≤ i.toInt ∧ i.toInt < (24 : Nat) then some (hp a (updR V 61 (upd (V 61) i.toNatClampNeg x))) else none := hp_setA (j := 61) (by decide) (fun _ => rfl)
theorem ga61n {a : Nat} {V : VV} {m : Nat} (h : m < 24) : getA (hp a V) false (a + 61) (nI m) = some (V 61 m) := by
  rw [ga61, nI_toInt (by omega), nI_clamp (by omega), if_pos ⟨by omega, by omega⟩]
theorem sa61n {a : Nat} {V : VV} {m : Nat} {x : Int32} (h : m < 24) : setA (hp a V) false (a + 61) (nI m) x = some (hp a (updR V 61 (upd (V 61) m x))) := by
  rw [sa61, nI_toInt (by omega), nI_clamp (by omega), if_pos ⟨by omega, by omega⟩]
theorem hl61 {a : Nat} {V : VV} : hp a V (a + 61) = some (.inr (false, 24, V 61)) := hp_len (j := 61) (by decide) (fun _ => rfl)
theorem g62_0 {a : Nat} {V : VV} : getF (hp a V) (a + 62) 3 0 = some (.ref (a + 63)) := hp_getF (j := 62) (by decide) rfl
theorem g62_1 {a : Nat} {V : VV} : getF (hp a V) (a + 62) 3 1 = some (.int (V 62 1)) := hp_getF (j := 62) (by decide) rfl
theorem p62_1 {a : Nat} {V : VV} {x : Int32} : putF (hp a V) (a + 62) 3 1 (.int x) = some (hp a (updR V 62 (upd (V 62) 1 x))) := hp_putF (j := 62) (by decide) rfl (Nat.le_of_ble_eq_true rfl) rfl
theorem o62 {a : Nat} {V : VV} : isO (hp a V) (a + 62) 3 = true := hp_isO (j := 62) (by decide) rfl
theorem ga63 {a : Nat} {V : VV} {i : Int32} : getA (hp a V) false (a + 63) i = if 0 ≤ i.toInt ∧ i.toInt < (32 : Nat) then some (V 63 i.toNatClampNeg) else none := hp_getA (j := 63) (by decide) (fun _ => rfl)
theorem sa63 {a : Nat} {V : VV} {i x : Int32} : setA (hp a V) false (a + 63) i x = if 0 ≤ i.toInt ∧ i.toInt < (32 : Nat) then some (hp a (updR V 63 (upd (V 63) i.toNatClampNeg x))) else none := hp_setA (j := 63) (by decide) (fun _ => rfl)
theorem ga63n {a : Nat} {V : VV} {m : Nat} (h : m < 32) : getA (hp a V) false (a + 63) (nI m) = some (V 63 m) := by
  rw [ga63, nI_toInt (by omega), nI_clamp (by omega), if_pos ⟨by omega, by omega⟩]
theorem sa63n {a : Nat} {V : VV} {m : Nat} {x : Int32} (h : m < 32) : setA (hp a V) false (a + 63) (nI m) x = some (hp a (updR V 63 (upd (V 63) m x))) := by
  rw [sa63, nI_toInt (by omega), nI_clamp (by omega), if_pos ⟨by omega, by omega⟩]
theorem hl63 {a : Nat} {V : VV} : hp a V (a + 63) = some (.inr (false, 32, V 63)) := hp_len (j := 63) (by decide) (fun _ => rfl)
theorem g64_0 {a : Nat} {V : VV} : getF (hp a V) (a + 64) 1 0 = some (.int (V 64 0)) := hp_getF (j := 64) (by decide) rfl
theorem p64_0 {a : Nat} {V : VV} {x : Int32} : putF (hp a V) (a + 64) 1 0 (.int x) = some (hp a (updR V 64 (upd (V 64) 0 x))) := hp_putF (j := 64) (by decide) rfl (Nat.le_of_ble_eq_true rfl) rfl
theorem g64_1 {a : Nat} {V : VV} : getF (hp a V) (a + 64) 1 1 = some (.int (V 64 1)) := hp_getF (j := 64) (by decide) rfl
theorem p64_1 {a : Nat} {V : VV} {x : Int32} : putF (hp a V) (a + 64) 1 1 (.int x) = some (hp a (updR V 64 (upd (V 64) 1 x))) := hp_putF (j := 64) (by decide) rfl (Nat.le_of_ble_eq_true rfl) rfl
theorem g64_2 {a : Nat} {V : VV} : getF (hp a V) (a + 64) 1 2 = some (.int (V 64 2)) := hp_getF (j := 64) (by decide) rfl
theorem p64_2 {a : Nat} {V : VV} {x : Int32} : putF (hp a V) (a + 64) 1 2 (.int x) = some (hp a (updR V 64 (upd (V 64) 2 x))) := hp_putF (j := 64) (by decide) rfl (Nat.le_of_ble_eq_true rfl) rfl
theorem g64_3 {a : Nat} {V : VV} : getF (hp a V) (a + 64) 1 3 = some (.int (V 64 3)) := hp_getF (j := 64) (by decide) rfl
theorem p64_3 {a : Nat} {V : VV} {x : Int32} : putF (hp a V) (a + 64) 1 3 (.int x) = some (hp a (updR V 64 (upd (V 64) 3 x))) := hp_putF (j := 64) (by decide) rfl (Nat.le_of_ble_eq_true rfl) rfl
theorem g64_4 {a : Nat} {V : VV} : getF (hp a V) (a + 64) 1 4 = some (.int (V 64 4)) := hp_getF (j := 64) (by decide) rfl
theorem p64_4 {a : Nat} {V : VV} {x : Int32} : putF (hp a V) (a + 64) 1 4 (.int x) = some (hp a (updR V 64 (upd (V 64) 4 x))) := hp_putF (j := 64) (by decide) rfl (Nat.le_of_ble_eq_true rfl) rfl
theorem g64_5 {a : Nat} {V : VV} : getF (hp a V) (a + 64) 1 5 = some (.int (V 64 5)) := hp_getF (j := 64) (by decide) rfl
theorem p64_5 {a : Nat} {V : VV} {x : Int32} : putF (hp a V) (a + 64) 1 5 (.int x) = some (hp a (updR V 64 (upd (V 64) 5 x))) := hp_putF (j := 64) (by decide) rfl (Nat.le_of_ble_eq_true rfl) rfl
theorem o64 {a : Nat} {V : VV} : isO (hp a V) (a + 64) 1 = true := hp_isO (j := 64) (by decide) rfl
theorem g65_0 {a : Nat} {V : VV} : getF (hp a V) (a + 65) 7 0 = some (.ref (a + 66)) := hp_getF (j := 65) (by decide) rfl
theorem g65_1 {a : Nat} {V : VV} : getF (hp a V) (a + 65) 7 1 = some (.ref (a + 67)) := hp_getF (j := 65) (by decide) rfl
theorem g65_2 {a : Nat} {V : VV} : getF (hp a V) (a + 65) 7 2 = some (.ref (a + 68)) := hp_getF (j := 65) (by decide) rfl
theorem g65_3 {a : Nat} {V : VV} : getF (hp a V) (a + 65) 7 3 = some (.int (V 65 3)) := hp_getF (j := 65) (by decide) rfl
theorem p65_3 {a : Nat} {V : VV} {x : Int32} : putF (hp a V) (a + 65) 7 3 (.int x) = some (hp a (updR V 65 (upd (V 65) 3 x))) := hp_putF (j := 65) (by decide) rfl (Nat.le_of_ble_eq_true rfl) rfl
theorem g65_4 {a : Nat} {V : VV} : getF (hp a V) (a + 65) 7 4 = some (.int (V 65 4)) := hp_getF (j := 65) (by decide) rfl
theorem p65_4 {a : Nat} {V : VV} {x : Int32} : putF (hp a V) (a + 65) 7 4 (.int x) = some (hp a (updR V 65 (upd (V 65) 4 x))) := hp_putF (j := 65) (by decide) rfl (Nat.le_of_ble_eq_true rfl) rfl
theorem g65_5 {a : Nat} {V : VV} : getF (hp a V) (a + 65) 7 5 = some (.int (V 65 5)) := hp_getF (j := 65) (by decide) rfl
theorem p65_5 {a : Nat} {V : VV} {x : Int32} : putF (hp a V) (a + 65) 7 5 (.int x) = some (hp a (updR V 65 (upd (V 65) 5 x))) := hp_putF (j := 65) (by decide) rfl (Nat.le_of_ble_eq_true rfl) rfl
theorem g65_6 {a : Nat} {V : VV} : getF (hp a V) (a + 65) 7 6 = some (.int (V 65 6)) := hp_getF (j := 65) (by decide) rfl
theorem p65_6 {a : Nat} {V : VV} {x : Int32} : putF (hp a V) (a + 65) 7 6 (.int x) = some (hp a (updR V 65 (upd (V 65) 6 x))) := hp_putF (j := 65) (by decide) rfl (Nat.le_of_ble_eq_true rfl) rfl
theorem g65_7 {a : Nat} {V : VV} : getF (hp a V) (a + 65) 7 7 = some (.int (V 65 7)) := hp_getF (j := 65) (by decide) rfl
theorem p65_7 {a : Nat} {V : VV} {x : Int32} : putF (hp a V) (a + 65) 7 7 (.int x) = some (hp a (updR V 65 (upd (V 65) 7 x))) := hp_putF (j := 65) (by decide) rfl (Nat.le_of_ble_eq_true rfl) rfl
theorem g65_8 {a : Nat} {V : VV} : getF (hp a V) (a + 65) 7 8 = some (.ref (a + 69)) := hp_getF (j := 65) (by decide) rfl
theorem g65_9 {a : Nat} {V : VV} : getF (hp a V) (a + 65) 7 9 = some (.ref (a + 70)) := hp_getF (j := 65) (by decide) rfl
theorem g65_10 {a : Nat} {V : VV} : getF (hp a V) (a + 65) 7 10 = some (.int (V 65 10)) := hp_getF (j := 65) (by decide) rfl
theorem p65_10 {a : Nat} {V : VV} {x : Int32} : putF (hp a V) (a + 65) 7 10 (.int x) = some (hp a (updR V 65 (upd (V 65) 10 x))) := hp_putF (j := 65) (by decide) rfl (Nat.le_of_ble_eq_true rfl) rfl
theorem g65_11 {a : Nat} {V : VV} : getF (hp a V) (a + 65) 7 11 = some (.ref (a + 71)) := hp_getF (j := 65) (by decide) rfl
theorem g65_12 {a : Nat} {V : VV} : getF (hp a V) (a + 65) 7 12 = some (.int (V 65 12)) := hp_getF (j := 65) (by decide) rfl
theorem p65_12 {a : Nat} {V : VV} {x : Int32} : putF (hp a V) (a + 65) 7 12 (.int x) = some (hp a (updR V 65 (upd (V 65) 12 x))) := hp_putF (j := 65) (by decide) rfl (Nat.le_of_ble_eq_true rfl) rfl
theorem g65_13 {a : Nat} {V : VV} : getF (hp a V) (a + 65) 7 13 = some (.int (V 65 13)) := hp_getF (j := 65) (by decide) rfl
theorem p65_13 {a : Nat} {V : VV} {x : Int32} : putF (hp a V) (a + 65) 7 13 (.int x) = some (hp a (updR V 65 (upd (V 65) 13 x))) := hp_putF (j := 65) (by decide) rfl (Nat.le_of_ble_eq_true rfl) rfl
theorem g65_14 {a : Nat} {V : VV} : getF (hp a V) (a + 65) 7 14 = some (.ref (a + 72)) := hp_getF (j := 65) (by decide) rfl
theorem g65_15 {a : Nat} {V : VV} : getF (hp a V) (a + 65) 7 15 = some (.int (V 65 15)) := hp_getF (j := 65) (by decide) rfl
theorem p65_15 {a : Nat} {V : VV} {x : Int32} : putF (hp a V) (a + 65) 7 15 (.int x) = some (hp a (updR V 65 (upd (V 65) 15 x))) := hp_putF (j := 65) (by decide) rfl (Nat.le_of_ble_eq_true rfl) rfl
theorem g65_16 {a : Nat} {V : VV} : getF (hp a V) (a + 65) 7 16 = some (.int (V 65 16)) := hp_getF (j := 65) (by decide) rfl
theorem p65_16 {a : Nat} {V : VV} {x : Int32} : putF (hp a V) (a + 65) 7 16 (.int x) = some (hp a (updR V 65 (upd (V 65) 16 x))) := hp_putF (j := 65) (by decide) rfl (Nat.le_of_ble_eq_true rfl) rfl
theorem g65_17 {a : Nat} {V : VV} : getF (hp a V) (a + 65) 7 17 = some (.int (V 65 17)) := hp_getF (j := 65) (by decide) rfl
theorem p65_17 {a : Nat} {V : VV} {x : Int32} : putF (hp a V) (a + 65) 7 17 (.int x) = some (hp a (updR V 65 (upd (V 65) 17 x))) := hp_putF (j := 65) (by decide) rfl (Nat.le_of_ble_eq_true rfl) rfl
theorem g65_18 {a : Nat} {V : VV} : getF (hp a V) (a + 65) 7 18 = some (.int (V 65 18)) := hp_getF (j := 65) (by decide) rfl
theorem p65_18 {a : Nat} {V : VV} {x : Int32} : putF (hp a V) (a + 65) 7 18 (.int x) = some (hp a (updR V 65 (upd (V 65) 18 x))) := hp_putF (j := 65) (by decide) rfl (Nat.le_of_ble_eq_true rfl) rfl
theorem g65_19 {a : Nat} {V : VV} : getF (hp a V) (a + 65) 7 19 = some (.ref (a + 73)) := hp_getF (j := 65) (by decide) rfl
theorem g65_20 {a : Nat} {V : VV} : getF (hp a V) (a + 65) 7 20 = some (.int (V 65 20)) := hp_getF (j := 65) (by decide) rfl
theorem p65_20 {a : Nat} {V : VV} {x : Int32} : putF (hp a V) (a + 65) 7 20 (.int x) = some (hp a (updR V 65 (upd (V 65) 20 x))) := hp_putF (j := 65) (by decide) rfl (Nat.le_of_ble_eq_true rfl) rfl
theorem g65_21 {a : Nat} {V : VV} : getF (hp a V) (a + 65) 7 21 = some (.int (V 65 21)) := hp_getF (j := 65) (by decide) rfl
theorem p65_21 {a : Nat} {V : VV} {x : Int32} : putF (hp a V) (a + 65) 7 21 (.int x) = some (hp a (updR V 65 (upd (V 65) 21 x))) := hp_putF (j := 65) (by decide) rfl (Nat.le_of_ble_eq_true rfl) rfl
theorem g65_22 {a : Nat} {V : VV} : getF (hp a V) (a + 65) 7 22 = some (.int (V 65 22)) := hp_getF (j := 65) (by decide) rfl
theorem p65_22 {a : Nat} {V : VV} {x : Int32} : putF (hp a V) (a + 65) 7 22 (.int x) = some (hp a (updR V 65 (upd (V 65) 22 x))) := hp_putF (j := 65) (by decide) rfl (Nat.le_of_ble_eq_true rfl) rfl
theorem g65_23 {a : Nat} {V : VV} : getF (hp a V) (a + 65) 7 23 = some (.int (V 65 23)) := hp_getF (j := 65) (by decide) rfl
theorem p65_23 {a : Nat} {V : VV} {x : Int32} : putF (hp a V) (a + 65) 7 23 (.int x) = some (hp a (updR V 65 (upd (V 65) 23 x))) := hp_putF (j := 65) (by decide) rfl (Nat.le_of_ble_eq_true rfl) rfl
theorem g65_24 {a : Nat} {V : VV} : getF (hp a V) (a + 65) 7 24 = some (.ref (a + 74)) := hp_getF (j := 65) (by decide) rfl
theorem g65_25 {a : Nat} {V : VV} : getF (hp a V) (a + 65) 7 25 = some (.int (V 65 25)) := hp_getF (j := 65) (by decide) rfl
theorem p65_25 {a : Nat} {V : VV} {x : Int32} : putF (hp a V) (a + 65) 7 25 (.int x) = some (hp a (updR V 65 (upd (V 65) 25 x))) := hp_putF (j := 65) (by decide) rfl (Nat.le_of_ble_eq_true rfl) rfl
theorem o65 {a : Nat} {V : VV} : isO (hp a V) (a + 65) 7 = true := hp_isO (j := 65) (by decide) rfl
theorem ga66 {a : Nat} {V : VV} {i : Int32} : getA (hp a V) false (a + 66) i = if 0 ≤ i.toInt ∧ i.toInt < (3293 : Nat) then some (V 66 i.toNatClampNeg) else none := hp_getA (j := 66) (by decide) (fun _ => rfl)
theorem sa66 {a : Nat} {V : VV} {i x : Int32} : setA (hp a V) false (a + 66) i x = if 0 ≤ i.toInt ∧ i.toInt < (3293 : Nat) then some (hp a (updR V 66 (upd (V 66) i.toNatClampNeg x))) else none := hp_setA (j := 66) (by decide) (fun _ => rfl)
theorem ga66n {a : Nat} {V : VV} {m : Nat} (h : m < 3293) : getA (hp a V) false (a + 66) (nI m) = some (V 66 m) := by
  rw [ga66, nI_toInt (by omega), nI_clamp (by omega), if_pos ⟨by omega, by omega⟩]
theorem sa66n {a : Nat} {V : VV} {m : Nat} {x : Int32} (h : m < 3293) : setA (hp a V) false (a + 66) (nI m) x = some (hp a (updR V 66 (upd (V 66) m x))) := by
  rw [sa66, nI_toInt (by omega), nI_clamp (by omega), if_pos ⟨by omega, by omega⟩]
theorem hl66 {a : Nat} {V : VV} : hp a V (a + 66) = some (.inr (false, 3293, V 66)) := hp_len (j := 66) (by decide) (fun _ => rfl)
theorem ga67 {a : Nat} {V : VV} {i : Int32} : getA (hp a V) false (a + 67) i = if 0 ≤ i.toInt ∧ i.toInt < (6586 : Nat) then some (V 67 i.toNatClampNeg) else none := hp_getA (j := 67) (by decide) (fun _ => rfl)
theorem sa67 {a : Nat} {V : VV} {i x : Int32} : setA (hp a V) false (a + 67) i x = if 0 ≤ i.toInt ∧ i.toInt < (6586 : Nat) then some (hp a (updR V 67 (upd (V 67) i.toNatClampNeg x))) else none := hp_setA (j := 67) (by decide) (fun _ => rfl)
theorem ga67n {a : Nat} {V : VV} {m : Nat} (h : m < 6586) : getA (hp a V) false (a + 67) (nI m) = some (V 67 m) := by
  rw [ga67, nI_toInt (by omega), nI_clamp (by omega), if_pos ⟨by omega, by omega⟩]
theorem sa67n {a : Nat} {V : VV} {m : Nat} {x : Int32} (h : m < 6586) : setA (hp a V) false (a + 67) (nI m) x = some (hp a (updR V 67 (upd (V 67) m x))) := by
  rw [sa67, nI_toInt (by omega), nI_clamp (by omega), if_pos ⟨by omega, by omega⟩]
theorem hl67 {a : Nat} {V : VV} : hp a V (a + 67) = some (.inr (false, 6586, V 67)) := hp_len (j := 67) (by decide) (fun _ => rfl)
theorem ga68 {a : Nat} {V : VV} {i : Int32} : getA (hp a V) true (a + 68) i = if 0 ≤ i.toInt ∧ i.toInt < (2 : Nat) then some (V 68 i.toNatClampNeg) else none := hp_getA (j := 68) (by decide) (fun _ => rfl)
theorem sa68 {a : Nat} {V : VV} {i x : Int32} : setA (hp a V) true (a + 68) i x = if 0 ≤ i.toInt ∧ i.toInt < (2 : Nat) then some (hp a (updR V 68 (upd (V 68) i.toNatClampNeg x))) else none := hp_setA (j := 68) (by decide) (fun _ => rfl)
theorem ga68n {a : Nat} {V : VV} {m : Nat} (h : m < 2) : getA (hp a V) true (a + 68) (nI m) = some (V 68 m) := by
  rw [ga68, nI_toInt (by omega), nI_clamp (by omega), if_pos ⟨by omega, by omega⟩]
theorem sa68n {a : Nat} {V : VV} {m : Nat} {x : Int32} (h : m < 2) : setA (hp a V) true (a + 68) (nI m) x = some (hp a (updR V 68 (upd (V 68) m x))) := by
  rw [sa68, nI_toInt (by omega), nI_clamp (by omega), if_pos ⟨by omega, by omega⟩]
theorem hl68 {a : Nat} {V : VV} : hp a V (a + 68) = some (.inr (true, 2, V 68)) := hp_len (j := 68) (by decide) (fun _ => rfl)
theorem ga69 {a : Nat} {V : VV} {i : Int32} : getA (hp a V) false (a + 69) i = if 0 ≤ i.toInt ∧ i.toInt < (6 : Nat) then some (V 69 i.toNatClampNeg) else none := hp_getA (j := 69) (by decide) (fun _ => rfl)
theorem sa69 {a : Nat} {V : VV} {i x : Int32} : setA (hp a V) false (a + 69) i x = if 0 ≤ i.toInt ∧ i.toInt < (6 : Nat) then some (hp a (updR V 69 (upd (V 69) i.toNatClampNeg x))) else none := hp_setA (j := 69) (by decide) (fun _ => rfl)
theorem ga69n {a : Nat} {V : VV} {m : Nat} (h : m < 6) : getA (hp a V) false (a + 69) (nI m) = some (V 69 m) := by
  rw [ga69, nI_toInt (by omega), nI_clamp (by omega), if_pos ⟨by omega, by omega⟩]
theorem sa69n {a : Nat} {V : VV} {m : Nat} {x : Int32} (h : m < 6) : setA (hp a V) false (a + 69) (nI m) x = some (hp a (updR V 69 (upd (V 69) m x))) := by
  rw [sa69, nI_toInt (by omega), nI_clamp (by omega), if_pos ⟨by omega, by omega⟩]
theorem hl69 {a : Nat} {V : VV} : hp a V (a + 69) = some (.inr (false, 6, V 69)) := hp_len (j := 69) (by decide) (fun _ => rfl)
theorem ga70 {a : Nat} {V : VV} {i : Int32} : getA (hp a V) false (a + 70) i = if 0 ≤ i.toInt ∧ i.toInt < (24 : Nat) then some (V 70 i.toNatClampNeg) else none := hp_getA (j := 70) (by decide) (fun _ => rfl)
theorem sa70 {a : Nat} {V : VV} {i x : Int32} : setA (hp a V) false (a + 70) i x = if 0 ≤ i.toInt ∧ i.toInt < (24 : Nat) then some (hp a (updR V 70 (upd (V 70) i.toNatClampNeg x))) else none := hp_setA (j := 70) (by decide) (fun _ => rfl)
theorem ga70n {a : Nat} {V : VV} {m : Nat} (h : m < 24) : getA (hp a V) false (a + 70) (nI m) = some (V 70 m) := by
  rw [ga70, nI_toInt (by omega), nI_clamp (by omega), if_pos ⟨by omega, by omega⟩]
theorem sa70n {a : Nat} {V : VV} {m : Nat} {x : Int32} (h : m < 24) : setA (hp a V) false (a + 70) (nI m) x = some (hp a (updR V 70 (upd (V 70) m x))) := by
  rw [sa70, nI_toInt (by omega), nI_clamp (by omega), if_pos ⟨by omega, by omega⟩]
theorem hl70 {a : Nat} {V : VV} : hp a V (a + 70) = some (.inr (false, 24, V 70)) := hp_len (j := 70) (by decide) (fun _ => rfl)
theorem ga71 {a : Nat} {V : VV} {i : Int32} : getA (hp a V) false (a + 71) i = if 0 ≤ i.toInt ∧ i.toInt < (32 : Nat) then some (V 71 i.toNatClampNeg) else none := hp_getA (j := 71) (by decide) (fun _ => rfl)
theorem sa71 {a : Nat} {V : VV} {i x : Int32} : setA (hp a V) false (a + 71) i x = if 0 ≤ i.toInt ∧ i.toInt < (32 : Nat) then some (hp a (updR V 71 (upd (V 71) i.toNatClampNeg x))) else none := hp_setA (j := 71) (by decide) (fun _ => rfl)
theorem ga71n {a : Nat} {V : VV} {m : Nat} (h : m < 32) : getA (hp a V) false (a + 71) (nI m) = some (V 71 m) := by
  rw [ga71, nI_toInt (by omega), nI_clamp (by omega), if_pos ⟨by omega, by omega⟩]
theorem sa71n {a : Nat} {V : VV} {m : Nat} {x : Int32} (h : m < 32) : setA (hp a V) false (a + 71) (nI m) x = some (hp a (updR V 71 (upd (V 71) m x))) := by
  rw [sa71, nI_toInt (by omega), nI_clamp (by omega), if_pos ⟨by omega, by omega⟩]
theorem hl71 {a : Nat} {V : VV} : hp a V (a + 71) = some (.inr (false, 32, V 71)) := hp_len (j := 71) (by decide) (fun _ => rfl)
theorem ga72 {a : Nat} {V : VV} {i : Int32} : getA (hp a V) false (a + 72) i = if 0 ≤ i.toInt ∧ i.toInt < (12 : Nat) then some (V 72 i.toNatClampNeg) else none := hp_getA (j := 72) (by decide) (fun _ => rfl)
theorem sa72 {a : Nat} {V : VV} {i x : Int32} : setA (hp a V) false (a + 72) i x = if 0 ≤ i.toInt ∧ i.toInt < (12 : Nat) then some (hp a (updR V 72 (upd (V 72) i.toNatClampNeg x))) else none := hp_setA (j := 72) (by decide) (fun _ => rfl)
theorem ga72n {a : Nat} {V : VV} {m : Nat} (h : m < 12) : getA (hp a V) false (a + 72) (nI m) = some (V 72 m) := by
  rw [ga72, nI_toInt (by omega), nI_clamp (by omega), if_pos ⟨by omega, by omega⟩]
theorem sa72n {a : Nat} {V : VV} {m : Nat} {x : Int32} (h : m < 12) : setA (hp a V) false (a + 72) (nI m) x = some (hp a (updR V 72 (upd (V 72) m x))) := by
  rw [sa72, nI_toInt (by omega), nI_clamp (by omega), if_pos ⟨by omega, by omega⟩]
theorem hl72 {a : Nat} {V : VV} : hp a V (a + 72) = some (.inr (false, 12, V 72)) := hp_len (j := 72) (by decide) (fun _ => rfl)
theorem ga73 {a : Nat} {V : VV} {i : Int32} : getA (hp a V) false (a + 73) i = if 0 ≤ i.toInt ∧ i.toInt < (48 : Nat) then some (V 73 i.toNatClampNeg) else none := hp_getA (j := 73) (by decide) (fun _ => rfl)
theorem sa73 {a : Nat} {V : VV} {i x : Int32} : setA (hp a V) false (a + 73) i x = if 0 ≤ i.toInt ∧ i.toInt < (48 : Nat) then some (hp a (updR V 73 (upd (V 73) i.toNatClampNeg x))) else none := hp_setA (j := 73) (by decide) (fun _ => rfl)
theorem ga73n {a : Nat} {V : VV} {m : Nat} (h : m < 48) : getA (hp a V) false (a + 73) (nI m) = some (V 73 m) := by
  rw [ga73, nI_toInt (by omega), nI_clamp (by omega), if_pos ⟨by omega, by omega⟩]
theorem sa73n {a : Nat} {V : VV} {m : Nat} {x : Int32} (h : m < 48) : setA (hp a V) false (a + 73) (nI m) x = some (hp a (updR V 73 (upd (V 73) m x))) := by
  rw [sa73, nI_toInt (by omega), nI_clamp (by omega), if_pos ⟨by omega, by omega⟩]
theorem hl73 {a : Nat} {V : VV} : hp a V (a + 73) = some (.inr (false, 48, V 73)) := hp_len (j := 73) (by decide) (fun _ => rfl)
theorem ga74 {a : Nat} {V : VV} {i : Int32} : getA (hp a V) false (a + 74) i = if 0 ≤ i.toInt ∧ i.toInt < (32 : Nat) then some (V 74 i.toNatClampNeg) else none := hp_getA (j := 74) (by decide) (fun _ => rfl)
theorem sa74 {a : Nat} {V : VV} {i x : Int32} : setA (hp a V) false (a + 74) i x = if 0 ≤ i.toInt ∧ i.toInt < (32 : Nat) then some (hp a (updR V 74 (upd (V 74) i.toNatClampNeg x))) else none := hp_setA (j := 74) (by decide) (fun _ => rfl)
theorem ga74n {a : Nat} {V : VV} {m : Nat} (h : m < 32) : getA (hp a V) false (a + 74) (nI m) = some (V 74 m) := by
  rw [ga74, nI_toInt (by omega), nI_clamp (by omega), if_pos ⟨by omega, by omega⟩]
theorem sa74n {a : Nat} {V : VV} {m : Nat} {x : Int32} (h : m < 32) : setA (hp a V) false (a + 74) (nI m) x = some (hp a (updR V 74 (upd (V 74) m x))) := by
  rw [sa74, nI_toInt (by omega), nI_clamp (by omega), if_pos ⟨by omega, by omega⟩]
theorem hl74 {a : Nat} {V : VV} : hp a V (a + 74) = some (.inr (false, 32, V 74)) := hp_len (j := 74) (by decide) (fun _ => rfl)
