/-! PURE 29: words: the class's. -/
def wI0 (t : Nat) : Nat := if t = 8 then 0 else if t = 9 then 1 else if t = 10 then 2 else if t = 11 then 3 else if t = 12 then 4 else 5
def wI1 (t : Nat) : Nat := if t = 0 then 6 else if t = 1 then 7 else if t = 2 then 8 else if t = 7 then 9 else if t = 8 then 10 else if t = 9 then 11 else if t = 10 then 12 else if t = 11 then 13 else 5
def wI2 (t : Nat) : Nat := if t = 0 then 14 else if t = 1 then 15 else if t = 2 then 16 else 5
def wI (s t : Nat) : Nat := if s = 0 then wI0 t else if s = 1 then wI1 t else if s = 2 then wI2 t else 5
section Wd
variable {sa : Nat → Nat} {a : Nat}
theorem cw0 {G : Hp} : ∀ t, t < 16 → f_X6_shapeWord sa [.int (nI t)] G = some (some (.ref (sa (wI0 t))), G)
  | 0, _ => rfl | 1, _ => rfl | 2, _ => rfl | 3, _ => rfl | 4, _ => rfl | 5, _ => rfl | 6, _ => rfl | 7, _ => rfl | 8, _ => rfl | 9, _ => rfl | 10, _ => rfl | 11, _ => rfl | 12, _ => rfl | 13, _ => rfl | 14, _ => rfl | 15, _ => rfl
  | t + 16, h => by omega
theorem cw1 {G : Hp} : ∀ t, t < 16 → f_X6_numberWord sa [.int (nI t)] G = some (some (.ref (sa (wI1 t))), G)
  | 0, _ => rfl | 1, _ => rfl | 2, _ => rfl | 3, _ => rfl | 4, _ => rfl | 5, _ => rfl | 6, _ => rfl | 7, _ => rfl | 8, _ => rfl | 9, _ => rfl | 10, _ => rfl | 11, _ => rfl | 12, _ => rfl | 13, _ => rfl | 14, _ => rfl | 15, _ => rfl
  | t + 16, h => by omega
theorem cw2 {G : Hp} : ∀ t, t < 16 → f_X6_useWord sa [.int (nI t)] G = some (some (.ref (sa (wI2 t))), G)
  | 0, _ => rfl | 1, _ => rfl | 2, _ => rfl | 3, _ => rfl | 4, _ => rfl | 5, _ => rfl | 6, _ => rfl | 7, _ => rfl | 8, _ => rfl | 9, _ => rfl | 10, _ => rfl | 11, _ => rfl | 12, _ => rfl | 13, _ => rfl | 14, _ => rfl | 15, _ => rfl
  | t + 16, h => by omega
end Wd
