/-! PURE 1: the joint state of class and reference: rows V j (offset j: 0..64 the class, 65..74 the reference). -/
abbrev VV : Type := Nat → Nat → Int32
def cel (a : Nat) (j : Nat) (r : Nat → Int32) : Cel := match j with
  | 0 => .inl (6, [.ref (a + 1), .ref (a + 17), .ref (a + 33), .ref (a + 49), .ref (a + 64), .int (r 5)])
  | 1 => .inl (0, [.ref (a + 2), .ref (a + 4), .ref (a + 6), .ref (a + 15), .int (r 4), .int (r 5)])
  | 2 => .inl (3, [.ref (a + 3), .int (r 1)])
  | 3 => .inr (false, 96, r)
  | 4 => .inl (3, [.ref (a + 5), .int (r 1)])
  | 5 => .inr (false, 33, r)
  | 6 => .inl (4, [.ref (a + 7), .ref (a + 9), .ref (a + 11), .ref (a + 13)])
  | 7 => .inl (5, [.int 48, .int 17, .ref (a + 8), .int (r 3)])
  | 8 => .inr (false, 816, r)
  | 9 => .inl (5, [.int 12, .int 3, .ref (a + 10), .int (r 3)])
  | 10 => .inr (false, 36, r)
  | 11 => .inl (3, [.ref (a + 12), .int (r 1)])
  | 12 => .inr (false, 1024, r)
  | 13 => .inl (5, [.int 3, .int 16, .ref (a + 14), .int (r 3)])
  | 14 => .inr (false, 48, r)
  | 15 => .inl (5, [.int 196, .int 3, .ref (a + 16), .int (r 3)])
  | 16 => .inr (false, 588, r)
  | 17 => .inl (0, [.ref (a + 18), .ref (a + 20), .ref (a + 22), .ref (a + 31), .int (r 4), .int (r 5)])
  | 18 => .inl (3, [.ref (a + 19), .int (r 1)])
  | 19 => .inr (false, 96, r)
  | 20 => .inl (3, [.ref (a + 21), .int (r 1)])
  | 21 => .inr (false, 33, r)
  | 22 => .inl (4, [.ref (a + 23), .ref (a + 25), .ref (a + 27), .ref (a + 29)])
  | 23 => .inl (5, [.int 48, .int 17, .ref (a + 24), .int (r 3)])
  | 24 => .inr (false, 816, r)
  | 25 => .inl (5, [.int 12, .int 3, .ref (a + 26), .int (r 3)])
  | 26 => .inr (false, 36, r)
  | 27 => .inl (3, [.ref (a + 28), .int (r 1)])
  | 28 => .inr (false, 1024, r)
  | 29 => .inl (5, [.int 3, .int 16, .ref (a + 30), .int (r 3)])
  | 30 => .inr (false, 48, r)
  | 31 => .inl (5, [.int 196, .int 3, .ref (a + 32), .int (r 3)])
  | 32 => .inr (false, 588, r)
  | 33 => .inl (0, [.ref (a + 34), .ref (a + 36), .ref (a + 38), .ref (a + 47), .int (r 4), .int (r 5)])
  | 34 => .inl (3, [.ref (a + 35), .int (r 1)])
  | 35 => .inr (false, 96, r)
  | 36 => .inl (3, [.ref (a + 37), .int (r 1)])
  | 37 => .inr (false, 33, r)
  | 38 => .inl (4, [.ref (a + 39), .ref (a + 41), .ref (a + 43), .ref (a + 45)])
  | 39 => .inl (5, [.int 48, .int 17, .ref (a + 40), .int (r 3)])
  | 40 => .inr (false, 816, r)
  | 41 => .inl (5, [.int 12, .int 3, .ref (a + 42), .int (r 3)])
  | 42 => .inr (false, 36, r)
  | 43 => .inl (3, [.ref (a + 44), .int (r 1)])
  | 44 => .inr (false, 1024, r)
  | 45 => .inl (5, [.int 3, .int 16, .ref (a + 46), .int (r 3)])
  | 46 => .inr (false, 48, r)
  | 47 => .inl (5, [.int 196, .int 3, .ref (a + 48), .int (r 3)])
  | 48 => .inr (false, 588, r)
  | 49 => .inl (2, [.ref (a + 50), .int (r 1), .int (r 2), .ref (a + 59), .ref (a + 60), .int (r 5), .int (r 6), .int (r 7), .int (r 8), .int (r 9), .int (r 10), .ref (a + 62), .int (r 12), .int (r 13)])
  | 50 => .inl (4, [.ref (a + 51), .ref (a + 53), .ref (a + 55), .ref (a + 57)])
  | 51 => .inl (5, [.int 48, .int 17, .ref (a + 52), .int (r 3)])
  | 52 => .inr (false, 816, r)
  | 53 => .inl (5, [.int 12, .int 3, .ref (a + 54), .int (r 3)])
  | 54 => .inr (false, 36, r)
  | 55 => .inl (3, [.ref (a + 56), .int (r 1)])
  | 56 => .inr (false, 1024, r)
  | 57 => .inl (5, [.int 3, .int 16, .ref (a + 58), .int (r 3)])
  | 58 => .inr (false, 48, r)
  | 59 => .inl (1, [.int (r 0), .int (r 1), .int (r 2), .int (r 3), .int (r 4), .int (r 5)])
  | 60 => .inl (5, [.int 4, .int 6, .ref (a + 61), .int (r 3)])
  | 61 => .inr (false, 24, r)
  | 62 => .inl (3, [.ref (a + 63), .int (r 1)])
  | 63 => .inr (false, 32, r)
  | 64 => .inl (1, [.int (r 0), .int (r 1), .int (r 2), .int (r 3), .int (r 4), .int (r 5)])
  | 65 => .inl (7, [.ref (a + 66), .ref (a + 67), .ref (a + 68), .int (r 3), .int (r 4), .int (r 5), .int (r 6), .int (r 7), .ref (a + 69), .ref (a + 70), .int (r 10), .ref (a + 71), .int (r 12), .int (r 13), .ref (a + 72), .int (r 15), .int (r 16), .int (r 17), .int (r 18), .ref (a + 73), .int (r 20), .int (r 21), .int (r 22), .int (r 23), .ref (a + 74), .int (r 25)])
  | 66 => .inr (false, 3293, r)
  | 67 => .inr (false, 6586, r)
  | 68 => .inr (true, 2, r)
  | 69 => .inr (false, 6, r)
  | 70 => .inr (false, 24, r)
  | 71 => .inr (false, 32, r)
  | 72 => .inr (false, 12, r)
  | 73 => .inr (false, 48, r)
  | 74 => .inr (false, 32, r)
  | _ => .inr (false, 0, r)
def updR (V : VV) (j : Nat) (r : Nat → Int32) : VV := fun i => if i = j then r else V i
def hp (a : Nat) (V : VV) : Hp := fun b => if b < a then none else if b - a < 75 then some (cel a (b - a) (V (b - a))) else none
theorem hp_at {a j : Nat} {V : VV} (h : j < 75) : hp a V (a + j) = some (cel a j (V j)) := by
  unfold hp
  rw [if_neg (by omega), show a + j - a = j by omega, if_pos h]
theorem hp_set {a j : Nat} {V : VV} {r : Nat → Int32} (h : j < 75) : hset (hp a V) (a + j) (cel a j r) = hp a (updR V j r) := by
  funext b
  unfold hset hp updR
  by_cases hb : b = a + j
  · subst hb
    rw [if_pos rfl, if_neg (by omega), show a + j - a = j by omega, if_pos h, if_pos rfl]
  · rw [if_neg hb]
    by_cases h1 : b < a
    · rw [if_pos h1, if_pos h1]
    · rw [if_neg h1, if_neg h1, if_neg (show ¬ b - a = j by omega)]
theorem updR_s {V : VV} {j : Nat} {r : Nat → Int32} : updR V j r j = r := by simp [updR]
theorem updR_n {V : VV} {i j : Nat} {r : Nat → Int32} (h : i ≠ j) : updR V j r i = V i := by simp [updR, h]
theorem hp_getF {a j ci k : Nat} {V : VV} {fs : List Value} (hj : j < 75) (hc : cel a j (V j) = .inl (ci, fs)) : getF (hp a V) (a + j) ci k = fs[k]? := by
  unfold getF
  rw [hp_at hj, hc]
  simp
theorem hp_isO {a j ci : Nat} {V : VV} {fs : List Value} (hj : j < 75) (hc : cel a j (V j) = .inl (ci, fs)) : isO (hp a V) (a + j) ci = true := by
  unfold isO
  rw [hp_at hj, hc]
  simp
theorem hp_putF {a j ci k : Nat} {V : VV} {fs : List Value} {x : Int32} {r : Nat → Int32} (hj : j < 75) (hc : cel a j (V j) = .inl (ci, fs)) (hk : k < fs.length) (hr : cel a j r = .inl (ci, fs.set k (.int x))) : putF (hp a V) (a + j) ci k (.int x) = some (hp a (updR V j r)) := by
  unfold putF
  rw [hp_at hj, hc]
  simp only [hk, and_self, if_true]
  rw [← hp_set (r := r) hj, hr]
theorem hp_getA {a j n : Nat} {z : Bool} {V : VV} {i : Int32} (hj : j < 75) (hc : ∀ r, cel a j r = .inr (z, n, r)) : getA (hp a V) z (a + j) i = if 0 ≤ i.toInt ∧ i.toInt < n then some (V j i.toNatClampNeg) else none := by
  unfold getA
  rw [hp_at hj, hc]
  simp
theorem hp_setA {a j n : Nat} {z : Bool} {V : VV} {i x : Int32} (hj : j < 75) (hc : ∀ r, cel a j r = .inr (z, n, r)) : setA (hp a V) z (a + j) i x = if 0 ≤ i.toInt ∧ i.toInt < n then some (hp a (updR V j (upd (V j) i.toNatClampNeg x))) else none := by
  unfold setA
  rw [hp_at hj, hc]
  simp only [true_and]
  split
  · rw [← hp_set (r := upd (V j) i.toNatClampNeg x) hj, hc]
  · rfl
theorem hp_len {a j n : Nat} {z : Bool} {V : VV} (hj : j < 75) (hc : ∀ r, cel a j r = .inr (z, n, r)) : hp a V (a + j) = some (.inr (z, n, V j)) := by rw [hp_at hj, hc]
/-- the state at the start: all rows 0 -/
theorem hp_start (a : Nat) : ov a (cells0 a ++ cells1 a) (fun _ => none) = hp a (fun _ _ => 0) := by
  funext b
  unfold ov hp
  by_cases h1 : b < a
  · rw [if_pos h1, if_pos h1]
  · rw [if_neg h1, if_neg h1]
    obtain ⟨j, rfl⟩ : ∃ j, b = a + j := ⟨b - a, by omega⟩
    rw [show a + j - a = j by omega]
    by_cases h2 : j < 75
    · rw [if_pos h2]
      have : (cells0 a ++ cells1 a)[j]? = some (cel a j fun _ => 0) := by
        match j, h2 with
        | 0, _ => rfl
        | 1, _ => rfl
        | 2, _ => rfl
        | 3, _ => rfl
        | 4, _ => rfl
        | 5, _ => rfl
        | 6, _ => rfl
        | 7, _ => rfl
        | 8, _ => rfl
        | 9, _ => rfl
        | 10, _ => rfl
        | 11, _ => rfl
        | 12, _ => rfl
        | 13, _ => rfl
        | 14, _ => rfl
        | 15, _ => rfl
        | 16, _ => rfl
        | 17, _ => rfl
        | 18, _ => rfl
        | 19, _ => rfl
        | 20, _ => rfl
        | 21, _ => rfl
        | 22, _ => rfl
        | 23, _ => rfl
        | 24, _ => rfl
        | 25, _ => rfl
        | 26, _ => rfl
        | 27, _ => rfl
        | 28, _ => rfl
        | 29, _ => rfl
        | 30, _ => rfl
        | 31, _ => rfl
        | 32, _ => rfl
        | 33, _ => rfl
        | 34, _ => rfl
        | 35, _ => rfl
        | 36, _ => rfl
        | 37, _ => rfl
        | 38, _ => rfl
        | 39, _ => rfl
        | 40, _ => rfl
        | 41, _ => rfl
        | 42, _ => rfl
        | 43, _ => rfl
        | 44, _ => rfl
        | 45, _ => rfl
        | 46, _ => rfl
        | 47, _ => rfl
        | 48, _ => rfl
        | 49, _ => rfl
        | 50, _ => rfl
        | 51, _ => rfl
        | 52, _ => rfl
        | 53, _ => rfl
        | 54, _ => rfl
        | 55, _ => rfl
        | 56, _ => rfl
        | 57, _ => rfl
        | 58, _ => rfl
        | 59, _ => rfl
        | 60, _ => rfl
        | 61, _ => rfl
        | 62, _ => rfl
        | 63, _ => rfl
        | 64, _ => rfl
        | 65, _ => rfl
        | 66, _ => rfl
        | 67, _ => rfl
        | 68, _ => rfl
        | 69, _ => rfl
        | 70, _ => rfl
        | 71, _ => rfl
        | 72, _ => rfl
        | 73, _ => rfl
        | 74, _ => rfl
        | j + 75, h2 => exact absurd h2 (by omega)
      rw [this]
    · rw [if_neg h2, List.getElem?_eq_none (by show 75 ≤ j; omega)]
