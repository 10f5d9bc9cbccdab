/-! PURE 2: how tellings are worked out, a step a row (continuations are constants, so that simp goes in order). -/
theorem ev_vI0 {x : Int32} {t : Lo} {G : Hp} : vI 0 (some (.int x) :: t) G = some (x, G) := Eq.trans rfl rfl
theorem ev_vJ0 {x : Int64} {t : Lo} {G : Hp} : vJ 0 (some (.long x) :: t) G = some (x, G) := Eq.trans rfl rfl
theorem ev_vA0 {x : Nat} {t : Lo} {G : Hp} : vA 0 (some (.ref x) :: t) G = some (x, G) := Eq.trans rfl rfl
theorem ev_st1_0 {h0 : Option Value} {t : Lo} {v : Value} : st1 (h0 :: t) 0 v = some v :: t := Eq.trans rfl rfl
theorem ev_st2_0 {h0 h1 : Option Value} {t : Lo} {v : Value} : st2 (h0 :: h1 :: t) 0 v = some v :: none :: t := Eq.trans rfl rfl
theorem ev_vI1 {h0 : Option Value} {x : Int32} {t : Lo} {G : Hp} : vI 1 (h0 :: some (.int x) :: t) G = some (x, G) := Eq.trans rfl rfl
theorem ev_vJ1 {h0 : Option Value} {x : Int64} {t : Lo} {G : Hp} : vJ 1 (h0 :: some (.long x) :: t) G = some (x, G) := Eq.trans rfl rfl
theorem ev_vA1 {h0 : Option Value} {x : Nat} {t : Lo} {G : Hp} : vA 1 (h0 :: some (.ref x) :: t) G = some (x, G) := Eq.trans rfl rfl
theorem ev_st1_1 {h0 h1 : Option Value} {t : Lo} {v : Value} : st1 (h0 :: h1 :: t) 1 v = kl h0 :: some v :: t := Eq.trans rfl rfl
theorem ev_st2_1 {h0 h1 h2 : Option Value} {t : Lo} {v : Value} : st2 (h0 :: h1 :: h2 :: t) 1 v = kl h0 :: some v :: none :: t := Eq.trans rfl rfl
theorem ev_vI2 {h0 h1 : Option Value} {x : Int32} {t : Lo} {G : Hp} : vI 2 (h0 :: h1 :: some (.int x) :: t) G = some (x, G) := Eq.trans rfl rfl
theorem ev_vJ2 {h0 h1 : Option Value} {x : Int64} {t : Lo} {G : Hp} : vJ 2 (h0 :: h1 :: some (.long x) :: t) G = some (x, G) := Eq.trans rfl rfl
theorem ev_vA2 {h0 h1 : Option Value} {x : Nat} {t : Lo} {G : Hp} : vA 2 (h0 :: h1 :: some (.ref x) :: t) G = some (x, G) := Eq.trans rfl rfl
theorem ev_st1_2 {h0 h1 h2 : Option Value} {t : Lo} {v : Value} : st1 (h0 :: h1 :: h2 :: t) 2 v = h0 :: kl h1 :: some v :: t := Eq.trans rfl rfl
theorem ev_st2_2 {h0 h1 h2 h3 : Option Value} {t : Lo} {v : Value} : st2 (h0 :: h1 :: h2 :: h3 :: t) 2 v = h0 :: kl h1 :: some v :: none :: t := Eq.trans rfl rfl
theorem ev_vI3 {h0 h1 h2 : Option Value} {x : Int32} {t : Lo} {G : Hp} : vI 3 (h0 :: h1 :: h2 :: some (.int x) :: t) G = some (x, G) := Eq.trans rfl rfl
theorem ev_vJ3 {h0 h1 h2 : Option Value} {x : Int64} {t : Lo} {G : Hp} : vJ 3 (h0 :: h1 :: h2 :: some (.long x) :: t) G = some (x, G) := Eq.trans rfl rfl
theorem ev_vA3 {h0 h1 h2 : Option Value} {x : Nat} {t : Lo} {G : Hp} : vA 3 (h0 :: h1 :: h2 :: some (.ref x) :: t) G = some (x, G) := Eq.trans rfl rfl
theorem ev_st1_3 {h0 h1 h2 h3 : Option Value} {t : Lo} {v : Value} : st1 (h0 :: h1 :: h2 :: h3 :: t) 3 v = h0 :: h1 :: kl h2 :: some v :: t := Eq.trans rfl rfl
theorem ev_st2_3 {h0 h1 h2 h3 h4 : Option Value} {t : Lo} {v : Value} : st2 (h0 :: h1 :: h2 :: h3 :: h4 :: t) 3 v = h0 :: h1 :: kl h2 :: some v :: none :: t := Eq.trans rfl rfl
theorem ev_vI4 {h0 h1 h2 h3 : Option Value} {x : Int32} {t : Lo} {G : Hp} : vI 4 (h0 :: h1 :: h2 :: h3 :: some (.int x) :: t) G = some (x, G) := Eq.trans rfl rfl
theorem ev_vJ4 {h0 h1 h2 h3 : Option Value} {x : Int64} {t : Lo} {G : Hp} : vJ 4 (h0 :: h1 :: h2 :: h3 :: some (.long x) :: t) G = some (x, G) := Eq.trans rfl rfl
theorem ev_vA4 {h0 h1 h2 h3 : Option Value} {x : Nat} {t : Lo} {G : Hp} : vA 4 (h0 :: h1 :: h2 :: h3 :: some (.ref x) :: t) G = some (x, G) := Eq.trans rfl rfl
theorem ev_st1_4 {h0 h1 h2 h3 h4 : Option Value} {t : Lo} {v : Value} : st1 (h0 :: h1 :: h2 :: h3 :: h4 :: t) 4 v = h0 :: h1 :: h2 :: kl h3 :: some v :: t := Eq.trans rfl rfl
theorem ev_st2_4 {h0 h1 h2 h3 h4 h5 : Option Value} {t : Lo} {v : Value} : st2 (h0 :: h1 :: h2 :: h3 :: h4 :: h5 :: t) 4 v = h0 :: h1 :: h2 :: kl h3 :: some v :: none :: t := Eq.trans rfl rfl
theorem ev_vI5 {h0 h1 h2 h3 h4 : Option Value} {x : Int32} {t : Lo} {G : Hp} : vI 5 (h0 :: h1 :: h2 :: h3 :: h4 :: some (.int x) :: t) G = some (x, G) := Eq.trans rfl rfl
theorem ev_vJ5 {h0 h1 h2 h3 h4 : Option Value} {x : Int64} {t : Lo} {G : Hp} : vJ 5 (h0 :: h1 :: h2 :: h3 :: h4 :: some (.long x) :: t) G = some (x, G) := Eq.trans rfl rfl
theorem ev_vA5 {h0 h1 h2 h3 h4 : Option Value} {x : Nat} {t : Lo} {G : Hp} : vA 5 (h0 :: h1 :: h2 :: h3 :: h4 :: some (.ref x) :: t) G = some (x, G) := Eq.trans rfl rfl
theorem ev_st1_5 {h0 h1 h2 h3 h4 h5 : Option Value} {t : Lo} {v : Value} : st1 (h0 :: h1 :: h2 :: h3 :: h4 :: h5 :: t) 5 v = h0 :: h1 :: h2 :: h3 :: kl h4 :: some v :: t := Eq.trans rfl rfl
theorem ev_st2_5 {h0 h1 h2 h3 h4 h5 h6 : Option Value} {t : Lo} {v : Value} : st2 (h0 :: h1 :: h2 :: h3 :: h4 :: h5 :: h6 :: t) 5 v = h0 :: h1 :: h2 :: h3 :: kl h4 :: some v :: none :: t := Eq.trans rfl rfl
theorem ev_vI6 {h0 h1 h2 h3 h4 h5 : Option Value} {x : Int32} {t : Lo} {G : Hp} : vI 6 (h0 :: h1 :: h2 :: h3 :: h4 :: h5 :: some (.int x) :: t) G = some (x, G) := Eq.trans rfl rfl
theorem ev_vJ6 {h0 h1 h2 h3 h4 h5 : Option Value} {x : Int64} {t : Lo} {G : Hp} : vJ 6 (h0 :: h1 :: h2 :: h3 :: h4 :: h5 :: some (.long x) :: t) G = some (x, G) := Eq.trans rfl rfl
theorem ev_vA6 {h0 h1 h2 h3 h4 h5 : Option Value} {x : Nat} {t : Lo} {G : Hp} : vA 6 (h0 :: h1 :: h2 :: h3 :: h4 :: h5 :: some (.ref x) :: t) G = some (x, G) := Eq.trans rfl rfl
theorem ev_st1_6 {h0 h1 h2 h3 h4 h5 h6 : Option Value} {t : Lo} {v : Value} : st1 (h0 :: h1 :: h2 :: h3 :: h4 :: h5 :: h6 :: t) 6 v = h0 :: h1 :: h2 :: h3 :: h4 :: kl h5 :: some v :: t := Eq.trans rfl rfl
theorem ev_st2_6 {h0 h1 h2 h3 h4 h5 h6 h7 : Option Value} {t : Lo} {v : Value} : st2 (h0 :: h1 :: h2 :: h3 :: h4 :: h5 :: h6 :: h7 :: t) 6 v = h0 :: h1 :: h2 :: h3 :: h4 :: kl h5 :: some v :: none :: t := Eq.trans rfl rfl
theorem ev_vI7 {h0 h1 h2 h3 h4 h5 h6 : Option Value} {x : Int32} {t : Lo} {G : Hp} : vI 7 (h0 :: h1 :: h2 :: h3 :: h4 :: h5 :: h6 :: some (.int x) :: t) G = some (x, G) := Eq.trans rfl rfl
theorem ev_vJ7 {h0 h1 h2 h3 h4 h5 h6 : Option Value} {x : Int64} {t : Lo} {G : Hp} : vJ 7 (h0 :: h1 :: h2 :: h3 :: h4 :: h5 :: h6 :: some (.long x) :: t) G = some (x, G) := Eq.trans rfl rfl
theorem ev_vA7 {h0 h1 h2 h3 h4 h5 h6 : Option Value} {x : Nat} {t : Lo} {G : Hp} : vA 7 (h0 :: h1 :: h2 :: h3 :: h4 :: h5 :: h6 :: some (.ref x) :: t) G = some (x, G) := Eq.trans rfl rfl
theorem ev_st1_7 {h0 h1 h2 h3 h4 h5 h6 h7 : Option Value} {t : Lo} {v : Value} : st1 (h0 :: h1 :: h2 :: h3 :: h4 :: h5 :: h6 :: h7 :: t) 7 v = h0 :: h1 :: h2 :: h3 :: h4 :: h5 :: kl h6 :: some v :: t := Eq.trans rfl rfl
theorem ev_st2_7 {h0 h1 h2 h3 h4 h5 h6 h7 h8 : Option Value} {t : Lo} {v : Value} : st2 (h0 :: h1 :: h2 :: h3 :: h4 :: h5 :: h6 :: h7 :: h8 :: t) 7 v = h0 :: h1 :: h2 :: h3 :: h4 :: h5 :: kl h6 :: some v :: none :: t := Eq.trans rfl rfl
theorem ev_vI8 {h0 h1 h2 h3 h4 h5 h6 h7 : Option Value} {x : Int32} {t : Lo} {G : Hp} : vI 8 (h0 :: h1 :: h2 :: h3 :: h4 :: h5 :: h6 :: h7 :: some (.int x) :: t) G = some (x, G) := Eq.trans rfl rfl
theorem ev_vJ8 {h0 h1 h2 h3 h4 h5 h6 h7 : Option Value} {x : Int64} {t : Lo} {G : Hp} : vJ 8 (h0 :: h1 :: h2 :: h3 :: h4 :: h5 :: h6 :: h7 :: some (.long x) :: t) G = some (x, G) := Eq.trans rfl rfl
theorem ev_vA8 {h0 h1 h2 h3 h4 h5 h6 h7 : Option Value} {x : Nat} {t : Lo} {G : Hp} : vA 8 (h0 :: h1 :: h2 :: h3 :: h4 :: h5 :: h6 :: h7 :: some (.ref x) :: t) G = some (x, G) := Eq.trans rfl rfl
theorem ev_st1_8 {h0 h1 h2 h3 h4 h5 h6 h7 h8 : Option Value} {t : Lo} {v : Value} : st1 (h0 :: h1 :: h2 :: h3 :: h4 :: h5 :: h6 :: h7 :: h8 :: t) 8 v = h0 :: h1 :: h2 :: h3 :: h4 :: h5 :: h6 :: kl h7 :: some v :: t := Eq.trans rfl rfl
theorem ev_st2_8 {h0 h1 h2 h3 h4 h5 h6 h7 h8 h9 : Option Value} {t : Lo} {v : Value} : st2 (h0 :: h1 :: h2 :: h3 :: h4 :: h5 :: h6 :: h7 :: h8 :: h9 :: t) 8 v = h0 :: h1 :: h2 :: h3 :: h4 :: h5 :: h6 :: kl h7 :: some v :: none :: t := Eq.trans rfl rfl
theorem ev_vI9 {h0 h1 h2 h3 h4 h5 h6 h7 h8 : Option Value} {x : Int32} {t : Lo} {G : Hp} : vI 9 (h0 :: h1 :: h2 :: h3 :: h4 :: h5 :: h6 :: h7 :: h8 :: some (.int x) :: t) G = some (x, G) := Eq.trans rfl rfl
theorem ev_vJ9 {h0 h1 h2 h3 h4 h5 h6 h7 h8 : Option Value} {x : Int64} {t : Lo} {G : Hp} : vJ 9 (h0 :: h1 :: h2 :: h3 :: h4 :: h5 :: h6 :: h7 :: h8 :: some (.long x) :: t) G = some (x, G) := Eq.trans rfl rfl
theorem ev_vA9 {h0 h1 h2 h3 h4 h5 h6 h7 h8 : Option Value} {x : Nat} {t : Lo} {G : Hp} : vA 9 (h0 :: h1 :: h2 :: h3 :: h4 :: h5 :: h6 :: h7 :: h8 :: some (.ref x) :: t) G = some (x, G) := Eq.trans rfl rfl
theorem ev_st1_9 {h0 h1 h2 h3 h4 h5 h6 h7 h8 h9 : Option Value} {t : Lo} {v : Value} : st1 (h0 :: h1 :: h2 :: h3 :: h4 :: h5 :: h6 :: h7 :: h8 :: h9 :: t) 9 v = h0 :: h1 :: h2 :: h3 :: h4 :: h5 :: h6 :: h7 :: kl h8 :: some v :: t := Eq.trans rfl rfl
theorem ev_st2_9 {h0 h1 h2 h3 h4 h5 h6 h7 h8 h9 h10 : Option Value} {t : Lo} {v : Value} : st2 (h0 :: h1 :: h2 :: h3 :: h4 :: h5 :: h6 :: h7 :: h8 :: h9 :: h10 :: t) 9 v = h0 :: h1 :: h2 :: h3 :: h4 :: h5 :: h6 :: h7 :: kl h8 :: some v :: none :: t := Eq.trans rfl rfl
theorem ev_vI10 {h0 h1 h2 h3 h4 h5 h6 h7 h8 h9 : Option Value} {x : Int32} {t : Lo} {G : Hp} : vI 10 (h0 :: h1 :: h2 :: h3 :: h4 :: h5 :: h6 :: h7 :: h8 :: h9 :: some (.int x) :: t) G = some (x, G) := Eq.trans rfl rfl
theorem ev_vJ10 {h0 h1 h2 h3 h4 h5 h6 h7 h8 h9 : Option Value} {x : Int64} {t : Lo} {G : Hp} : vJ 10 (h0 :: h1 :: h2 :: h3 :: h4 :: h5 :: h6 :: h7 :: h8 :: h9 :: some (.long x) :: t) G = some (x, G) := Eq.trans rfl rfl
theorem ev_vA10 {h0 h1 h2 h3 h4 h5 h6 h7 h8 h9 : Option Value} {x : Nat} {t : Lo} {G : Hp} : vA 10 (h0 :: h1 :: h2 :: h3 :: h4 :: h5 :: h6 :: h7 :: h8 :: h9 :: some (.ref x) :: t) G = some (x, G) := Eq.trans rfl rfl
theorem ev_st1_10 {h0 h1 h2 h3 h4 h5 h6 h7 h8 h9 h10 : Option Value} {t : Lo} {v : Value} : st1 (h0 :: h1 :: h2 :: h3 :: h4 :: h5 :: h6 :: h7 :: h8 :: h9 :: h10 :: t) 10 v = h0 :: h1 :: h2 :: h3 :: h4 :: h5 :: h6 :: h7 :: h8 :: kl h9 :: some v :: t := Eq.trans rfl rfl
theorem ev_st2_10 {h0 h1 h2 h3 h4 h5 h6 h7 h8 h9 h10 h11 : Option Value} {t : Lo} {v : Value} : st2 (h0 :: h1 :: h2 :: h3 :: h4 :: h5 :: h6 :: h7 :: h8 :: h9 :: h10 :: h11 :: t) 10 v = h0 :: h1 :: h2 :: h3 :: h4 :: h5 :: h6 :: h7 :: h8 :: kl h9 :: some v :: none :: t := Eq.trans rfl rfl
theorem ev_vI11 {h0 h1 h2 h3 h4 h5 h6 h7 h8 h9 h10 : Option Value} {x : Int32} {t : Lo} {G : Hp} : vI 11 (h0 :: h1 :: h2 :: h3 :: h4 :: h5 :: h6 :: h7 :: h8 :: h9 :: h10 :: some (.int x) :: t) G = some (x, G) := Eq.trans rfl rfl
theorem ev_vJ11 {h0 h1 h2 h3 h4 h5 h6 h7 h8 h9 h10 : Option Value} {x : Int64} {t : Lo} {G : Hp} : vJ 11 (h0 :: h1 :: h2 :: h3 :: h4 :: h5 :: h6 :: h7 :: h8 :: h9 :: h10 :: some (.long x) :: t) G = some (x, G) := Eq.trans rfl rfl
theorem ev_vA11 {h0 h1 h2 h3 h4 h5 h6 h7 h8 h9 h10 : Option Value} {x : Nat} {t : Lo} {G : Hp} : vA 11 (h0 :: h1 :: h2 :: h3 :: h4 :: h5 :: h6 :: h7 :: h8 :: h9 :: h10 :: some (.ref x) :: t) G = some (x, G) := Eq.trans rfl rfl
theorem ev_st1_11 {h0 h1 h2 h3 h4 h5 h6 h7 h8 h9 h10 h11 : Option Value} {t : Lo} {v : Value} : st1 (h0 :: h1 :: h2 :: h3 :: h4 :: h5 :: h6 :: h7 :: h8 :: h9 :: h10 :: h11 :: t) 11 v = h0 :: h1 :: h2 :: h3 :: h4 :: h5 :: h6 :: h7 :: h8 :: h9 :: kl h10 :: some v :: t := Eq.trans rfl rfl
theorem ev_st2_11 {h0 h1 h2 h3 h4 h5 h6 h7 h8 h9 h10 h11 h12 : Option Value} {t : Lo} {v : Value} : st2 (h0 :: h1 :: h2 :: h3 :: h4 :: h5 :: h6 :: h7 :: h8 :: h9 :: h10 :: h11 :: h12 :: t) 11 v = h0 :: h1 :: h2 :: h3 :: h4 :: h5 :: h6 :: h7 :: h8 :: h9 :: kl h10 :: some v :: none :: t := Eq.trans rfl rfl
theorem ev_vI12 {h0 h1 h2 h3 h4 h5 h6 h7 h8 h9 h10 h11 : Option Value} {x : Int32} {t : Lo} {G : Hp} : vI 12 (h0 :: h1 :: h2 :: h3 :: h4 :: h5 :: h6 :: h7 :: h8 :: h9 :: h10 :: h11 :: some (.int x) :: t) G = some (x, G) := Eq.trans rfl rfl
theorem ev_vJ12 {h0 h1 h2 h3 h4 h5 h6 h7 h8 h9 h10 h11 : Option Value} {x : Int64} {t : Lo} {G : Hp} : vJ 12 (h0 :: h1 :: h2 :: h3 :: h4 :: h5 :: h6 :: h7 :: h8 :: h9 :: h10 :: h11 :: some (.long x) :: t) G = some (x, G) := Eq.trans rfl rfl
theorem ev_vA12 {h0 h1 h2 h3 h4 h5 h6 h7 h8 h9 h10 h11 : Option Value} {x : Nat} {t : Lo} {G : Hp} : vA 12 (h0 :: h1 :: h2 :: h3 :: h4 :: h5 :: h6 :: h7 :: h8 :: h9 :: h10 :: h11 :: some (.ref x) :: t) G = some (x, G) := Eq.trans rfl rfl
theorem ev_st1_12 {h0 h1 h2 h3 h4 h5 h6 h7 h8 h9 h10 h11 h12 : Option Value} {t : Lo} {v : Value} : st1 (h0 :: h1 :: h2 :: h3 :: h4 :: h5 :: h6 :: h7 :: h8 :: h9 :: h10 :: h11 :: h12 :: t) 12 v = h0 :: h1 :: h2 :: h3 :: h4 :: h5 :: h6 :: h7 :: h8 :: h9 :: h10 :: kl h11 :: some v :: t := Eq.trans rfl rfl
theorem ev_st2_12 {h0 h1 h2 h3 h4 h5 h6 h7 h8 h9 h10 h11 h12 h13 : Option Value} {t : Lo} {v : Value} : st2 (h0 :: h1 :: h2 :: h3 :: h4 :: h5 :: h6 :: h7 :: h8 :: h9 :: h10 :: h11 :: h12 :: h13 :: t) 12 v = h0 :: h1 :: h2 :: h3 :: h4 :: h5 :: h6 :: h7 :: h8 :: h9 :: h10 :: kl h11 :: some v :: none :: t := Eq.trans rfl rfl
theorem ev_kI {x : Int32} {L : Lo} {G : Hp} : kI x L G = some (x, G) := Eq.trans rfl rfl
theorem ev_kJ {x : Int64} {L : Lo} {G : Hp} : kJ x L G = some (x, G) := Eq.trans rfl rfl
def q_bI (op : Int32 → Int32 → Int32) (g : EI) (L : Lo) (r : Int32 × Hp) : Option (Int32 × Hp) := (g L r.2).bind fun q => some (op r.1 q.1, q.2)
def q_bI2 (op : Int32 → Int32 → Int32) (x : Int32) (q : Int32 × Hp) : Option (Int32 × Hp) := some (op x q.1, q.2)
theorem ev_bI {op : Int32 → Int32 → Int32} {f g : EI} {L : Lo} {G : Hp} : bI op f g L G = (f L G).bind (q_bI op g L) := Eq.trans rfl rfl
theorem ev_bI1 {op : Int32 → Int32 → Int32} {g : EI} {L : Lo} {G : Hp} {x : Int32} : q_bI op g L (x, G) = (g L G).bind (q_bI2 op x) := Eq.trans rfl rfl
theorem ev_bI2 {op : Int32 → Int32 → Int32} {G : Hp} {x y : Int32} : q_bI2 op x (y, G) = some (op x y, G) := Eq.trans rfl rfl
def q_bQ (op : Int32 → Int32 → Int32) (g : EI) (L : Lo) (r : Int32 × Hp) : Option (Int32 × Hp) := (g L r.2).bind fun q => if q.1 = 0 then none else some (op r.1 q.1, q.2)
def q_bQ2 (op : Int32 → Int32 → Int32) (x : Int32) (q : Int32 × Hp) : Option (Int32 × Hp) := if q.1 = 0 then none else some (op x q.1, q.2)
theorem ev_bQ {op : Int32 → Int32 → Int32} {f g : EI} {L : Lo} {G : Hp} : bQ op f g L G = (f L G).bind (q_bQ op g L) := Eq.trans rfl rfl
theorem ev_bQ1 {op : Int32 → Int32 → Int32} {g : EI} {L : Lo} {G : Hp} {x : Int32} : q_bQ op g L (x, G) = (g L G).bind (q_bQ2 op x) := Eq.trans rfl rfl
theorem ev_bQ2 {op : Int32 → Int32 → Int32} {G : Hp} {x y : Int32} : q_bQ2 op x (y, G) = if y = 0 then none else some (op x y, G) := Eq.trans rfl rfl
def q_bJ (op : Int64 → Int64 → Int64) (g : EJ) (L : Lo) (r : Int64 × Hp) : Option (Int64 × Hp) := (g L r.2).bind fun q => some (op r.1 q.1, q.2)
def q_bJ2 (op : Int64 → Int64 → Int64) (x : Int64) (q : Int64 × Hp) : Option (Int64 × Hp) := some (op x q.1, q.2)
theorem ev_bJ {op : Int64 → Int64 → Int64} {f g : EJ} {L : Lo} {G : Hp} : bJ op f g L G = (f L G).bind (q_bJ op g L) := Eq.trans rfl rfl
theorem ev_bJ1 {op : Int64 → Int64 → Int64} {g : EJ} {L : Lo} {G : Hp} {x : Int64} : q_bJ op g L (x, G) = (g L G).bind (q_bJ2 op x) := Eq.trans rfl rfl
theorem ev_bJ2 {op : Int64 → Int64 → Int64} {G : Hp} {x y : Int64} : q_bJ2 op x (y, G) = some (op x y, G) := Eq.trans rfl rfl
def q_bQJ (op : Int64 → Int64 → Int64) (g : EJ) (L : Lo) (r : Int64 × Hp) : Option (Int64 × Hp) := (g L r.2).bind fun q => if q.1 = 0 then none else some (op r.1 q.1, q.2)
def q_bQJ2 (op : Int64 → Int64 → Int64) (x : Int64) (q : Int64 × Hp) : Option (Int64 × Hp) := if q.1 = 0 then none else some (op x q.1, q.2)
theorem ev_bQJ {op : Int64 → Int64 → Int64} {f g : EJ} {L : Lo} {G : Hp} : bQJ op f g L G = (f L G).bind (q_bQJ op g L) := Eq.trans rfl rfl
theorem ev_bQJ1 {op : Int64 → Int64 → Int64} {g : EJ} {L : Lo} {G : Hp} {x : Int64} : q_bQJ op g L (x, G) = (g L G).bind (q_bQJ2 op x) := Eq.trans rfl rfl
theorem ev_bQJ2 {op : Int64 → Int64 → Int64} {G : Hp} {x y : Int64} : q_bQJ2 op x (y, G) = if y = 0 then none else some (op x y, G) := Eq.trans rfl rfl
def q_uIJ (r : Int32 × Hp) : Option (Int64 × Hp) := some (r.1.toInt64, r.2)
theorem ev_uIJ {f : EI} {L : Lo} {G : Hp} : uIJ f L G = (f L G).bind q_uIJ := Eq.trans rfl rfl
theorem ev_uIJ1 {x : Int32} {G : Hp} : q_uIJ (x, G) = some (x.toInt64, G) := Eq.trans rfl rfl
def q_uJI (r : Int64 × Hp) : Option (Int32 × Hp) := some (r.1.toInt32, r.2)
theorem ev_uJI {f : EJ} {L : Lo} {G : Hp} : uJI f L G = (f L G).bind q_uJI := Eq.trans rfl rfl
theorem ev_uJI1 {x : Int64} {G : Hp} : q_uJI (x, G) = some (x.toInt32, G) := Eq.trans rfl rfl
def q_uJJ (op : Int64 → Int64) (r : Int64 × Hp) : Option (Int64 × Hp) := some (op r.1, r.2)
theorem ev_uJJ {op : Int64 → Int64} {f : EJ} {L : Lo} {G : Hp} : uJJ op f L G = (f L G).bind (q_uJJ op) := Eq.trans rfl rfl
theorem ev_uJJ1 {op : Int64 → Int64} {x : Int64} {G : Hp} : q_uJJ op (x, G) = some (op x, G) := Eq.trans rfl rfl
def q_fI (ci k : Nat) (r : Nat × Hp) : Option (Int32 × Hp) := match getF r.2 r.1 ci k with
  | some (.int x) => some (x, r.2)
  | _ => none
def q_fI2 (G : Hp) (v : Option Value) : Option (Int32 × Hp) := match v with
  | some (.int x) => some (x, G)
  | _ => none
theorem ev_fI {f : EA} {ci k : Nat} {L : Lo} {G : Hp} : fI f ci k L G = (f L G).bind (q_fI ci k) := Eq.trans rfl rfl
theorem ev_fI1 {ci k x : Nat} {G : Hp} : q_fI ci k (x, G) = q_fI2 G (getF G x ci k) := Eq.trans rfl rfl
theorem ev_fI2 {x : Int32} {G : Hp} : q_fI2 G (some (.int x)) = some (x, G) := Eq.trans rfl rfl
def q_fA (ci k : Nat) (r : Nat × Hp) : Option (Nat × Hp) := match getF r.2 r.1 ci k with
  | some (.ref x) => some (x, r.2)
  | _ => none
def q_fA2 (G : Hp) (v : Option Value) : Option (Nat × Hp) := match v with
  | some (.ref x) => some (x, G)
  | _ => none
theorem ev_fA {f : EA} {ci k : Nat} {L : Lo} {G : Hp} : fA f ci k L G = (f L G).bind (q_fA ci k) := Eq.trans rfl rfl
theorem ev_fA1 {ci k x : Nat} {G : Hp} : q_fA ci k (x, G) = q_fA2 G (getF G x ci k) := Eq.trans rfl rfl
theorem ev_fA2 {x : Nat} {G : Hp} : q_fA2 G (some (.ref x)) = some (x, G) := Eq.trans rfl rfl
def q_aI (z : Bool) (g : EI) (L : Lo) (r : Nat × Hp) : Option (Int32 × Hp) := (g L r.2).bind fun q => (getA q.2 z r.1 q.1).bind fun x => some (x, q.2)
def q_aI2 (z : Bool) (a : Nat) (q : Int32 × Hp) : Option (Int32 × Hp) := (getA q.2 z a q.1).bind fun x => some (x, q.2)
def q_aI3 (G : Hp) (x : Int32) : Option (Int32 × Hp) := some (x, G)
theorem ev_aI {z : Bool} {f : EA} {g : EI} {L : Lo} {G : Hp} : aI z f g L G = (f L G).bind (q_aI z g L) := Eq.trans rfl rfl
theorem ev_aI1 {z : Bool} {g : EI} {L : Lo} {G : Hp} {x : Nat} : q_aI z g L (x, G) = (g L G).bind (q_aI2 z x) := Eq.trans rfl rfl
theorem ev_aI2 {z : Bool} {G : Hp} {x : Nat} {i : Int32} : q_aI2 z x (i, G) = (getA G z x i).bind (q_aI3 G) := Eq.trans rfl rfl
theorem ev_aI3 {G : Hp} {x : Int32} : q_aI3 G x = some (x, G) := Eq.trans rfl rfl
def q_aN (r : Nat × Hp) : Option (Int32 × Hp) := match r.2 r.1 with
  | some (.inr o) => some (Int32.ofNat o.2.1, r.2)
  | _ => none
def q_aN2 (G : Hp) (c : Option Cel) : Option (Int32 × Hp) := match c with
  | some (.inr o) => some (Int32.ofNat o.2.1, G)
  | _ => none
theorem ev_aN {f : EA} {L : Lo} {G : Hp} : aN f L G = (f L G).bind q_aN := Eq.trans rfl rfl
theorem ev_aN1 {G : Hp} {x : Nat} : q_aN (x, G) = q_aN2 G (G x) := Eq.trans rfl rfl
theorem ev_aN2 {G : Hp} {z : Bool} {n : Nat} {r : Nat → Int32} : q_aN2 G (some (.inr (z, n, r))) = some (Int32.ofNat n, G) := Eq.trans rfl rfl
def q_cI {α : Type} (f g : Lo → Hp → Option (α × Hp)) (L : Lo) (r : Bool × Hp) : Option (α × Hp) := bif r.1 then f L r.2 else g L r.2
theorem ev_cI {α : Type} {c : EB} {f g : Lo → Hp → Option (α × Hp)} {L : Lo} {G : Hp} : cI c f g L G = (c L G).bind (q_cI f g L) := Eq.trans rfl rfl
theorem ev_cIt {α : Type} {f g : Lo → Hp → Option (α × Hp)} {L : Lo} {G : Hp} : q_cI f g L (true, G) = f L G := Eq.trans rfl rfl
theorem ev_cIf {α : Type} {f g : Lo → Hp → Option (α × Hp)} {L : Lo} {G : Hp} : q_cI f g L (false, G) = g L G := Eq.trans rfl rfl
def q_qI (op : Int32 → Int32 → Bool) (g : EI) (L : Lo) (r : Int32 × Hp) : Option (Bool × Hp) := (g L r.2).bind fun q => some (op r.1 q.1, q.2)
def q_qI2 (op : Int32 → Int32 → Bool) (x : Int32) (q : Int32 × Hp) : Option (Bool × Hp) := some (op x q.1, q.2)
theorem ev_qI {op : Int32 → Int32 → Bool} {f g : EI} {L : Lo} {G : Hp} : qI op f g L G = (f L G).bind (q_qI op g L) := Eq.trans rfl rfl
theorem ev_qI1 {op : Int32 → Int32 → Bool} {g : EI} {L : Lo} {G : Hp} {x : Int32} : q_qI op g L (x, G) = (g L G).bind (q_qI2 op x) := Eq.trans rfl rfl
theorem ev_qI2 {op : Int32 → Int32 → Bool} {G : Hp} {x y : Int32} : q_qI2 op x (y, G) = some (op x y, G) := Eq.trans rfl rfl
def q_qJ (op : Int64 → Int64 → Bool) (g : EJ) (L : Lo) (r : Int64 × Hp) : Option (Bool × Hp) := (g L r.2).bind fun q => some (op r.1 q.1, q.2)
def q_qJ2 (op : Int64 → Int64 → Bool) (x : Int64) (q : Int64 × Hp) : Option (Bool × Hp) := some (op x q.1, q.2)
theorem ev_qJ {op : Int64 → Int64 → Bool} {f g : EJ} {L : Lo} {G : Hp} : qJ op f g L G = (f L G).bind (q_qJ op g L) := Eq.trans rfl rfl
theorem ev_qJ1 {op : Int64 → Int64 → Bool} {g : EJ} {L : Lo} {G : Hp} {x : Int64} : q_qJ op g L (x, G) = (g L G).bind (q_qJ2 op x) := Eq.trans rfl rfl
theorem ev_qJ2 {op : Int64 → Int64 → Bool} {G : Hp} {x y : Int64} : q_qJ2 op x (y, G) = some (op x y, G) := Eq.trans rfl rfl
def q_qZ (op : Int32 → Bool) (r : Int32 × Hp) : Option (Bool × Hp) := some (op r.1, r.2)
theorem ev_qZ {op : Int32 → Bool} {f : EI} {L : Lo} {G : Hp} : qZ op f L G = (f L G).bind (q_qZ op) := Eq.trans rfl rfl
theorem ev_qZ1 {op : Int32 → Bool} {G : Hp} {x : Int32} : q_qZ op (x, G) = some (op x, G) := Eq.trans rfl rfl
def q_qAnd (g : EB) (L : Lo) (r : Bool × Hp) : Option (Bool × Hp) := bif r.1 then g L r.2 else some (false, r.2)
theorem ev_qAnd {f g : EB} {L : Lo} {G : Hp} : qAnd f g L G = (f L G).bind (q_qAnd g L) := Eq.trans rfl rfl
theorem ev_qAndt {g : EB} {L : Lo} {G : Hp} : q_qAnd g L (true, G) = g L G := Eq.trans rfl rfl
theorem ev_qAndf {g : EB} {L : Lo} {G : Hp} : q_qAnd g L (false, G) = some (false, G) := Eq.trans rfl rfl
def q_qOr (g : EB) (L : Lo) (r : Bool × Hp) : Option (Bool × Hp) := bif r.1 then some (true, r.2) else g L r.2
theorem ev_qOr {f g : EB} {L : Lo} {G : Hp} : qOr f g L G = (f L G).bind (q_qOr g L) := Eq.trans rfl rfl
theorem ev_qOrt {g : EB} {L : Lo} {G : Hp} : q_qOr g L (true, G) = some (true, G) := Eq.trans rfl rfl
theorem ev_qOrf {g : EB} {L : Lo} {G : Hp} : q_qOr g L (false, G) = g L G := Eq.trans rfl rfl
def q_qNot (r : Bool × Hp) : Option (Bool × Hp) := some (!r.1, r.2)
theorem ev_qNot {f : EB} {L : Lo} {G : Hp} : qNot f L G = (f L G).bind q_qNot := Eq.trans rfl rfl
theorem ev_qNot1 {b : Bool} {G : Hp} : q_qNot (b, G) = some (!b, G) := Eq.trans rfl rfl
def q_qIf (f g : EB) (L : Lo) (r : Bool × Hp) : Option (Bool × Hp) := bif r.1 then f L r.2 else g L r.2
theorem ev_qIf {c f g : EB} {L : Lo} {G : Hp} : qIf c f g L G = (c L G).bind (q_qIf f g L) := Eq.trans rfl rfl
theorem ev_qIft {f g : EB} {L : Lo} {G : Hp} : q_qIf f g L (true, G) = f L G := Eq.trans rfl rfl
theorem ev_qIff {f g : EB} {L : Lo} {G : Hp} : q_qIf f g L (false, G) = g L G := Eq.trans rfl rfl
theorem ev_aNil {L : Lo} {G : Hp} : aNil L G = some ([], G) := Eq.trans rfl rfl
def q_aC {α : Type} (val : α → Value) (g : EL) (L : Lo) (r : α × Hp) : Option (List Value × Hp) := (g L r.2).bind fun q => some (val r.1 :: q.1, q.2)
def q_aC2 (v : Value) (q : List Value × Hp) : Option (List Value × Hp) := some (v :: q.1, q.2)
theorem ev_aC {α : Type} {val : α → Value} {f : Lo → Hp → Option (α × Hp)} {g : EL} {L : Lo} {G : Hp} : aCons val f g L G = (f L G).bind (q_aC val g L) := Eq.trans rfl rfl
theorem ev_aC1 {α : Type} {val : α → Value} {g : EL} {L : Lo} {G : Hp} {x : α} : q_aC val g L (x, G) = (g L G).bind (q_aC2 (val x)) := Eq.trans rfl rfl
theorem ev_aC2 {v : Value} {vs : List Value} {G : Hp} : q_aC2 v (vs, G) = some (v :: vs, G) := Eq.trans rfl rfl
def q_un {α : Type} (un : Option Value → Option α) (t : Option Value × Hp) : Option (α × Hp) := (un t.1).bind fun x => some (x, t.2)
theorem ev_unI {x : Int32} {G : Hp} : q_un unI (some (.int x), G) = some (x, G) := Eq.trans rfl rfl
theorem ev_unJ {x : Int64} {G : Hp} : q_un unJ (some (.long x), G) = some (x, G) := Eq.trans rfl rfl
theorem ev_unA {x : Nat} {G : Hp} : q_un unA (some (.ref x), G) = some (x, G) := Eq.trans rfl rfl
theorem ev_unV {G : Hp} : q_un unV (none, G) = some ((), G) := Eq.trans rfl rfl
def q_mV {α : Type} (un : Option Value → Option α) (ci : Nat) (F : List Value → Hp → Option (Option Value × Hp)) (as : EL) (L : Lo) (a : Nat × Hp) : Option (α × Hp) := (as L a.2).bind fun v => bif isO v.2 a.1 ci then (F (.ref a.1 :: v.1) v.2).bind fun t => (un t.1).bind fun x => some (x, t.2) else none
def q_mV2 {α : Type} (un : Option Value → Option α) (ci : Nat) (F : List Value → Hp → Option (Option Value × Hp)) (a : Nat) (v : List Value × Hp) : Option (α × Hp) := bif isO v.2 a ci then (F (.ref a :: v.1) v.2).bind fun t => (un t.1).bind fun x => some (x, t.2) else none
def q_mV3 {α : Type} (un : Option Value → Option α) (F : List Value → Hp → Option (Option Value × Hp)) (vs : List Value) (G : Hp) (b : Bool) : Option (α × Hp) := bif b then (F vs G).bind (q_un un) else none
theorem ev_mV {α : Type} {un : Option Value → Option α} {ci : Nat} {F : List Value → Hp → Option (Option Value × Hp)} {r : EA} {as : EL} {L : Lo} {G : Hp} : mV un ci F r as L G = (r L G).bind (q_mV un ci F as L) := Eq.trans rfl rfl
theorem ev_mV1 {α : Type} {un : Option Value → Option α} {ci : Nat} {F : List Value → Hp → Option (Option Value × Hp)} {as : EL} {L : Lo} {G : Hp} {x : Nat} : q_mV un ci F as L (x, G) = (as L G).bind (q_mV2 un ci F x) := Eq.trans rfl rfl
theorem ev_mV2 {α : Type} {un : Option Value → Option α} {ci : Nat} {F : List Value → Hp → Option (Option Value × Hp)} {G : Hp} {x : Nat} {vs : List Value} : q_mV2 un ci F x (vs, G) = q_mV3 un F (.ref x :: vs) G (isO G x ci) := Eq.trans rfl rfl
theorem ev_mV3 {α : Type} {un : Option Value → Option α} {F : List Value → Hp → Option (Option Value × Hp)} {G : Hp} {vs : List Value} : q_mV3 un F vs G true = (F vs G).bind (q_un un) := Eq.trans rfl rfl
def q_mS {α : Type} (un : Option Value → Option α) (F : List Value → Hp → Option (Option Value × Hp)) (v : List Value × Hp) : Option (α × Hp) := (F v.1 v.2).bind (q_un un)
theorem ev_mS {α : Type} {un : Option Value → Option α} {F : List Value → Hp → Option (Option Value × Hp)} {as : EL} {L : Lo} {G : Hp} : mS un F as L G = (as L G).bind (q_mS un F) := Eq.trans rfl rfl
theorem ev_mS1 {α : Type} {un : Option Value → Option α} {F : List Value → Hp → Option (Option Value × Hp)} {G : Hp} {vs : List Value} : q_mS un F (vs, G) = (F vs G).bind (q_un un) := Eq.trans rfl rfl
theorem ev_skip {L : Lo} {G : Hp} : sSkip L G = some (.inl 0, L, G) := Eq.trans rfl rfl
def q_seq (g : Sm) (r : Cm × Lo × Hp) : Option (Cm × Lo × Hp) := match r.1 with
  | .inl 0 => g r.2.1 r.2.2
  | o => some (o, r.2.1, r.2.2)
theorem ev_seq {f g : Sm} {L : Lo} {G : Hp} : sSeq f g L G = (f L G).bind (q_seq g) := Eq.trans rfl rfl
theorem ev_seq0 {g : Sm} {L : Lo} {G : Hp} : q_seq g (.inl 0, L, G) = g L G := Eq.trans rfl rfl
theorem ev_seq1 {g : Sm} {L : Lo} {G : Hp} : q_seq g (.inl 1, L, G) = some (.inl 1, L, G) := Eq.trans rfl rfl
theorem ev_seq2 {g : Sm} {L : Lo} {G : Hp} : q_seq g (.inl 2, L, G) = some (.inl 2, L, G) := Eq.trans rfl rfl
theorem ev_seqr {g : Sm} {L : Lo} {G : Hp} {v : Option Value} : q_seq g (.inr v, L, G) = some (.inr v, L, G) := Eq.trans rfl rfl
def q_sI (i : Nat) (L : Lo) (r : Int32 × Hp) : Option (Cm × Lo × Hp) := some (.inl 0, st1 L i (.int r.1), r.2)
theorem ev_sI {i : Nat} {e : EI} {L : Lo} {G : Hp} : sI i e L G = (e L G).bind (q_sI i L) := Eq.trans rfl rfl
theorem ev_sI1 {i : Nat} {x : Int32} {L : Lo} {G : Hp} : q_sI i L (x, G) = some (.inl 0, st1 L i (.int x), G) := Eq.trans rfl rfl
def q_sA (i : Nat) (L : Lo) (r : Nat × Hp) : Option (Cm × Lo × Hp) := some (.inl 0, st1 L i (.ref r.1), r.2)
theorem ev_sA {i : Nat} {e : EA} {L : Lo} {G : Hp} : sA i e L G = (e L G).bind (q_sA i L) := Eq.trans rfl rfl
theorem ev_sA1 {i : Nat} {x : Nat} {L : Lo} {G : Hp} : q_sA i L (x, G) = some (.inl 0, st1 L i (.ref x), G) := Eq.trans rfl rfl
def q_sJ (i : Nat) (L : Lo) (r : Int64 × Hp) : Option (Cm × Lo × Hp) := some (.inl 0, st2 L i (.long r.1), r.2)
theorem ev_sJ {i : Nat} {e : EJ} {L : Lo} {G : Hp} : sJ i e L G = (e L G).bind (q_sJ i L) := Eq.trans rfl rfl
theorem ev_sJ1 {i : Nat} {x : Int64} {L : Lo} {G : Hp} : q_sJ i L (x, G) = some (.inl 0, st2 L i (.long x), G) := Eq.trans rfl rfl
def q_inc (i : Nat) (n : Int32) (L : Lo) (r : Int32 × Hp) : Option (Cm × Lo × Hp) := some (.inl 0, st1 L i (.int (r.1 + n)), r.2)
theorem ev_inc {i : Nat} {n : Int32} {L : Lo} {G : Hp} : sInc i n L G = (vI i L G).bind (q_inc i n L) := Eq.trans rfl rfl
theorem ev_inc1 {i : Nat} {n x : Int32} {L : Lo} {G : Hp} : q_inc i n L (x, G) = some (.inl 0, st1 L i (.int (x + n)), G) := Eq.trans rfl rfl
theorem ev_kln  : kl none = none := Eq.trans rfl rfl
theorem ev_kli {x : Int32} : kl (some (.int x)) = some (.int x) := Eq.trans rfl rfl
theorem ev_klr {x : Nat} : kl (some (.ref x)) = some (.ref x) := Eq.trans rfl rfl
theorem ev_klj {x : Int64} : kl (some (.long x)) = none := Eq.trans rfl rfl
def q_G (L : Lo) (G : Hp) : Option (Cm × Lo × Hp) := some (.inl 0, L, G)
theorem ev_G {L : Lo} {G : Hp} : q_G L G = some (.inl 0, L, G) := Eq.trans rfl rfl
def q_put (ci k : Nat) (g : EI) (L : Lo) (r : Nat × Hp) : Option (Cm × Lo × Hp) := (g L r.2).bind fun q => (putF q.2 r.1 ci k (.int q.1)).bind fun G => some (.inl 0, L, G)
def q_put2 (ci k a : Nat) (L : Lo) (q : Int32 × Hp) : Option (Cm × Lo × Hp) := (putF q.2 a ci k (.int q.1)).bind fun G => some (.inl 0, L, G)
theorem ev_put {ci k : Nat} {f : EA} {g : EI} {L : Lo} {G : Hp} : sPut ci k f g L G = (f L G).bind (q_put ci k g L) := Eq.trans rfl rfl
theorem ev_put1 {ci k x : Nat} {g : EI} {L : Lo} {G : Hp} : q_put ci k g L (x, G) = (g L G).bind (q_put2 ci k x L) := Eq.trans rfl rfl
theorem ev_put2 {ci k a : Nat} {x : Int32} {L : Lo} {G : Hp} : q_put2 ci k a L (x, G) = (putF G a ci k (.int x)).bind (q_G L) := Eq.trans rfl rfl
def q_putZ (ci k : Nat) (g : EI) (L : Lo) (r : Nat × Hp) : Option (Cm × Lo × Hp) := (g L r.2).bind fun q => if q.1 = 0 ∨ q.1 = 1 then (putF q.2 r.1 ci k (.int q.1)).bind fun G => some (.inl 0, L, G) else none
def q_putZ2 (ci k a : Nat) (L : Lo) (q : Int32 × Hp) : Option (Cm × Lo × Hp) := if q.1 = 0 ∨ q.1 = 1 then (putF q.2 a ci k (.int q.1)).bind fun G => some (.inl 0, L, G) else none
theorem ev_putZ {ci k : Nat} {f : EA} {g : EI} {L : Lo} {G : Hp} : sPutZ ci k f g L G = (f L G).bind (q_putZ ci k g L) := Eq.trans rfl rfl
theorem ev_putZ1 {ci k x : Nat} {g : EI} {L : Lo} {G : Hp} : q_putZ ci k g L (x, G) = (g L G).bind (q_putZ2 ci k x L) := Eq.trans rfl rfl
theorem ev_putZ2 {ci k a : Nat} {x : Int32} {L : Lo} {G : Hp} : q_putZ2 ci k a L (x, G) = if x = 0 ∨ x = 1 then (putF G a ci k (.int x)).bind (q_G L) else none := Eq.trans rfl rfl
def q_ast (g e : EI) (L : Lo) (r : Nat × Hp) : Option (Cm × Lo × Hp) := (g L r.2).bind fun q => (e L q.2).bind fun t => (setA t.2 false r.1 q.1 t.1).bind fun G => some (.inl 0, L, G)
def q_ast2 (e : EI) (a : Nat) (L : Lo) (q : Int32 × Hp) : Option (Cm × Lo × Hp) := (e L q.2).bind fun t => (setA t.2 false a q.1 t.1).bind fun G => some (.inl 0, L, G)
def q_ast3 (a : Nat) (i : Int32) (L : Lo) (t : Int32 × Hp) : Option (Cm × Lo × Hp) := (setA t.2 false a i t.1).bind fun G => some (.inl 0, L, G)
theorem ev_ast {f : EA} {g e : EI} {L : Lo} {G : Hp} : sAst f g e L G = (f L G).bind (q_ast g e L) := Eq.trans rfl rfl
theorem ev_ast1 {g e : EI} {L : Lo} {G : Hp} {x : Nat} : q_ast g e L (x, G) = (g L G).bind (q_ast2 e x L) := Eq.trans rfl rfl
theorem ev_ast2 {e : EI} {L : Lo} {G : Hp} {x : Nat} {i : Int32} : q_ast2 e x L (i, G) = (e L G).bind (q_ast3 x i L) := Eq.trans rfl rfl
theorem ev_ast3 {L : Lo} {G : Hp} {x : Nat} {i y : Int32} : q_ast3 x i L (y, G) = (setA G false x i y).bind (q_G L) := Eq.trans rfl rfl
def q_astZ (g e : EI) (L : Lo) (r : Nat × Hp) : Option (Cm × Lo × Hp) := (g L r.2).bind fun q => (e L q.2).bind fun t => if t.1 = 0 ∨ t.1 = 1 then (setA t.2 true r.1 q.1 t.1).bind fun G => some (.inl 0, L, G) else none
def q_astZ2 (e : EI) (a : Nat) (L : Lo) (q : Int32 × Hp) : Option (Cm × Lo × Hp) := (e L q.2).bind fun t => if t.1 = 0 ∨ t.1 = 1 then (setA t.2 true a q.1 t.1).bind fun G => some (.inl 0, L, G) else none
def q_astZ3 (a : Nat) (i : Int32) (L : Lo) (t : Int32 × Hp) : Option (Cm × Lo × Hp) := if t.1 = 0 ∨ t.1 = 1 then (setA t.2 true a i t.1).bind fun G => some (.inl 0, L, G) else none
theorem ev_astZ {f : EA} {g e : EI} {L : Lo} {G : Hp} : sAstZ f g e L G = (f L G).bind (q_astZ g e L) := Eq.trans rfl rfl
theorem ev_astZ1 {g e : EI} {L : Lo} {G : Hp} {x : Nat} : q_astZ g e L (x, G) = (g L G).bind (q_astZ2 e x L) := Eq.trans rfl rfl
theorem ev_astZ2 {e : EI} {L : Lo} {G : Hp} {x : Nat} {i : Int32} : q_astZ2 e x L (i, G) = (e L G).bind (q_astZ3 x i L) := Eq.trans rfl rfl
theorem ev_astZ3 {L : Lo} {G : Hp} {x : Nat} {i y : Int32} : q_astZ3 x i L (y, G) = if y = 0 ∨ y = 1 then (setA G true x i y).bind (q_G L) else none := Eq.trans rfl rfl
def q_fop (op : Int32 → Int32 → Int32) (ci k : Nat) (e : EI) (L : Lo) (r : Nat × Hp) : Option (Cm × Lo × Hp) := match getF r.2 r.1 ci k with
  | some (.int x) => (e L r.2).bind fun q => (putF q.2 r.1 ci k (.int (op x q.1))).bind fun G => some (.inl 0, L, G)
  | _ => none
def q_fop2 (op : Int32 → Int32 → Int32) (ci k : Nat) (e : EI) (L : Lo) (a : Nat) (G : Hp) (v : Option Value) : Option (Cm × Lo × Hp) := match v with
  | some (.int x) => (e L G).bind fun q => (putF q.2 a ci k (.int (op x q.1))).bind fun G => some (.inl 0, L, G)
  | _ => none
def q_fop3 (op : Int32 → Int32 → Int32) (ci k : Nat) (L : Lo) (a : Nat) (x : Int32) (q : Int32 × Hp) : Option (Cm × Lo × Hp) := (putF q.2 a ci k (.int (op x q.1))).bind fun G => some (.inl 0, L, G)
theorem ev_fop {op : Int32 → Int32 → Int32} {ci k : Nat} {f : EA} {e : EI} {L : Lo} {G : Hp} : sFop op ci k f e L G = (f L G).bind (q_fop op ci k e L) := Eq.trans rfl rfl
theorem ev_fop1 {op : Int32 → Int32 → Int32} {ci k x : Nat} {e : EI} {L : Lo} {G : Hp} : q_fop op ci k e L (x, G) = q_fop2 op ci k e L x G (getF G x ci k) := Eq.trans rfl rfl
theorem ev_fop2 {op : Int32 → Int32 → Int32} {ci k a : Nat} {e : EI} {L : Lo} {G : Hp} {x : Int32} : q_fop2 op ci k e L a G (some (.int x)) = (e L G).bind (q_fop3 op ci k L a x) := Eq.trans rfl rfl
theorem ev_fop3 {op : Int32 → Int32 → Int32} {ci k a : Nat} {L : Lo} {G : Hp} {x y : Int32} : q_fop3 op ci k L a x (y, G) = (putF G a ci k (.int (op x y))).bind (q_G L) := Eq.trans rfl rfl
def q_aop (op : Int32 → Int32 → Int32) (g e : EI) (L : Lo) (r : Nat × Hp) : Option (Cm × Lo × Hp) := (g L r.2).bind fun q => (getA q.2 false r.1 q.1).bind fun x => (e L q.2).bind fun t => (setA t.2 false r.1 q.1 (op x t.1)).bind fun G => some (.inl 0, L, G)
def q_aop2 (op : Int32 → Int32 → Int32) (e : EI) (a : Nat) (L : Lo) (q : Int32 × Hp) : Option (Cm × Lo × Hp) := (getA q.2 false a q.1).bind fun x => (e L q.2).bind fun t => (setA t.2 false a q.1 (op x t.1)).bind fun G => some (.inl 0, L, G)
def q_aop3 (op : Int32 → Int32 → Int32) (e : EI) (a : Nat) (i : Int32) (L : Lo) (G : Hp) (x : Int32) : Option (Cm × Lo × Hp) := (e L G).bind fun t => (setA t.2 false a i (op x t.1)).bind fun G => some (.inl 0, L, G)
def q_aop4 (op : Int32 → Int32 → Int32) (a : Nat) (i : Int32) (L : Lo) (x : Int32) (t : Int32 × Hp) : Option (Cm × Lo × Hp) := (setA t.2 false a i (op x t.1)).bind fun G => some (.inl 0, L, G)
theorem ev_aop {op : Int32 → Int32 → Int32} {f : EA} {g e : EI} {L : Lo} {G : Hp} : sAop op f g e L G = (f L G).bind (q_aop op g e L) := Eq.trans rfl rfl
theorem ev_aop1 {op : Int32 → Int32 → Int32} {g e : EI} {L : Lo} {G : Hp} {x : Nat} : q_aop op g e L (x, G) = (g L G).bind (q_aop2 op e x L) := Eq.trans rfl rfl
theorem ev_aop2 {op : Int32 → Int32 → Int32} {e : EI} {L : Lo} {G : Hp} {x : Nat} {i : Int32} : q_aop2 op e x L (i, G) = (getA G false x i).bind (q_aop3 op e x i L G) := Eq.trans rfl rfl
theorem ev_aop3 {op : Int32 → Int32 → Int32} {e : EI} {L : Lo} {G : Hp} {a : Nat} {i x : Int32} : q_aop3 op e a i L G x = (e L G).bind (q_aop4 op a i L x) := Eq.trans rfl rfl
theorem ev_aop4 {op : Int32 → Int32 → Int32} {L : Lo} {G : Hp} {a : Nat} {i x y : Int32} : q_aop4 op a i L x (y, G) = (setA G false a i (op x y)).bind (q_G L) := Eq.trans rfl rfl
def q_sV (L : Lo) (r : Unit × Hp) : Option (Cm × Lo × Hp) := some (.inl 0, L, r.2)
theorem ev_sV {e : Lo → Hp → Option (Unit × Hp)} {L : Lo} {G : Hp} : sV e L G = (e L G).bind (q_sV L) := Eq.trans rfl rfl
theorem ev_sV1 {L : Lo} {G : Hp} {x : Unit} : q_sV L (x, G) = some (.inl 0, L, G) := Eq.trans rfl rfl
def q_pop (L : Lo) (r : Int32 × Hp) : Option (Cm × Lo × Hp) := some (.inl 0, L, r.2)
theorem ev_pop {e : EI} {L : Lo} {G : Hp} : sPop e L G = (e L G).bind (q_pop L) := Eq.trans rfl rfl
theorem ev_pop1 {L : Lo} {G : Hp} {x : Int32} : q_pop L (x, G) = some (.inl 0, L, G) := Eq.trans rfl rfl
def q_rI (L : Lo) (r : Int32 × Hp) : Option (Cm × Lo × Hp) := some (.inr (some (.int r.1)), L, r.2)
theorem ev_rI {e : EI} {L : Lo} {G : Hp} : rI e L G = (e L G).bind (q_rI L) := Eq.trans rfl rfl
theorem ev_rI1 {x : Int32} {L : Lo} {G : Hp} : q_rI L (x, G) = some (.inr (some (.int x)), L, G) := Eq.trans rfl rfl
def q_rJ (L : Lo) (r : Int64 × Hp) : Option (Cm × Lo × Hp) := some (.inr (some (.long r.1)), L, r.2)
theorem ev_rJ {e : EJ} {L : Lo} {G : Hp} : rJ e L G = (e L G).bind (q_rJ L) := Eq.trans rfl rfl
theorem ev_rJ1 {x : Int64} {L : Lo} {G : Hp} : q_rJ L (x, G) = some (.inr (some (.long x)), L, G) := Eq.trans rfl rfl
def q_rA (L : Lo) (r : Nat × Hp) : Option (Cm × Lo × Hp) := some (.inr (some (.ref r.1)), L, r.2)
theorem ev_rA {e : EA} {L : Lo} {G : Hp} : rA e L G = (e L G).bind (q_rA L) := Eq.trans rfl rfl
theorem ev_rA1 {x : Nat} {L : Lo} {G : Hp} : q_rA L (x, G) = some (.inr (some (.ref x)), L, G) := Eq.trans rfl rfl
theorem ev_rV {L : Lo} {G : Hp} : rV L G = some (.inr none, L, G) := Eq.trans rfl rfl
theorem ev_brk {L : Lo} {G : Hp} : sBrk L G = some (.inl 1, L, G) := Eq.trans rfl rfl
theorem ev_cont {L : Lo} {G : Hp} : sCont L G = some (.inl 2, L, G) := Eq.trans rfl rfl
def q_sIf (f g : Sm) (L : Lo) (r : Bool × Hp) : Option (Cm × Lo × Hp) := bif r.1 then f L r.2 else g L r.2
theorem ev_sIf {c : EB} {f g : Sm} {L : Lo} {G : Hp} : sIf c f g L G = (c L G).bind (q_sIf f g L) := Eq.trans rfl rfl
theorem ev_sIft {f g : Sm} {L : Lo} {G : Hp} : q_sIf f g L (true, G) = f L G := Eq.trans rfl rfl
theorem ev_sIff {f g : Sm} {L : Lo} {G : Hp} : q_sIf f g L (false, G) = g L G := Eq.trans rfl rfl
def q_sw (r : Cm × Lo × Hp) : Option (Cm × Lo × Hp) := match r.1 with
  | .inl 1 => some (.inl 0, r.2.1, r.2.2)
  | o => some (o, r.2.1, r.2.2)
def q_sw1 (cs : List (List Int32 × Sm)) (dflt : Sm) (L : Lo) (r : Int32 × Hp) : Option (Cm × Lo × Hp) := (swPick cs dflt r.1 L r.2).bind q_sw
theorem ev_sw {e : EI} {cs : List (List Int32 × Sm)} {dflt : Sm} {L : Lo} {G : Hp} : sSw e cs dflt L G = (e L G).bind (q_sw1 cs dflt L) := Eq.trans rfl rfl
theorem ev_sw1 {cs : List (List Int32 × Sm)} {dflt : Sm} {L : Lo} {G : Hp} {x : Int32} : q_sw1 cs dflt L (x, G) = (swPick cs dflt x L G).bind q_sw := Eq.trans rfl rfl
theorem ev_sw0 {L : Lo} {G : Hp} : q_sw (.inl 0, L, G) = some (.inl 0, L, G) := Eq.trans rfl rfl
theorem ev_sw1b {L : Lo} {G : Hp} : q_sw (.inl 1, L, G) = some (.inl 0, L, G) := Eq.trans rfl rfl
theorem ev_sw2 {L : Lo} {G : Hp} : q_sw (.inl 2, L, G) = some (.inl 2, L, G) := Eq.trans rfl rfl
theorem ev_swr {L : Lo} {G : Hp} {v : Option Value} : q_sw (.inr v, L, G) = some (.inr v, L, G) := Eq.trans rfl rfl
def q_wh (c : EB) (b u : Sm) (n : Nat) (L : Lo) (r : Bool × Hp) : Option (Cm × Lo × Hp) := bif r.1 then (b L r.2).bind fun q => (match q.1 with
      | .inl 1 => some (.inl 0, q.2.1, q.2.2)
      | .inr v => some (.inr v, q.2.1, q.2.2)
      | _ => (u q.2.1 q.2.2).bind fun t => match t.1 with
        | .inl 0 => sWh c b u n t.2.1 t.2.2
        | _ => none) else some (.inl 0, L, r.2)
def q_wh2 (c : EB) (b u : Sm) (n : Nat) (q : Cm × Lo × Hp) : Option (Cm × Lo × Hp) := match q.1 with
      | .inl 1 => some (.inl 0, q.2.1, q.2.2)
      | .inr v => some (.inr v, q.2.1, q.2.2)
      | _ => (u q.2.1 q.2.2).bind fun t => match t.1 with
        | .inl 0 => sWh c b u n t.2.1 t.2.2
        | _ => none
def q_wh3 (c : EB) (b u : Sm) (n : Nat) (t : Cm × Lo × Hp) : Option (Cm × Lo × Hp) := match t.1 with
        | .inl 0 => sWh c b u n t.2.1 t.2.2
        | _ => none
theorem ev_wh {c : EB} {b u : Sm} {n : Nat} {L : Lo} {G : Hp} : sWh c b u (n + 1) L G = (c L G).bind (q_wh c b u n L) := Eq.trans rfl rfl
theorem ev_whf {c : EB} {b u : Sm} {n : Nat} {L : Lo} {G : Hp} : q_wh c b u n L (false, G) = some (.inl 0, L, G) := Eq.trans rfl rfl
theorem ev_wht {c : EB} {b u : Sm} {n : Nat} {L : Lo} {G : Hp} : q_wh c b u n L (true, G) = (b L G).bind (q_wh2 c b u n) := Eq.trans rfl rfl
theorem ev_wh0 {c : EB} {b u : Sm} {n : Nat} {L : Lo} {G : Hp} : q_wh2 c b u n (.inl 0, L, G) = (u L G).bind (q_wh3 c b u n) := Eq.trans rfl rfl
theorem ev_wh1 {c : EB} {b u : Sm} {n : Nat} {L : Lo} {G : Hp} : q_wh2 c b u n (.inl 1, L, G) = some (.inl 0, L, G) := Eq.trans rfl rfl
theorem ev_wh2 {c : EB} {b u : Sm} {n : Nat} {L : Lo} {G : Hp} : q_wh2 c b u n (.inl 2, L, G) = (u L G).bind (q_wh3 c b u n) := Eq.trans rfl rfl
theorem ev_whr {c : EB} {b u : Sm} {n : Nat} {L : Lo} {G : Hp} {v : Option Value} : q_wh2 c b u n (.inr v, L, G) = some (.inr v, L, G) := Eq.trans rfl rfl
theorem ev_wh3 {c : EB} {b u : Sm} {n : Nat} {L : Lo} {G : Hp} : q_wh3 c b u n (.inl 0, L, G) = sWh c b u n L G := Eq.trans rfl rfl
theorem ev_mr {ret : Option FieldType} {b : Sm} {L : Lo} {G : Hp} : mrunL ret b L G = (b L G).bind (q_mr ret) := Eq.trans rfl rfl
theorem ev_mrI {L : Lo} {G : Hp} {x : Int32} : q_mr (some .int) (.inr (some (.int x)), L, G) = some (some (.int x), G) := Eq.trans rfl rfl
theorem ev_mrJ {L : Lo} {G : Hp} {x : Int64} : q_mr (some .long) (.inr (some (.long x)), L, G) = some (some (.long x), G) := Eq.trans rfl rfl
theorem ev_mrV {L : Lo} {G : Hp} : q_mr none (.inr none, L, G) = some (none, G) := Eq.trans rfl rfl
theorem ev_mrA {L : Lo} {G : Hp} {x : Nat} {C : String} : q_mr (some (.object C)) (.inr (some (.ref x)), L, G) = some (some (.ref x), G) := Eq.trans rfl rfl
theorem ev_mrZ1 {L : Lo} {G : Hp} : q_mr (some .boolean) (.inr (some (.int 1)), L, G) = some (some (.int 1), G) := Eq.trans rfl rfl
theorem ev_mrZ0 {L : Lo} {G : Hp} : q_mr (some .boolean) (.inr (some (.int 0)), L, G) = some (some (.int 0), G) := Eq.trans rfl rfl
theorem ev_mrZ {L : Lo} {G : Hp} {x : Int32} (h : x = 0 ∨ x = 1) : q_mr (some .boolean) (.inr (some (.int x)), L, G) = some (some (.int x), G) := by
  rcases h with rfl | rfl <;> rfl
theorem ev_bs {α β : Type} {x : α} {k : α → Option β} : (some x).bind k = k x := Eq.trans rfl rfl
