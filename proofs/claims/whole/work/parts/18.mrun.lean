def q_mr (ret : Option FieldType) (r : Cm × Lo × Hp) : Option (Option Value × Hp) := match r.1 with
  | .inr v => bif retOk ret v then some (v, r.2.2) else none
  | _ => none
def mrunL (ret : Option FieldType) (b : Sm) (L : Lo) (G : Hp) : Option (Option Value × Hp) := (b L G).bind (q_mr ret)
