theorem Rt_name {R : Room} {D : DT} {K : KT} {ret : Option FieldType} {nm : String} {sz : Nat} {G0 : GT} {post : Option Value → GT → Prop} (h : Rt R D K ret nm sz G0 post) : K.2.2.2.2.2.2.2.1.name = nm := by
  obtain ⟨p, l, e, s, m, args, below, meth, c, A, Q⟩ := K
  exact h.2.2.2.1
/-- the net at first: what is fixed -/
abbrev edgeI (i : Nat) : Prop := nI i / 6 = 0 ∨ nI i / 6 = 5 ∨ nI i - nI i / 6 * 6 = 0 ∨ nI i - nI i / 6 * 6 = 5
def fixF (i : Nat) : SG := (fun k j => if k = 17 ∧ j < i ∧ edgeI j then 1 else 0, fun _ _ => 0)
abbrev s0R : SG := fixF 36
