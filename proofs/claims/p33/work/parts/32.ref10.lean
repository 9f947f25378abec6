def capS (s : SG) (i b : Nat) : Int64 := lessL (seamS s i) (strS s b)
abbrev enA (s : SG) (i : Nat) : Nat := nat (s.1 10 i)
abbrev enB (s : SG) (i : Nat) : Nat := nat (s.1 11 i)
def esM (s : SG) : Nat → ET
  | 0 => []
  | i + 1 => esM s i ++ (if s.1 13 i = 0 then [(enA s i, enB s i, capS s i (enB s i)), (enB s i, enA s i, capS s i (enA s i))] else [])
