theorem tail_ok : (1 : Nat) = 1 := rfl
