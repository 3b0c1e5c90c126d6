theorem lw_stub : (1 : Nat) = 1 := rfl
