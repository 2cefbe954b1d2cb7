theorem probe_0 : (1:Nat) + 1 = 2 := rfl
