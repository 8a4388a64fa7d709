theorem sgb_0 : (0 : Int32) = sgb 0 := by decide +kernel
