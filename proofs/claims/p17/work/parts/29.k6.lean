theorem num_m8 : ((-8) : Int32).toInt = -8 := by decide
