theorem num_6 : (6 : Int32).toInt = 6 := by decide
theorem num_600 : (600 : Int32).toInt = 600 := by decide
theorem num_3600 : (3600 : Int32).toInt = 3600 := by decide
