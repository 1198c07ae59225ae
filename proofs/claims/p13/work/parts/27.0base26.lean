theorem zI_360 : (360 : Int32).toInt = 360 := by decide
theorem zI_359 : (359 : Int32).toInt = 359 := by decide
theorem zI_358 : (358 : Int32).toInt = 358 := by decide
theorem zI_357 : (357 : Int32).toInt = 357 := by decide
theorem zI_356 : (356 : Int32).toInt = 356 := by decide
theorem zI_355 : (355 : Int32).toInt = 355 := by decide
