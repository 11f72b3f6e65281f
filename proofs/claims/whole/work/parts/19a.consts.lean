theorem kb_m99 : (Int8.ofInt (-99)).toInt32 = (-99 : Int32) := by decide +kernel
theorem kb_9 : (Int8.ofInt 9).toInt32 = nI 9 := by decide +kernel
theorem kb_10 : (Int8.ofInt 10).toInt32 = nI 10 := by decide +kernel
theorem kb_11 : (Int8.ofInt 11).toInt32 = nI 11 := by decide +kernel
theorem kb_13 : (Int8.ofInt 13).toInt32 = nI 13 := by decide +kernel
theorem kb_19 : (Int8.ofInt 19).toInt32 = nI 19 := by decide +kernel
theorem kb_20 : (Int8.ofInt 20).toInt32 = nI 20 := by decide +kernel
theorem kb_99 : (Int8.ofInt 99).toInt32 = nI 99 := by decide +kernel
theorem ki_m1 : Int32.ofInt (-1) = (-1 : Int32) := by decide +kernel
theorem ki_0 : Int32.ofInt 0 = nI 0 := by decide +kernel
theorem ki_1 : Int32.ofInt 1 = nI 1 := by decide +kernel
theorem ki_2 : Int32.ofInt 2 = nI 2 := by decide +kernel
theorem ki_3 : Int32.ofInt 3 = nI 3 := by decide +kernel
theorem ki_4 : Int32.ofInt 4 = nI 4 := by decide +kernel
theorem ki_5 : Int32.ofInt 5 = nI 5 := by decide +kernel
theorem ks_200 : (Int16.ofInt 200).toInt32 = nI 200 := by decide +kernel
theorem ks_255 : (Int16.ofInt 255).toInt32 = nI 255 := by decide +kernel
