theorem bp_m128 : (Int8.ofInt (-128)).toInt32 = (-128) := by decide +kernel
theorem bp_6 : (Int8.ofInt 6).toInt32 = nI 6 := by decide +kernel
theorem bp_7 : (Int8.ofInt 7).toInt32 = nI 7 := by decide +kernel
theorem bp_8 : (Int8.ofInt 8).toInt32 = nI 8 := by decide +kernel
theorem bp_10 : (Int8.ofInt 10).toInt32 = nI 10 := by decide +kernel
theorem bp_11 : (Int8.ofInt 11).toInt32 = nI 11 := by decide +kernel
theorem bp_12 : (Int8.ofInt 12).toInt32 = nI 12 := by decide +kernel
theorem bp_14 : (Int8.ofInt 14).toInt32 = nI 14 := by decide +kernel
theorem bp_15 : (Int8.ofInt 15).toInt32 = nI 15 := by decide +kernel
theorem bp_16 : (Int8.ofInt 16).toInt32 = nI 16 := by decide +kernel
theorem bp_40 : (Int8.ofInt 40).toInt32 = nI 40 := by decide +kernel
theorem bp_48 : (Int8.ofInt 48).toInt32 = nI 48 := by decide +kernel
theorem bp_72 : (Int8.ofInt 72).toInt32 = nI 72 := by decide +kernel
theorem bp_127 : (Int8.ofInt 127).toInt32 = nI 127 := by decide +kernel
theorem ic_m1 : Int32.ofInt (-1) = (-1) := by decide +kernel
theorem ic_0 : Int32.ofInt 0 = nI 0 := by decide +kernel
theorem ic_1 : Int32.ofInt 1 = nI 1 := by decide +kernel
theorem ic_2 : Int32.ofInt 2 = nI 2 := by decide +kernel
theorem ic_3 : Int32.ofInt 3 = nI 3 := by decide +kernel
theorem ic_4 : Int32.ofInt 4 = nI 4 := by decide +kernel
theorem ic_5 : Int32.ofInt 5 = nI 5 := by decide +kernel
theorem sp_m1000 : (Int16.ofInt (-1000)).toInt32 = (-1000) := by decide +kernel
theorem sp_128 : (Int16.ofInt 128).toInt32 = nI 128 := by decide +kernel
theorem sp_235 : (Int16.ofInt 235).toInt32 = nI 235 := by decide +kernel
theorem sp_255 : (Int16.ofInt 255).toInt32 = nI 255 := by decide +kernel
theorem sp_256 : (Int16.ofInt 256).toInt32 = nI 256 := by decide +kernel
theorem sp_257 : (Int16.ofInt 257).toInt32 = nI 257 := by decide +kernel
