theorem iv_rows_1 : iv_chm 1 12 = true := by decide +kernel
theorem iv_rows_13 : iv_chm 13 20 = true := by decide +kernel
theorem iv_rows_33 : iv_chm 33 17 = true := by decide +kernel
theorem iv_rows_50 : iv_chm 50 27 = true := by decide +kernel
