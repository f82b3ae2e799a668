theorem iv_rows_170 : iv_chm 170 6 = true := by decide +kernel
theorem iv_rows_176 : iv_chm 176 9 = true := by decide +kernel
theorem iv_rows_185 : iv_chm 185 5 = true := by decide +kernel
theorem iv_rows_190 : iv_chm 190 4 = true := by decide +kernel
