theorem iv_rows_144 : iv_chm 144 8 = true := by decide +kernel
theorem iv_rows_152 : iv_chm 152 10 = true := by decide +kernel
theorem iv_rows_162 : iv_chm 162 4 = true := by decide +kernel
theorem iv_rows_166 : iv_chm 166 3 = true := by decide +kernel
