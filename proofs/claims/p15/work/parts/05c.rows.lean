theorem iv_rows_145 : iv_chm 145 8 = true := by decide +kernel
theorem iv_rows_153 : iv_chm 153 10 = true := by decide +kernel
theorem iv_rows_163 : iv_chm 163 4 = true := by decide +kernel
theorem iv_rows_167 : iv_chm 167 3 = true := by decide +kernel
