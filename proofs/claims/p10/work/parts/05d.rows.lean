theorem iv_rows_169 : iv_chm 169 6 = true := by decide +kernel
theorem iv_rows_175 : iv_chm 175 9 = true := by decide +kernel
theorem iv_rows_184 : iv_chm 184 5 = true := by decide +kernel
theorem iv_rows_189 : iv_chm 189 4 = true := by decide +kernel
