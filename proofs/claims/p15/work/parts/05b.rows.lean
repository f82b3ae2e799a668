theorem iv_rows_77 : iv_chm 77 25 = true := by decide +kernel
theorem iv_rows_102 : iv_chm 102 12 = true := by decide +kernel
theorem iv_rows_114 : iv_chm 114 18 = true := by decide +kernel
theorem iv_rows_132 : iv_chm 132 13 = true := by decide +kernel
