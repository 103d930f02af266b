theorem zz_1 : lw_tbl.all goodWord = true := by decide +kernel
