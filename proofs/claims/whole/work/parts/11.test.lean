set_option maxRecDepth 100000 in
theorem zt_0 : (tables_1.filter (fun w => !goodWord w)).length = 0 := by decide +kernel
set_option maxRecDepth 100000 in
theorem zt_1 : lw_tbl.all goodWord = true := by decide +kernel
