theorem zz_good : (lw_tbl.filter (fun w => !goodWord w)).length ≤ 400 := by decide +kernel
