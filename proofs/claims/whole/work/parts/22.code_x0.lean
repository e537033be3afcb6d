/-! Code. -/
theorem dx_init_0 : xw_dec prog_3_method_1_code 0 (.aload_n 0) 1 1 := by decide +kernel
theorem dx_init_1 : xw_dec prog_3_method_1_code 1 (.invokespecial 1) 3 4 := by decide +kernel
theorem dx_init_4 : xw_dec prog_3_method_1_code 4 (.return_) 1 5 := by decide +kernel
theorem dx_refuse_0 : xw_dec prog_3_method_2_code 0 (.iload_n 1) 1 1 := by decide +kernel
theorem dx_refuse_1 : xw_dec prog_3_method_2_code 1 (.ifCond .eq 21) 3 4 := by decide +kernel
theorem dx_refuse_4 : xw_dec prog_3_method_2_code 4 (.aload_n 0) 1 5 := by decide +kernel
theorem dx_refuse_5 : xw_dec prog_3_method_2_code 5 (.iload_n 2) 1 6 := by decide +kernel
theorem dx_refuse_6 : xw_dec prog_3_method_2_code 6 (.putfield 7) 3 9 := by decide +kernel
theorem dx_refuse_9 : xw_dec prog_3_method_2_code 9 (.aload_n 0) 1 10 := by decide +kernel
theorem dx_refuse_10 : xw_dec prog_3_method_2_code 10 (.iload_n 3) 1 11 := by decide +kernel
theorem dx_refuse_11 : xw_dec prog_3_method_2_code 11 (.putfield 13) 3 14 := by decide +kernel
theorem dx_refuse_14 : xw_dec prog_3_method_2_code 14 (.new 16) 3 17 := by decide +kernel
theorem dx_refuse_17 : xw_dec prog_3_method_2_code 17 (.dup) 1 18 := by decide +kernel
theorem dx_refuse_18 : xw_dec prog_3_method_2_code 18 (.invokespecial 18) 3 21 := by decide +kernel
theorem dx_refuse_21 : xw_dec prog_3_method_2_code 21 (.athrow) 1 22 := by decide +kernel
theorem dx_refuse_22 : xw_dec prog_3_method_2_code 22 (.return_) 1 23 := by decide +kernel
