theorem dX5_refuseOaths_8 : decode cX5_refuseOaths 8 = .ok (.ifCond .eq 5, 3) := by decide +kernel
theorem dX5_refuseOaths_11 : decode cX5_refuseOaths 11 = .ok (.iload_n 2, 1) := by decide +kernel
theorem dX5_refuseOaths_12 : decode cX5_refuseOaths 12 = .ok (.ireturn, 1) := by decide +kernel
theorem dX5_refuseWorn_0 : decode cX5_refuseWorn 0 = .ok (.aload_n 0, 1) := by decide +kernel
theorem dX5_refuseWorn_1 : decode cX5_refuseWorn 1 = .ok (.iload_n 1, 1) := by decide +kernel
theorem dX5_refuseWorn_2 : decode cX5_refuseWorn 2 = .ok (.iconst 3, 1) := by decide +kernel
theorem dX5_refuseWorn_3 : decode cX5_refuseWorn 3 = .ok (.invokevirtual 355, 3) := by decide +kernel
theorem dX5_refuseWorn_6 : decode cX5_refuseWorn 6 = .ok (.istore_n 2, 1) := by decide +kernel
theorem dX5_refuseWorn_7 : decode cX5_refuseWorn 7 = .ok (.iload_n 2, 1) := by decide +kernel
theorem dX5_refuseWorn_8 : decode cX5_refuseWorn 8 = .ok (.ifCond .eq 5, 3) := by decide +kernel
theorem dX5_refuseWorn_11 : decode cX5_refuseWorn 11 = .ok (.iload_n 2, 1) := by decide +kernel
theorem dX5_refuseWorn_12 : decode cX5_refuseWorn 12 = .ok (.ireturn, 1) := by decide +kernel
