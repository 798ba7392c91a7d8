theorem dX0_exists_0 : decode cX0_exists 0 = .ok (.aload_n 0, 1) := by decide +kernel
theorem dX0_exists_1 : decode cX0_exists 1 = .ok (.getfield 42, 3) := by decide +kernel
theorem dX0_exists_4 : decode cX0_exists 4 = .ok (.ifCond .le 7, 3) := by decide +kernel
theorem dX0_exists_11 : decode cX0_exists 11 = .ok (.iconst 0, 1) := by decide +kernel
theorem dX0_exists_12 : decode cX0_exists 12 = .ok (.ireturn, 1) := by decide +kernel
theorem dX0_isPerson_0 : decode cX0_isPerson 0 = .ok (.lload_n 1, 1) := by decide +kernel
theorem dX0_isPerson_1 : decode cX0_isPerson 1 = .ok (.lconst 0, 1) := by decide +kernel
theorem dX0_isPerson_2 : decode cX0_isPerson 2 = .ok (.lcmp, 1) := by decide +kernel
theorem dX0_isPerson_3 : decode cX0_isPerson 3 = .ok (.ifCond .lt 17, 3) := by decide +kernel
theorem dX0_isPerson_6 : decode cX0_isPerson 6 = .ok (.lload_n 1, 1) := by decide +kernel
theorem dX0_isPerson_7 : decode cX0_isPerson 7 = .ok (.aload_n 0, 1) := by decide +kernel
theorem dX0_isPerson_8 : decode cX0_isPerson 8 = .ok (.getfield 46, 3) := by decide +kernel
theorem dX0_isPerson_11 : decode cX0_isPerson 11 = .ok (.i2l, 1) := by decide +kernel
theorem dX0_isPerson_12 : decode cX0_isPerson 12 = .ok (.lcmp, 1) := by decide +kernel
theorem dX0_isPerson_13 : decode cX0_isPerson 13 = .ok (.ifCond .ge 7, 3) := by decide +kernel
theorem dX0_isPerson_16 : decode cX0_isPerson 16 = .ok (.iconst 1, 1) := by decide +kernel
theorem dX0_isPerson_17 : decode cX0_isPerson 17 = .ok (.goto 4, 3) := by decide +kernel
theorem dX0_isPerson_20 : decode cX0_isPerson 20 = .ok (.iconst 0, 1) := by decide +kernel
theorem dX0_isPerson_21 : decode cX0_isPerson 21 = .ok (.ireturn, 1) := by decide +kernel
theorem dX0_isPair_0 : decode cX0_isPair 0 = .ok (.aload_n 0, 1) := by decide +kernel
theorem dX0_isPair_1 : decode cX0_isPair 1 = .ok (.lload_n 1, 1) := by decide +kernel
theorem dX0_isPair_2 : decode cX0_isPair 2 = .ok (.invokevirtual 72, 3) := by decide +kernel
theorem dX0_isPair_5 : decode cX0_isPair 5 = .ok (.ifCond .eq 21, 3) := by decide +kernel
theorem dX0_isPair_26 : decode cX0_isPair 26 = .ok (.iconst 0, 1) := by decide +kernel
theorem dX0_isPair_27 : decode cX0_isPair 27 = .ok (.ireturn, 1) := by decide +kernel
theorem dX0_isHour_0 : decode cX0_isHour 0 = .ok (.lload_n 1, 1) := by decide +kernel
theorem dX0_isHour_1 : decode cX0_isHour 1 = .ok (.lconst 0, 1) := by decide +kernel
theorem dX0_isHour_2 : decode cX0_isHour 2 = .ok (.lcmp, 1) := by decide +kernel
theorem dX0_isHour_3 : decode cX0_isHour 3 = .ok (.ifCond .lt 17, 3) := by decide +kernel
theorem dX0_isHour_6 : decode cX0_isHour 6 = .ok (.lload_n 1, 1) := by decide +kernel
theorem dX0_isHour_7 : decode cX0_isHour 7 = .ok (.aload_n 0, 1) := by decide +kernel
theorem dX0_isHour_8 : decode cX0_isHour 8 = .ok (.invokevirtual 76, 3) := by decide +kernel
theorem dX0_isHour_11 : decode cX0_isHour 11 = .ok (.i2l, 1) := by decide +kernel
theorem dX0_isHour_12 : decode cX0_isHour 12 = .ok (.lcmp, 1) := by decide +kernel
theorem dX0_isHour_13 : decode cX0_isHour 13 = .ok (.ifCond .ge 7, 3) := by decide +kernel
theorem dX0_isHour_16 : decode cX0_isHour 16 = .ok (.iconst 1, 1) := by decide +kernel
theorem dX0_isHour_17 : decode cX0_isHour 17 = .ok (.goto 4, 3) := by decide +kernel
theorem dX0_isHour_20 : decode cX0_isHour 20 = .ok (.iconst 0, 1) := by decide +kernel
theorem dX0_isHour_21 : decode cX0_isHour 21 = .ok (.ireturn, 1) := by decide +kernel
theorem dX0_isPlace_0 : decode cX0_isPlace 0 = .ok (.lload_n 1, 1) := by decide +kernel
theorem dX0_isPlace_1 : decode cX0_isPlace 1 = .ok (.lconst 0, 1) := by decide +kernel
theorem dX0_isPlace_2 : decode cX0_isPlace 2 = .ok (.lcmp, 1) := by decide +kernel
theorem dX0_isPlace_3 : decode cX0_isPlace 3 = .ok (.ifCond .lt 17, 3) := by decide +kernel
theorem dX0_isPlace_6 : decode cX0_isPlace 6 = .ok (.lload_n 1, 1) := by decide +kernel
theorem dX0_isPlace_7 : decode cX0_isPlace 7 = .ok (.aload_n 0, 1) := by decide +kernel
theorem dX0_isPlace_8 : decode cX0_isPlace 8 = .ok (.invokevirtual 80, 3) := by decide +kernel
theorem dX0_isPlace_11 : decode cX0_isPlace 11 = .ok (.i2l, 1) := by decide +kernel
theorem dX0_isPlace_12 : decode cX0_isPlace 12 = .ok (.lcmp, 1) := by decide +kernel
theorem dX0_isPlace_13 : decode cX0_isPlace 13 = .ok (.ifCond .ge 7, 3) := by decide +kernel
theorem dX0_isPlace_16 : decode cX0_isPlace 16 = .ok (.iconst 1, 1) := by decide +kernel
theorem dX0_isPlace_17 : decode cX0_isPlace 17 = .ok (.goto 4, 3) := by decide +kernel
theorem dX0_isPlace_20 : decode cX0_isPlace 20 = .ok (.iconst 0, 1) := by decide +kernel
theorem dX0_isPlace_21 : decode cX0_isPlace 21 = .ok (.ireturn, 1) := by decide +kernel
theorem dX0_places_0 : decode cX0_places 0 = .ok (.aload_n 0, 1) := by decide +kernel
theorem dX0_places_1 : decode cX0_places 1 = .ok (.getfield 9, 3) := by decide +kernel
theorem dX0_places_4 : decode cX0_places 4 = .ok (.iconst 0, 1) := by decide +kernel
theorem dX0_places_5 : decode cX0_places 5 = .ok (.iaload, 1) := by decide +kernel
theorem dX0_places_6 : decode cX0_places 6 = .ok (.ireturn, 1) := by decide +kernel
theorem dX0_hours_0 : decode cX0_hours 0 = .ok (.aload_n 0, 1) := by decide +kernel
theorem dX0_hours_1 : decode cX0_hours 1 = .ok (.getfield 9, 3) := by decide +kernel
theorem dX0_hours_4 : decode cX0_hours 4 = .ok (.iconst 1, 1) := by decide +kernel
theorem dX0_hours_5 : decode cX0_hours 5 = .ok (.iaload, 1) := by decide +kernel
theorem dX0_hours_6 : decode cX0_hours 6 = .ok (.ireturn, 1) := by decide +kernel
theorem dX5_at_0 : decode cX5_at 0 = .ok (.aload_n 0, 1) := by decide +kernel
theorem dX5_at_1 : decode cX5_at 1 = .ok (.getfield 48, 3) := by decide +kernel
theorem dX5_at_4 : decode cX5_at 4 = .ok (.iload_n 1, 1) := by decide +kernel
theorem dX5_at_5 : decode cX5_at 5 = .ok (.i2l, 1) := by decide +kernel
theorem dX5_at_6 : decode cX5_at 6 = .ok (.invokevirtual 83, 3) := by decide +kernel
theorem dX5_at_9 : decode cX5_at 9 = .ok (.ifCond .eq 15, 3) := by decide +kernel
theorem dX5_at_24 : decode cX5_at 24 = .ok (.bipush (-2), 2) := by decide +kernel
theorem dX5_at_26 : decode cX5_at 26 = .ok (.ireturn, 1) := by decide +kernel
theorem dX5_all_0 : decode cX5_all 0 = .ok (.aload_n 0, 1) := by decide +kernel
theorem dX5_all_1 : decode cX5_all 1 = .ok (.getfield 48, 3) := by decide +kernel
theorem dX5_all_4 : decode cX5_all 4 = .ok (.invokevirtual 115, 3) := by decide +kernel
theorem dX5_all_7 : decode cX5_all 7 = .ok (.ifCond .eq 20, 3) := by decide +kernel
theorem dX5_all_27 : decode cX5_all 27 = .ok (.bipush (-2), 2) := by decide +kernel
theorem dX5_all_29 : decode cX5_all 29 = .ok (.ireturn, 1) := by decide +kernel
