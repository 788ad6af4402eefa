theorem dL_washes_15 : decode cL_washes 15 = .ok (.iconst 0, 1) := by decide +kernel
theorem dL_washes_16 : decode cL_washes 16 = .ok (.ireturn, 1) := by decide +kernel
theorem dL_drowns_0 : decode cL_drowns 0 = .ok (.aload_n 2, 1) := by decide +kernel
theorem dL_drowns_1 : decode cL_drowns 1 = .ok (.iconst 0, 1) := by decide +kernel
theorem dL_drowns_2 : decode cL_drowns 2 = .ok (.aload_n 0, 1) := by decide +kernel
theorem dL_drowns_3 : decode cL_drowns 3 = .ok (.iload_n 1, 1) := by decide +kernel
theorem dL_drowns_4 : decode cL_drowns 4 = .ok (.invokevirtual 67, 3) := by decide +kernel
theorem dL_drowns_7 : decode cL_drowns 7 = .ok (.i2l, 1) := by decide +kernel
theorem dL_drowns_8 : decode cL_drowns 8 = .ok (.lastore, 1) := by decide +kernel
theorem dL_drowns_9 : decode cL_drowns 9 = .ok (.goto 6, 3) := by decide +kernel
theorem dL_drowns_12 : decode cL_drowns 12 = .ok (.astore_n 3, 1) := by decide +kernel
theorem dL_drowns_13 : decode cL_drowns 13 = .ok (.iconst 1, 1) := by decide +kernel
theorem dL_drowns_14 : decode cL_drowns 14 = .ok (.ireturn, 1) := by decide +kernel
theorem dL_drowns_15 : decode cL_drowns 15 = .ok (.iconst 0, 1) := by decide +kernel
theorem dL_drowns_16 : decode cL_drowns 16 = .ok (.ireturn, 1) := by decide +kernel
theorem dL_place_0 : decode cL_place 0 = .ok (.aload_n 3, 1) := by decide +kernel
theorem dL_place_1 : decode cL_place 1 = .ok (.iconst 0, 1) := by decide +kernel
theorem dL_place_2 : decode cL_place 2 = .ok (.aload_n 0, 1) := by decide +kernel
theorem dL_place_3 : decode cL_place 3 = .ok (.iload_n 1, 1) := by decide +kernel
theorem dL_place_4 : decode cL_place 4 = .ok (.iload_n 2, 1) := by decide +kernel
theorem dL_place_5 : decode cL_place 5 = .ok (.invokevirtual 70, 3) := by decide +kernel
theorem dL_place_8 : decode cL_place 8 = .ok (.i2l, 1) := by decide +kernel
theorem dL_place_9 : decode cL_place 9 = .ok (.lastore, 1) := by decide +kernel
theorem dL_place_10 : decode cL_place 10 = .ok (.goto 11, 3) := by decide +kernel
theorem dL_place_13 : decode cL_place 13 = .ok (.astore 4, 2) := by decide +kernel
theorem dL_place_15 : decode cL_place 15 = .ok (.iconst 1, 1) := by decide +kernel
theorem dL_place_16 : decode cL_place 16 = .ok (.ireturn, 1) := by decide +kernel
theorem dL_place_17 : decode cL_place 17 = .ok (.astore 4, 2) := by decide +kernel
theorem dL_place_19 : decode cL_place 19 = .ok (.iconst 2, 1) := by decide +kernel
theorem dL_place_20 : decode cL_place 20 = .ok (.ireturn, 1) := by decide +kernel
theorem dL_place_21 : decode cL_place 21 = .ok (.iconst 0, 1) := by decide +kernel
theorem dL_place_22 : decode cL_place 22 = .ok (.ireturn, 1) := by decide +kernel
theorem dL_lift_0 : decode cL_lift 0 = .ok (.aload_n 2, 1) := by decide +kernel
theorem dL_lift_1 : decode cL_lift 1 = .ok (.iconst 0, 1) := by decide +kernel
theorem dL_lift_2 : decode cL_lift 2 = .ok (.aload_n 0, 1) := by decide +kernel
theorem dL_lift_3 : decode cL_lift 3 = .ok (.iload_n 1, 1) := by decide +kernel
theorem dL_lift_4 : decode cL_lift 4 = .ok (.invokevirtual 73, 3) := by decide +kernel
theorem dL_lift_7 : decode cL_lift 7 = .ok (.i2l, 1) := by decide +kernel
theorem dL_lift_8 : decode cL_lift 8 = .ok (.lastore, 1) := by decide +kernel
theorem dL_lift_9 : decode cL_lift 9 = .ok (.goto 6, 3) := by decide +kernel
theorem dL_lift_12 : decode cL_lift 12 = .ok (.astore_n 3, 1) := by decide +kernel
theorem dL_lift_13 : decode cL_lift 13 = .ok (.iconst 1, 1) := by decide +kernel
theorem dL_lift_14 : decode cL_lift 14 = .ok (.ireturn, 1) := by decide +kernel
theorem dL_lift_15 : decode cL_lift 15 = .ok (.iconst 0, 1) := by decide +kernel
theorem dL_lift_16 : decode cL_lift 16 = .ok (.ireturn, 1) := by decide +kernel
theorem dL_setRed_0 : decode cL_setRed 0 = .ok (.aload_n 3, 1) := by decide +kernel
theorem dL_setRed_1 : decode cL_setRed 1 = .ok (.iconst 0, 1) := by decide +kernel
theorem dL_setRed_2 : decode cL_setRed 2 = .ok (.aload_n 0, 1) := by decide +kernel
theorem dL_setRed_3 : decode cL_setRed 3 = .ok (.iload_n 1, 1) := by decide +kernel
theorem dL_setRed_4 : decode cL_setRed 4 = .ok (.iload_n 2, 1) := by decide +kernel
theorem dL_setRed_5 : decode cL_setRed 5 = .ok (.invokevirtual 76, 3) := by decide +kernel
theorem dL_setRed_8 : decode cL_setRed 8 = .ok (.ifCond .eq 7, 3) := by decide +kernel
theorem dL_setRed_11 : decode cL_setRed 11 = .ok (.lconst 1, 1) := by decide +kernel
theorem dL_setRed_12 : decode cL_setRed 12 = .ok (.goto 4, 3) := by decide +kernel
theorem dL_setRed_15 : decode cL_setRed 15 = .ok (.lconst 0, 1) := by decide +kernel
theorem dL_setRed_16 : decode cL_setRed 16 = .ok (.lastore, 1) := by decide +kernel
theorem dL_setRed_17 : decode cL_setRed 17 = .ok (.goto 7, 3) := by decide +kernel
theorem dL_setRed_20 : decode cL_setRed 20 = .ok (.astore 4, 2) := by decide +kernel
theorem dL_setRed_22 : decode cL_setRed 22 = .ok (.iconst 1, 1) := by decide +kernel
theorem dL_setRed_23 : decode cL_setRed 23 = .ok (.ireturn, 1) := by decide +kernel
theorem dL_setRed_24 : decode cL_setRed 24 = .ok (.iconst 0, 1) := by decide +kernel
theorem dL_setRed_25 : decode cL_setRed 25 = .ok (.ireturn, 1) := by decide +kernel
theorem dL_addRiver_0 : decode cL_addRiver 0 = .ok (.aload_n 2, 1) := by decide +kernel
theorem dL_addRiver_1 : decode cL_addRiver 1 = .ok (.iconst 0, 1) := by decide +kernel
theorem dL_addRiver_2 : decode cL_addRiver 2 = .ok (.aload_n 0, 1) := by decide +kernel
theorem dL_addRiver_3 : decode cL_addRiver 3 = .ok (.iload_n 1, 1) := by decide +kernel
theorem dL_addRiver_4 : decode cL_addRiver 4 = .ok (.invokevirtual 80, 3) := by decide +kernel
theorem dL_addRiver_7 : decode cL_addRiver 7 = .ok (.i2l, 1) := by decide +kernel
theorem dL_addRiver_8 : decode cL_addRiver 8 = .ok (.lastore, 1) := by decide +kernel
theorem dL_addRiver_9 : decode cL_addRiver 9 = .ok (.goto 6, 3) := by decide +kernel
theorem dL_addRiver_12 : decode cL_addRiver 12 = .ok (.astore_n 3, 1) := by decide +kernel
theorem dL_addRiver_13 : decode cL_addRiver 13 = .ok (.iconst 1, 1) := by decide +kernel
theorem dL_addRiver_14 : decode cL_addRiver 14 = .ok (.ireturn, 1) := by decide +kernel
theorem dL_addRiver_15 : decode cL_addRiver 15 = .ok (.iconst 0, 1) := by decide +kernel
theorem dL_addRiver_16 : decode cL_addRiver 16 = .ok (.ireturn, 1) := by decide +kernel
theorem dL_dropRiver_0 : decode cL_dropRiver 0 = .ok (.aload_n 2, 1) := by decide +kernel
theorem dL_dropRiver_1 : decode cL_dropRiver 1 = .ok (.iconst 0, 1) := by decide +kernel
theorem dL_dropRiver_2 : decode cL_dropRiver 2 = .ok (.aload_n 0, 1) := by decide +kernel
theorem dL_dropRiver_3 : decode cL_dropRiver 3 = .ok (.iload_n 1, 1) := by decide +kernel
theorem dL_dropRiver_4 : decode cL_dropRiver 4 = .ok (.invokevirtual 83, 3) := by decide +kernel
theorem dL_dropRiver_7 : decode cL_dropRiver 7 = .ok (.i2l, 1) := by decide +kernel
theorem dL_dropRiver_8 : decode cL_dropRiver 8 = .ok (.lastore, 1) := by decide +kernel
theorem dL_dropRiver_9 : decode cL_dropRiver 9 = .ok (.goto 6, 3) := by decide +kernel
theorem dL_dropRiver_12 : decode cL_dropRiver 12 = .ok (.astore_n 3, 1) := by decide +kernel
theorem dL_dropRiver_13 : decode cL_dropRiver 13 = .ok (.iconst 1, 1) := by decide +kernel
theorem dL_dropRiver_14 : decode cL_dropRiver 14 = .ok (.ireturn, 1) := by decide +kernel
theorem dL_dropRiver_15 : decode cL_dropRiver 15 = .ok (.iconst 0, 1) := by decide +kernel
theorem dL_dropRiver_16 : decode cL_dropRiver 16 = .ok (.ireturn, 1) := by decide +kernel
theorem dL_erode_0 : decode cL_erode 0 = .ok (.aload_n 2, 1) := by decide +kernel
theorem dL_erode_1 : decode cL_erode 1 = .ok (.iconst 0, 1) := by decide +kernel
theorem dL_erode_2 : decode cL_erode 2 = .ok (.aload_n 0, 1) := by decide +kernel
theorem dL_erode_3 : decode cL_erode 3 = .ok (.iload_n 1, 1) := by decide +kernel
theorem dL_erode_4 : decode cL_erode 4 = .ok (.invokevirtual 86, 3) := by decide +kernel
theorem dL_erode_7 : decode cL_erode 7 = .ok (.i2l, 1) := by decide +kernel
theorem dL_erode_8 : decode cL_erode 8 = .ok (.lastore, 1) := by decide +kernel
theorem dL_erode_9 : decode cL_erode 9 = .ok (.goto 6, 3) := by decide +kernel
theorem dL_erode_12 : decode cL_erode 12 = .ok (.astore_n 3, 1) := by decide +kernel
theorem dL_erode_13 : decode cL_erode 13 = .ok (.iconst 1, 1) := by decide +kernel
theorem dL_erode_14 : decode cL_erode 14 = .ok (.ireturn, 1) := by decide +kernel
theorem dL_erode_15 : decode cL_erode 15 = .ok (.iconst 0, 1) := by decide +kernel
theorem dL_erode_16 : decode cL_erode 16 = .ok (.ireturn, 1) := by decide +kernel
theorem dL_raise_0 : decode cL_raise 0 = .ok (.aload_n 2, 1) := by decide +kernel
theorem dL_raise_1 : decode cL_raise 1 = .ok (.iconst 0, 1) := by decide +kernel
theorem dL_raise_2 : decode cL_raise 2 = .ok (.aload_n 0, 1) := by decide +kernel
theorem dL_raise_3 : decode cL_raise 3 = .ok (.iload_n 1, 1) := by decide +kernel
theorem dL_raise_4 : decode cL_raise 4 = .ok (.invokevirtual 89, 3) := by decide +kernel
theorem dL_raise_7 : decode cL_raise 7 = .ok (.i2l, 1) := by decide +kernel
theorem dL_raise_8 : decode cL_raise 8 = .ok (.lastore, 1) := by decide +kernel
theorem dL_raise_9 : decode cL_raise 9 = .ok (.goto 6, 3) := by decide +kernel
theorem dL_raise_12 : decode cL_raise 12 = .ok (.astore_n 3, 1) := by decide +kernel
theorem dL_raise_13 : decode cL_raise 13 = .ok (.iconst 1, 1) := by decide +kernel
theorem dL_raise_14 : decode cL_raise 14 = .ok (.ireturn, 1) := by decide +kernel
theorem dL_raise_15 : decode cL_raise 15 = .ok (.iconst 0, 1) := by decide +kernel
theorem dL_raise_16 : decode cL_raise 16 = .ok (.ireturn, 1) := by decide +kernel
theorem dL_sail_0 : decode cL_sail 0 = .ok (.aload_n 2, 1) := by decide +kernel
theorem dL_sail_1 : decode cL_sail 1 = .ok (.iconst 0, 1) := by decide +kernel
theorem dL_sail_2 : decode cL_sail 2 = .ok (.aload_n 0, 1) := by decide +kernel
theorem dL_sail_3 : decode cL_sail 3 = .ok (.iload_n 1, 1) := by decide +kernel
theorem dL_sail_4 : decode cL_sail 4 = .ok (.invokevirtual 92, 3) := by decide +kernel
theorem dL_sail_7 : decode cL_sail 7 = .ok (.i2l, 1) := by decide +kernel
