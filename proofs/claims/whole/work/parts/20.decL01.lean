theorem dL_room_21 : decode cL_room 21 = .ok (.iconst 0, 1) := by decide +kernel
theorem dL_room_22 : decode cL_room 22 = .ok (.ireturn, 1) := by decide +kernel
theorem dL_crossed_0 : decode cL_crossed 0 = .ok (.aload_n 2, 1) := by decide +kernel
theorem dL_crossed_1 : decode cL_crossed 1 = .ok (.iconst 0, 1) := by decide +kernel
theorem dL_crossed_2 : decode cL_crossed 2 = .ok (.aload_n 0, 1) := by decide +kernel
theorem dL_crossed_3 : decode cL_crossed 3 = .ok (.iload_n 1, 1) := by decide +kernel
theorem dL_crossed_4 : decode cL_crossed 4 = .ok (.invokevirtual 39, 3) := by decide +kernel
theorem dL_crossed_7 : decode cL_crossed 7 = .ok (.i2l, 1) := by decide +kernel
theorem dL_crossed_8 : decode cL_crossed 8 = .ok (.lastore, 1) := by decide +kernel
theorem dL_crossed_9 : decode cL_crossed 9 = .ok (.goto 6, 3) := by decide +kernel
theorem dL_crossed_12 : decode cL_crossed 12 = .ok (.astore_n 3, 1) := by decide +kernel
theorem dL_crossed_13 : decode cL_crossed 13 = .ok (.iconst 1, 1) := by decide +kernel
theorem dL_crossed_14 : decode cL_crossed 14 = .ok (.ireturn, 1) := by decide +kernel
theorem dL_crossed_15 : decode cL_crossed 15 = .ok (.iconst 0, 1) := by decide +kernel
theorem dL_crossed_16 : decode cL_crossed 16 = .ok (.ireturn, 1) := by decide +kernel
theorem dL_upright_0 : decode cL_upright 0 = .ok (.aload_n 2, 1) := by decide +kernel
theorem dL_upright_1 : decode cL_upright 1 = .ok (.iconst 0, 1) := by decide +kernel
theorem dL_upright_2 : decode cL_upright 2 = .ok (.aload_n 0, 1) := by decide +kernel
theorem dL_upright_3 : decode cL_upright 3 = .ok (.iload_n 1, 1) := by decide +kernel
theorem dL_upright_4 : decode cL_upright 4 = .ok (.invokevirtual 42, 3) := by decide +kernel
theorem dL_upright_7 : decode cL_upright 7 = .ok (.i2l, 1) := by decide +kernel
theorem dL_upright_8 : decode cL_upright 8 = .ok (.lastore, 1) := by decide +kernel
theorem dL_upright_9 : decode cL_upright 9 = .ok (.goto 6, 3) := by decide +kernel
theorem dL_upright_12 : decode cL_upright 12 = .ok (.astore_n 3, 1) := by decide +kernel
theorem dL_upright_13 : decode cL_upright 13 = .ok (.iconst 1, 1) := by decide +kernel
theorem dL_upright_14 : decode cL_upright 14 = .ok (.ireturn, 1) := by decide +kernel
theorem dL_upright_15 : decode cL_upright 15 = .ok (.iconst 0, 1) := by decide +kernel
theorem dL_upright_16 : decode cL_upright 16 = .ok (.ireturn, 1) := by decide +kernel
theorem dL_turningFrom_0 : decode cL_turningFrom 0 = .ok (.aload_n 2, 1) := by decide +kernel
theorem dL_turningFrom_1 : decode cL_turningFrom 1 = .ok (.iconst 0, 1) := by decide +kernel
theorem dL_turningFrom_2 : decode cL_turningFrom 2 = .ok (.aload_n 0, 1) := by decide +kernel
theorem dL_turningFrom_3 : decode cL_turningFrom 3 = .ok (.iload_n 1, 1) := by decide +kernel
theorem dL_turningFrom_4 : decode cL_turningFrom 4 = .ok (.invokevirtual 45, 3) := by decide +kernel
theorem dL_turningFrom_7 : decode cL_turningFrom 7 = .ok (.i2l, 1) := by decide +kernel
theorem dL_turningFrom_8 : decode cL_turningFrom 8 = .ok (.lastore, 1) := by decide +kernel
theorem dL_turningFrom_9 : decode cL_turningFrom 9 = .ok (.goto 6, 3) := by decide +kernel
theorem dL_turningFrom_12 : decode cL_turningFrom 12 = .ok (.astore_n 3, 1) := by decide +kernel
theorem dL_turningFrom_13 : decode cL_turningFrom 13 = .ok (.iconst 1, 1) := by decide +kernel
theorem dL_turningFrom_14 : decode cL_turningFrom 14 = .ok (.ireturn, 1) := by decide +kernel
theorem dL_turningFrom_15 : decode cL_turningFrom 15 = .ok (.iconst 0, 1) := by decide +kernel
theorem dL_turningFrom_16 : decode cL_turningFrom 16 = .ok (.ireturn, 1) := by decide +kernel
theorem dL_arranged_0 : decode cL_arranged 0 = .ok (.aload_n 2, 1) := by decide +kernel
theorem dL_arranged_1 : decode cL_arranged 1 = .ok (.iconst 0, 1) := by decide +kernel
theorem dL_arranged_2 : decode cL_arranged 2 = .ok (.aload_n 0, 1) := by decide +kernel
theorem dL_arranged_3 : decode cL_arranged 3 = .ok (.iload_n 1, 1) := by decide +kernel
theorem dL_arranged_4 : decode cL_arranged 4 = .ok (.invokevirtual 48, 3) := by decide +kernel
theorem dL_arranged_7 : decode cL_arranged 7 = .ok (.i2l, 1) := by decide +kernel
theorem dL_arranged_8 : decode cL_arranged 8 = .ok (.lastore, 1) := by decide +kernel
theorem dL_arranged_9 : decode cL_arranged 9 = .ok (.goto 6, 3) := by decide +kernel
theorem dL_arranged_12 : decode cL_arranged 12 = .ok (.astore_n 3, 1) := by decide +kernel
theorem dL_arranged_13 : decode cL_arranged 13 = .ok (.iconst 1, 1) := by decide +kernel
theorem dL_arranged_14 : decode cL_arranged 14 = .ok (.ireturn, 1) := by decide +kernel
theorem dL_arranged_15 : decode cL_arranged 15 = .ok (.iconst 0, 1) := by decide +kernel
theorem dL_arranged_16 : decode cL_arranged 16 = .ok (.ireturn, 1) := by decide +kernel
theorem dL_leastIf_0 : decode cL_leastIf 0 = .ok (.aload_n 3, 1) := by decide +kernel
theorem dL_leastIf_1 : decode cL_leastIf 1 = .ok (.iconst 0, 1) := by decide +kernel
theorem dL_leastIf_2 : decode cL_leastIf 2 = .ok (.aload_n 0, 1) := by decide +kernel
theorem dL_leastIf_3 : decode cL_leastIf 3 = .ok (.iload_n 1, 1) := by decide +kernel
theorem dL_leastIf_4 : decode cL_leastIf 4 = .ok (.iload_n 2, 1) := by decide +kernel
theorem dL_leastIf_5 : decode cL_leastIf 5 = .ok (.invokevirtual 51, 3) := by decide +kernel
theorem dL_leastIf_8 : decode cL_leastIf 8 = .ok (.i2l, 1) := by decide +kernel
theorem dL_leastIf_9 : decode cL_leastIf 9 = .ok (.lastore, 1) := by decide +kernel
theorem dL_leastIf_10 : decode cL_leastIf 10 = .ok (.goto 7, 3) := by decide +kernel
theorem dL_leastIf_13 : decode cL_leastIf 13 = .ok (.astore 4, 2) := by decide +kernel
theorem dL_leastIf_15 : decode cL_leastIf 15 = .ok (.iconst 1, 1) := by decide +kernel
theorem dL_leastIf_16 : decode cL_leastIf 16 = .ok (.ireturn, 1) := by decide +kernel
theorem dL_leastIf_17 : decode cL_leastIf 17 = .ok (.iconst 0, 1) := by decide +kernel
theorem dL_leastIf_18 : decode cL_leastIf 18 = .ok (.ireturn, 1) := by decide +kernel
theorem dL_placedIf_0 : decode cL_placedIf 0 = .ok (.aload_n 3, 1) := by decide +kernel
theorem dL_placedIf_1 : decode cL_placedIf 1 = .ok (.iconst 0, 1) := by decide +kernel
theorem dL_placedIf_2 : decode cL_placedIf 2 = .ok (.aload_n 0, 1) := by decide +kernel
theorem dL_placedIf_3 : decode cL_placedIf 3 = .ok (.iload_n 1, 1) := by decide +kernel
theorem dL_placedIf_4 : decode cL_placedIf 4 = .ok (.iload_n 2, 1) := by decide +kernel
theorem dL_placedIf_5 : decode cL_placedIf 5 = .ok (.invokevirtual 55, 3) := by decide +kernel
theorem dL_placedIf_8 : decode cL_placedIf 8 = .ok (.i2l, 1) := by decide +kernel
theorem dL_placedIf_9 : decode cL_placedIf 9 = .ok (.lastore, 1) := by decide +kernel
theorem dL_placedIf_10 : decode cL_placedIf 10 = .ok (.goto 7, 3) := by decide +kernel
theorem dL_placedIf_13 : decode cL_placedIf 13 = .ok (.astore 4, 2) := by decide +kernel
theorem dL_placedIf_15 : decode cL_placedIf 15 = .ok (.iconst 1, 1) := by decide +kernel
theorem dL_placedIf_16 : decode cL_placedIf 16 = .ok (.ireturn, 1) := by decide +kernel
theorem dL_placedIf_17 : decode cL_placedIf 17 = .ok (.iconst 0, 1) := by decide +kernel
theorem dL_placedIf_18 : decode cL_placedIf 18 = .ok (.ireturn, 1) := by decide +kernel
theorem dL_wayLength_0 : decode cL_wayLength 0 = .ok (.aload_n 2, 1) := by decide +kernel
theorem dL_wayLength_1 : decode cL_wayLength 1 = .ok (.iconst 0, 1) := by decide +kernel
theorem dL_wayLength_2 : decode cL_wayLength 2 = .ok (.aload_n 0, 1) := by decide +kernel
theorem dL_wayLength_3 : decode cL_wayLength 3 = .ok (.iload_n 1, 1) := by decide +kernel
theorem dL_wayLength_4 : decode cL_wayLength 4 = .ok (.invokevirtual 58, 3) := by decide +kernel
theorem dL_wayLength_7 : decode cL_wayLength 7 = .ok (.i2l, 1) := by decide +kernel
theorem dL_wayLength_8 : decode cL_wayLength 8 = .ok (.lastore, 1) := by decide +kernel
theorem dL_wayLength_9 : decode cL_wayLength 9 = .ok (.goto 6, 3) := by decide +kernel
theorem dL_wayLength_12 : decode cL_wayLength 12 = .ok (.astore_n 3, 1) := by decide +kernel
theorem dL_wayLength_13 : decode cL_wayLength 13 = .ok (.iconst 1, 1) := by decide +kernel
theorem dL_wayLength_14 : decode cL_wayLength 14 = .ok (.ireturn, 1) := by decide +kernel
theorem dL_wayLength_15 : decode cL_wayLength 15 = .ok (.iconst 0, 1) := by decide +kernel
theorem dL_wayLength_16 : decode cL_wayLength 16 = .ok (.ireturn, 1) := by decide +kernel
theorem dL_wayCell_0 : decode cL_wayCell 0 = .ok (.aload_n 3, 1) := by decide +kernel
theorem dL_wayCell_1 : decode cL_wayCell 1 = .ok (.iconst 0, 1) := by decide +kernel
theorem dL_wayCell_2 : decode cL_wayCell 2 = .ok (.aload_n 0, 1) := by decide +kernel
theorem dL_wayCell_3 : decode cL_wayCell 3 = .ok (.iload_n 1, 1) := by decide +kernel
theorem dL_wayCell_4 : decode cL_wayCell 4 = .ok (.iload_n 2, 1) := by decide +kernel
theorem dL_wayCell_5 : decode cL_wayCell 5 = .ok (.invokevirtual 61, 3) := by decide +kernel
theorem dL_wayCell_8 : decode cL_wayCell 8 = .ok (.i2l, 1) := by decide +kernel
theorem dL_wayCell_9 : decode cL_wayCell 9 = .ok (.lastore, 1) := by decide +kernel
theorem dL_wayCell_10 : decode cL_wayCell 10 = .ok (.goto 7, 3) := by decide +kernel
theorem dL_wayCell_13 : decode cL_wayCell 13 = .ok (.astore 4, 2) := by decide +kernel
theorem dL_wayCell_15 : decode cL_wayCell 15 = .ok (.iconst 1, 1) := by decide +kernel
theorem dL_wayCell_16 : decode cL_wayCell 16 = .ok (.ireturn, 1) := by decide +kernel
theorem dL_wayCell_17 : decode cL_wayCell 17 = .ok (.iconst 0, 1) := by decide +kernel
theorem dL_wayCell_18 : decode cL_wayCell 18 = .ok (.ireturn, 1) := by decide +kernel
theorem dL_washes_0 : decode cL_washes 0 = .ok (.aload_n 2, 1) := by decide +kernel
theorem dL_washes_1 : decode cL_washes 1 = .ok (.iconst 0, 1) := by decide +kernel
theorem dL_washes_2 : decode cL_washes 2 = .ok (.aload_n 0, 1) := by decide +kernel
theorem dL_washes_3 : decode cL_washes 3 = .ok (.iload_n 1, 1) := by decide +kernel
theorem dL_washes_4 : decode cL_washes 4 = .ok (.invokevirtual 64, 3) := by decide +kernel
theorem dL_washes_7 : decode cL_washes 7 = .ok (.i2l, 1) := by decide +kernel
theorem dL_washes_8 : decode cL_washes 8 = .ok (.lastore, 1) := by decide +kernel
theorem dL_washes_9 : decode cL_washes 9 = .ok (.goto 6, 3) := by decide +kernel
theorem dL_washes_12 : decode cL_washes 12 = .ok (.astore_n 3, 1) := by decide +kernel
theorem dL_washes_13 : decode cL_washes 13 = .ok (.iconst 1, 1) := by decide +kernel
theorem dL_washes_14 : decode cL_washes 14 = .ok (.ireturn, 1) := by decide +kernel
