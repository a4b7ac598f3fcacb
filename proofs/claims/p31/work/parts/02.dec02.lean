theorem dX9_see_1 : decode cX9_see 1 = .ok (.iconst 1, 1) := by decide +kernel
theorem dX9_see_2 : decode cX9_see 2 = .ok (.if_icmp .lt 21, 3) := by decide +kernel
theorem dX9_see_5 : decode cX9_see 5 = .ok (.iload_n 1, 1) := by decide +kernel
theorem dX9_see_6 : decode cX9_see 6 = .ok (.sipush 150, 3) := by decide +kernel
theorem dX9_see_9 : decode cX9_see 9 = .ok (.if_icmp .gt 14, 3) := by decide +kernel
theorem dX9_see_12 : decode cX9_see 12 = .ok (.iload_n 2, 1) := by decide +kernel
theorem dX9_see_13 : decode cX9_see 13 = .ok (.ifCond .lt 10, 3) := by decide +kernel
theorem dX9_see_16 : decode cX9_see 16 = .ok (.iload_n 2, 1) := by decide +kernel
theorem dX9_see_17 : decode cX9_see 17 = .ok (.ldc_w 259, 3) := by decide +kernel
theorem dX9_see_20 : decode cX9_see 20 = .ok (.if_icmp .le 6, 3) := by decide +kernel
theorem dX9_see_23 : decode cX9_see 23 = .ok (.ldc 65, 2) := by decide +kernel
theorem dX9_see_25 : decode cX9_see 25 = .ok (.ireturn, 1) := by decide +kernel
theorem dX9_see_26 : decode cX9_see 26 = .ok (.aload_n 0, 1) := by decide +kernel
theorem dX9_see_27 : decode cX9_see 27 = .ok (.getfield 40, 3) := by decide +kernel
theorem dX9_see_30 : decode cX9_see 30 = .ok (.iload_n 1, 1) := by decide +kernel
theorem dX9_see_31 : decode cX9_see 31 = .ok (.iload_n 2, 1) := by decide +kernel
theorem dX9_see_32 : decode cX9_see 32 = .ok (.iload_n 3, 1) := by decide +kernel
theorem dX9_see_33 : decode cX9_see 33 = .ok (.invokevirtual 260, 3) := by decide +kernel
theorem dX9_see_36 : decode cX9_see 36 = .ok (.ifCond .eq 13, 3) := by decide +kernel
theorem dX9_see_39 : decode cX9_see 39 = .ok (.aload_n 0, 1) := by decide +kernel
theorem dX9_see_40 : decode cX9_see 40 = .ok (.getfield 40, 3) := by decide +kernel
theorem dX9_see_43 : decode cX9_see 43 = .ok (.getfield 89, 3) := by decide +kernel
theorem dX9_see_46 : decode cX9_see 46 = .ok (.goto 5, 3) := by decide +kernel
theorem dX9_see_49 : decode cX9_see 49 = .ok (.ldc 73, 2) := by decide +kernel
theorem dX9_see_51 : decode cX9_see 51 = .ok (.ireturn, 1) := by decide +kernel
set_option maxRecDepth 20000 in
theorem dX9_couldBe_0 : decode cX9_couldBe 0 = .ok (.iload_n 1, 1) := by decide +kernel
theorem dX9_couldBe_1 : decode cX9_couldBe 1 = .ok (.ifCond .lt 8, 3) := by decide +kernel
theorem dX9_couldBe_4 : decode cX9_couldBe 4 = .ok (.iload_n 1, 1) := by decide +kernel
theorem dX9_couldBe_5 : decode cX9_couldBe 5 = .ok (.iconst 2, 1) := by decide +kernel
theorem dX9_couldBe_6 : decode cX9_couldBe 6 = .ok (.if_icmp .le 6, 3) := by decide +kernel
theorem dX9_couldBe_9 : decode cX9_couldBe 9 = .ok (.ldc 65, 2) := by decide +kernel
theorem dX9_couldBe_11 : decode cX9_couldBe 11 = .ok (.ireturn, 1) := by decide +kernel
theorem dX9_couldBe_12 : decode cX9_couldBe 12 = .ok (.aload_n 0, 1) := by decide +kernel
theorem dX9_couldBe_13 : decode cX9_couldBe 13 = .ok (.getfield 40, 3) := by decide +kernel
theorem dX9_couldBe_16 : decode cX9_couldBe 16 = .ok (.aload_n 0, 1) := by decide +kernel
theorem dX9_couldBe_17 : decode cX9_couldBe 17 = .ok (.getfield 19, 3) := by decide +kernel
theorem dX9_couldBe_20 : decode cX9_couldBe 20 = .ok (.aload_n 0, 1) := by decide +kernel
theorem dX9_couldBe_21 : decode cX9_couldBe 21 = .ok (.getfield 26, 3) := by decide +kernel
theorem dX9_couldBe_24 : decode cX9_couldBe 24 = .ok (.iconst 0, 1) := by decide +kernel
theorem dX9_couldBe_25 : decode cX9_couldBe 25 = .ok (.invokevirtual 263, 3) := by decide +kernel
theorem dX9_couldBe_28 : decode cX9_couldBe 28 = .ok (.iload_n 1, 1) := by decide +kernel
theorem dX9_couldBe_29 : decode cX9_couldBe 29 = .ok (.lookupswitch 43 #[(0, 27), (1, 35)], 27) := by decide +kernel
theorem dX9_couldBe_56 : decode cX9_couldBe 56 = .ok (.aload_n 0, 1) := by decide +kernel
theorem dX9_couldBe_57 : decode cX9_couldBe 57 = .ok (.getfield 40, 3) := by decide +kernel
theorem dX9_couldBe_60 : decode cX9_couldBe 60 = .ok (.getfield 267, 3) := by decide +kernel
theorem dX9_couldBe_63 : decode cX9_couldBe 63 = .ok (.ireturn, 1) := by decide +kernel
theorem dX9_couldBe_64 : decode cX9_couldBe 64 = .ok (.aload_n 0, 1) := by decide +kernel
theorem dX9_couldBe_65 : decode cX9_couldBe 65 = .ok (.getfield 40, 3) := by decide +kernel
theorem dX9_couldBe_68 : decode cX9_couldBe 68 = .ok (.getfield 270, 3) := by decide +kernel
theorem dX9_couldBe_71 : decode cX9_couldBe 71 = .ok (.ireturn, 1) := by decide +kernel
theorem dX9_couldBe_72 : decode cX9_couldBe 72 = .ok (.aload_n 0, 1) := by decide +kernel
theorem dX9_couldBe_73 : decode cX9_couldBe 73 = .ok (.getfield 40, 3) := by decide +kernel
theorem dX9_couldBe_76 : decode cX9_couldBe 76 = .ok (.getfield 273, 3) := by decide +kernel
theorem dX9_couldBe_79 : decode cX9_couldBe 79 = .ok (.ireturn, 1) := by decide +kernel
set_option maxRecDepth 20000 in
theorem dX9_look_0 : decode cX9_look 0 = .ok (.aload_n 0, 1) := by decide +kernel
theorem dX9_look_1 : decode cX9_look 1 = .ok (.getfield 40, 3) := by decide +kernel
theorem dX9_look_4 : decode cX9_look 4 = .ok (.aload_n 0, 1) := by decide +kernel
theorem dX9_look_5 : decode cX9_look 5 = .ok (.getfield 19, 3) := by decide +kernel
theorem dX9_look_8 : decode cX9_look 8 = .ok (.aload_n 0, 1) := by decide +kernel
theorem dX9_look_9 : decode cX9_look 9 = .ok (.getfield 26, 3) := by decide +kernel
theorem dX9_look_12 : decode cX9_look 12 = .ok (.iconst 1, 1) := by decide +kernel
theorem dX9_look_13 : decode cX9_look 13 = .ok (.invokevirtual 263, 3) := by decide +kernel
theorem dX9_look_16 : decode cX9_look 16 = .ok (.aload_n 0, 1) := by decide +kernel
theorem dX9_look_17 : decode cX9_look 17 = .ok (.getfield 40, 3) := by decide +kernel
theorem dX9_look_20 : decode cX9_look 20 = .ok (.invokevirtual 276, 3) := by decide +kernel
theorem dX9_look_23 : decode cX9_look 23 = .ok (.ireturn, 1) := by decide +kernel
set_option maxRecDepth 20000 in
theorem dX9_write_0 : decode cX9_write 0 = .ok (.aload_n 0, 1) := by decide +kernel
theorem dX9_write_1 : decode cX9_write 1 = .ok (.getfield 19, 3) := by decide +kernel
theorem dX9_write_4 : decode cX9_write 4 = .ok (.getfield 110, 3) := by decide +kernel
theorem dX9_write_7 : decode cX9_write 7 = .ok (.iload_n 1, 1) := by decide +kernel
theorem dX9_write_8 : decode cX9_write 8 = .ok (.invokevirtual 184, 3) := by decide +kernel
theorem dX9_write_11 : decode cX9_write 11 = .ok (.ifCond .ne 6, 3) := by decide +kernel
theorem dX9_write_14 : decode cX9_write 14 = .ok (.ldc 153, 2) := by decide +kernel
theorem dX9_write_16 : decode cX9_write 16 = .ok (.ireturn, 1) := by decide +kernel
theorem dX9_write_17 : decode cX9_write 17 = .ok (.iload_n 2, 1) := by decide +kernel
theorem dX9_write_18 : decode cX9_write 18 = .ok (.ifCond .lt 10, 3) := by decide +kernel
theorem dX9_write_21 : decode cX9_write 21 = .ok (.iload_n 2, 1) := by decide +kernel
theorem dX9_write_22 : decode cX9_write 22 = .ok (.sipush 9999, 3) := by decide +kernel
theorem dX9_write_25 : decode cX9_write 25 = .ok (.if_icmp .le 6, 3) := by decide +kernel
theorem dX9_write_28 : decode cX9_write 28 = .ok (.ldc 65, 2) := by decide +kernel
theorem dX9_write_30 : decode cX9_write 30 = .ok (.ireturn, 1) := by decide +kernel
theorem dX9_write_31 : decode cX9_write 31 = .ok (.aload_n 0, 1) := by decide +kernel
theorem dX9_write_32 : decode cX9_write 32 = .ok (.getfield 47, 3) := by decide +kernel
theorem dX9_write_35 : decode cX9_write 35 = .ok (.iload_n 1, 1) := by decide +kernel
theorem dX9_write_36 : decode cX9_write 36 = .ok (.iload_n 2, 1) := by decide +kernel
theorem dX9_write_37 : decode cX9_write 37 = .ok (.invokevirtual 279, 3) := by decide +kernel
theorem dX9_write_40 : decode cX9_write 40 = .ok (.ifCond .eq 13, 3) := by decide +kernel
theorem dX9_write_43 : decode cX9_write 43 = .ok (.aload_n 0, 1) := by decide +kernel
theorem dX9_write_44 : decode cX9_write 44 = .ok (.getfield 47, 3) := by decide +kernel
theorem dX9_write_47 : decode cX9_write 47 = .ok (.getfield 90, 3) := by decide +kernel
theorem dX9_write_50 : decode cX9_write 50 = .ok (.goto 5, 3) := by decide +kernel
theorem dX9_write_53 : decode cX9_write 53 = .ok (.ldc 73, 2) := by decide +kernel
theorem dX9_write_55 : decode cX9_write 55 = .ok (.ireturn, 1) := by decide +kernel
set_option maxRecDepth 20000 in
theorem dX9_judge_0 : decode cX9_judge 0 = .ok (.aload_n 0, 1) := by decide +kernel
theorem dX9_judge_1 : decode cX9_judge 1 = .ok (.getfield 47, 3) := by decide +kernel
theorem dX9_judge_4 : decode cX9_judge 4 = .ok (.aload_n 0, 1) := by decide +kernel
theorem dX9_judge_5 : decode cX9_judge 5 = .ok (.getfield 19, 3) := by decide +kernel
theorem dX9_judge_8 : decode cX9_judge 8 = .ok (.getfield 110, 3) := by decide +kernel
theorem dX9_judge_11 : decode cX9_judge 11 = .ok (.invokevirtual 282, 3) := by decide +kernel
theorem dX9_judge_14 : decode cX9_judge 14 = .ok (.ireturn, 1) := by decide +kernel
theorem dX9_tear_0 : decode cX9_tear 0 = .ok (.aload_n 0, 1) := by decide +kernel
theorem dX9_tear_1 : decode cX9_tear 1 = .ok (.getfield 40, 3) := by decide +kernel
theorem dX9_tear_4 : decode cX9_tear 4 = .ok (.getfield 89, 3) := by decide +kernel
theorem dX9_tear_7 : decode cX9_tear 7 = .ok (.aload_n 0, 1) := by decide +kernel
theorem dX9_tear_8 : decode cX9_tear 8 = .ok (.getfield 47, 3) := by decide +kernel
theorem dX9_tear_11 : decode cX9_tear 11 = .ok (.getfield 90, 3) := by decide +kernel
theorem dX9_tear_14 : decode cX9_tear 14 = .ok (.iadd, 1) := by decide +kernel
theorem dX9_tear_15 : decode cX9_tear 15 = .ok (.istore_n 1, 1) := by decide +kernel
theorem dX9_tear_16 : decode cX9_tear 16 = .ok (.aload_n 0, 1) := by decide +kernel
theorem dX9_tear_17 : decode cX9_tear 17 = .ok (.getfield 40, 3) := by decide +kernel
theorem dX9_tear_20 : decode cX9_tear 20 = .ok (.iconst 0, 1) := by decide +kernel
theorem dX9_tear_21 : decode cX9_tear 21 = .ok (.putfield 89, 3) := by decide +kernel
theorem dX9_tear_24 : decode cX9_tear 24 = .ok (.aload_n 0, 1) := by decide +kernel
theorem dX9_tear_25 : decode cX9_tear 25 = .ok (.getfield 47, 3) := by decide +kernel
theorem dX9_tear_28 : decode cX9_tear 28 = .ok (.iconst 0, 1) := by decide +kernel
theorem dX9_tear_29 : decode cX9_tear 29 = .ok (.putfield 90, 3) := by decide +kernel
theorem dX9_tear_32 : decode cX9_tear 32 = .ok (.iload_n 1, 1) := by decide +kernel
theorem dX9_tear_33 : decode cX9_tear 33 = .ok (.ireturn, 1) := by decide +kernel
theorem dX9_seed_0 : decode cX9_seed 0 = .ok (.iload_n 1, 1) := by decide +kernel
theorem dX9_seed_1 : decode cX9_seed 1 = .ok (.ifCond .ge 6, 3) := by decide +kernel
theorem dX9_seed_4 : decode cX9_seed 4 = .ok (.ldc 65, 2) := by decide +kernel
theorem dX9_seed_6 : decode cX9_seed 6 = .ok (.ireturn, 1) := by decide +kernel
theorem dX9_seed_7 : decode cX9_seed 7 = .ok (.aload_n 0, 1) := by decide +kernel
theorem dX9_seed_8 : decode cX9_seed 8 = .ok (.getfield 61, 3) := by decide +kernel
theorem dX9_seed_11 : decode cX9_seed 11 = .ok (.istore_n 2, 1) := by decide +kernel
theorem dX9_seed_12 : decode cX9_seed 12 = .ok (.aload_n 0, 1) := by decide +kernel
theorem dX9_seed_13 : decode cX9_seed 13 = .ok (.iload_n 1, 1) := by decide +kernel
theorem dX9_seed_14 : decode cX9_seed 14 = .ok (.putfield 61, 3) := by decide +kernel
theorem dX9_seed_17 : decode cX9_seed 17 = .ok (.iload_n 2, 1) := by decide +kernel
theorem dX9_seed_18 : decode cX9_seed 18 = .ok (.ireturn, 1) := by decide +kernel
set_option maxRecDepth 20000 in
theorem dX9_keep_0 : decode cX9_keep 0 = .ok (.iload_n 1, 1) := by decide +kernel
theorem dX9_keep_1 : decode cX9_keep 1 = .ok (.ifCond .lt 8, 3) := by decide +kernel
theorem dX9_keep_4 : decode cX9_keep 4 = .ok (.iload_n 1, 1) := by decide +kernel
theorem dX9_keep_5 : decode cX9_keep 5 = .ok (.iconst 2, 1) := by decide +kernel
theorem dX9_keep_6 : decode cX9_keep 6 = .ok (.if_icmp .lt 6, 3) := by decide +kernel
theorem dX9_keep_9 : decode cX9_keep 9 = .ok (.ldc 153, 2) := by decide +kernel
theorem dX9_keep_11 : decode cX9_keep 11 = .ok (.ireturn, 1) := by decide +kernel
theorem dX9_keep_12 : decode cX9_keep 12 = .ok (.aload_n 0, 1) := by decide +kernel
theorem dX9_keep_13 : decode cX9_keep 13 = .ok (.getfield 53, 3) := by decide +kernel
theorem dX9_keep_16 : decode cX9_keep 16 = .ok (.iload_n 1, 1) := by decide +kernel
theorem dX9_keep_17 : decode cX9_keep 17 = .ok (.aaload, 1) := by decide +kernel
theorem dX9_keep_18 : decode cX9_keep 18 = .ok (.getfield 286, 3) := by decide +kernel
theorem dX9_keep_21 : decode cX9_keep 21 = .ok (.aload_n 0, 1) := by decide +kernel
theorem dX9_keep_22 : decode cX9_keep 22 = .ok (.getfield 19, 3) := by decide +kernel
theorem dX9_keep_25 : decode cX9_keep 25 = .ok (.invokevirtual 84, 3) := by decide +kernel
theorem dX9_keep_28 : decode cX9_keep 28 = .ok (.aload_n 0, 1) := by decide +kernel
theorem dX9_keep_29 : decode cX9_keep 29 = .ok (.getfield 53, 3) := by decide +kernel
theorem dX9_keep_32 : decode cX9_keep 32 = .ok (.iload_n 1, 1) := by decide +kernel
theorem dX9_keep_33 : decode cX9_keep 33 = .ok (.aaload, 1) := by decide +kernel
theorem dX9_keep_34 : decode cX9_keep 34 = .ok (.aload_n 0, 1) := by decide +kernel
theorem dX9_keep_35 : decode cX9_keep 35 = .ok (.getfield 61, 3) := by decide +kernel
theorem dX9_keep_38 : decode cX9_keep 38 = .ok (.putfield 287, 3) := by decide +kernel
theorem dX9_keep_41 : decode cX9_keep 41 = .ok (.aload_n 0, 1) := by decide +kernel
theorem dX9_keep_42 : decode cX9_keep 42 = .ok (.getfield 53, 3) := by decide +kernel
theorem dX9_keep_45 : decode cX9_keep 45 = .ok (.iload_n 1, 1) := by decide +kernel
theorem dX9_keep_46 : decode cX9_keep 46 = .ok (.aaload, 1) := by decide +kernel
theorem dX9_keep_47 : decode cX9_keep 47 = .ok (.iconst 1, 1) := by decide +kernel
theorem dX9_keep_48 : decode cX9_keep 48 = .ok (.putfield 91, 3) := by decide +kernel
theorem dX9_keep_51 : decode cX9_keep 51 = .ok (.aload_n 0, 1) := by decide +kernel
theorem dX9_keep_52 : decode cX9_keep 52 = .ok (.getfield 33, 3) := by decide +kernel
theorem dX9_keep_55 : decode cX9_keep 55 = .ok (.iconst 0, 1) := by decide +kernel
theorem dX9_keep_56 : decode cX9_keep 56 = .ok (.putfield 88, 3) := by decide +kernel
theorem dX9_keep_59 : decode cX9_keep 59 = .ok (.iconst 1, 1) := by decide +kernel
theorem dX9_keep_60 : decode cX9_keep 60 = .ok (.ireturn, 1) := by decide +kernel
set_option maxRecDepth 20000 in
theorem dX9_goBack_0 : decode cX9_goBack 0 = .ok (.iload_n 1, 1) := by decide +kernel
theorem dX9_goBack_1 : decode cX9_goBack 1 = .ok (.ifCond .lt 8, 3) := by decide +kernel
theorem dX9_goBack_4 : decode cX9_goBack 4 = .ok (.iload_n 1, 1) := by decide +kernel
theorem dX9_goBack_5 : decode cX9_goBack 5 = .ok (.iconst 2, 1) := by decide +kernel
theorem dX9_goBack_6 : decode cX9_goBack 6 = .ok (.if_icmp .lt 6, 3) := by decide +kernel
theorem dX9_goBack_9 : decode cX9_goBack 9 = .ok (.ldc 153, 2) := by decide +kernel
theorem dX9_goBack_11 : decode cX9_goBack 11 = .ok (.ireturn, 1) := by decide +kernel
theorem dX9_goBack_12 : decode cX9_goBack 12 = .ok (.aload_n 0, 1) := by decide +kernel
theorem dX9_goBack_13 : decode cX9_goBack 13 = .ok (.getfield 53, 3) := by decide +kernel
theorem dX9_goBack_16 : decode cX9_goBack 16 = .ok (.iload_n 1, 1) := by decide +kernel
theorem dX9_goBack_17 : decode cX9_goBack 17 = .ok (.aaload, 1) := by decide +kernel
theorem dX9_goBack_18 : decode cX9_goBack 18 = .ok (.getfield 91, 3) := by decide +kernel
theorem dX9_goBack_21 : decode cX9_goBack 21 = .ok (.ifCond .ne 6, 3) := by decide +kernel
theorem dX9_goBack_24 : decode cX9_goBack 24 = .ok (.ldc 215, 2) := by decide +kernel
theorem dX9_goBack_26 : decode cX9_goBack 26 = .ok (.ireturn, 1) := by decide +kernel
theorem dX9_goBack_27 : decode cX9_goBack 27 = .ok (.aload_n 0, 1) := by decide +kernel
theorem dX9_goBack_28 : decode cX9_goBack 28 = .ok (.getfield 19, 3) := by decide +kernel
theorem dX9_goBack_31 : decode cX9_goBack 31 = .ok (.aload_n 0, 1) := by decide +kernel
theorem dX9_goBack_32 : decode cX9_goBack 32 = .ok (.getfield 53, 3) := by decide +kernel
theorem dX9_goBack_35 : decode cX9_goBack 35 = .ok (.iload_n 1, 1) := by decide +kernel
theorem dX9_goBack_36 : decode cX9_goBack 36 = .ok (.aaload, 1) := by decide +kernel
theorem dX9_goBack_37 : decode cX9_goBack 37 = .ok (.getfield 286, 3) := by decide +kernel
theorem dX9_goBack_40 : decode cX9_goBack 40 = .ok (.invokevirtual 84, 3) := by decide +kernel
theorem dX9_goBack_43 : decode cX9_goBack 43 = .ok (.aload_n 0, 1) := by decide +kernel
theorem dX9_goBack_44 : decode cX9_goBack 44 = .ok (.aload_n 0, 1) := by decide +kernel
theorem dX9_goBack_45 : decode cX9_goBack 45 = .ok (.getfield 53, 3) := by decide +kernel
theorem dX9_goBack_48 : decode cX9_goBack 48 = .ok (.iload_n 1, 1) := by decide +kernel
theorem dX9_goBack_49 : decode cX9_goBack 49 = .ok (.aaload, 1) := by decide +kernel
theorem dX9_goBack_50 : decode cX9_goBack 50 = .ok (.getfield 287, 3) := by decide +kernel
theorem dX9_goBack_53 : decode cX9_goBack 53 = .ok (.putfield 61, 3) := by decide +kernel
theorem dX9_goBack_56 : decode cX9_goBack 56 = .ok (.aload_n 0, 1) := by decide +kernel
theorem dX9_goBack_57 : decode cX9_goBack 57 = .ok (.getfield 33, 3) := by decide +kernel
theorem dX9_goBack_60 : decode cX9_goBack 60 = .ok (.iconst 0, 1) := by decide +kernel
theorem dX9_goBack_61 : decode cX9_goBack 61 = .ok (.putfield 88, 3) := by decide +kernel
theorem dX9_goBack_64 : decode cX9_goBack 64 = .ok (.iconst 1, 1) := by decide +kernel
theorem dX9_goBack_65 : decode cX9_goBack 65 = .ok (.ireturn, 1) := by decide +kernel
theorem dX9_isPlaceNumber_0 : decode cX9_isPlaceNumber 0 = .ok (.iload_n 0, 1) := by decide +kernel
theorem dX9_isPlaceNumber_1 : decode cX9_isPlaceNumber 1 = .ok (.iconst 1, 1) := by decide +kernel
theorem dX9_isPlaceNumber_2 : decode cX9_isPlaceNumber 2 = .ok (.if_icmp .lt 13, 3) := by decide +kernel
theorem dX9_isPlaceNumber_5 : decode cX9_isPlaceNumber 5 = .ok (.iload_n 0, 1) := by decide +kernel
theorem dX9_isPlaceNumber_6 : decode cX9_isPlaceNumber 6 = .ok (.bipush 72, 2) := by decide +kernel
theorem dX9_isPlaceNumber_8 : decode cX9_isPlaceNumber 8 = .ok (.if_icmp .ge 7, 3) := by decide +kernel
theorem dX9_isPlaceNumber_11 : decode cX9_isPlaceNumber 11 = .ok (.iconst 1, 1) := by decide +kernel
theorem dX9_isPlaceNumber_12 : decode cX9_isPlaceNumber 12 = .ok (.goto 4, 3) := by decide +kernel
theorem dX9_isPlaceNumber_15 : decode cX9_isPlaceNumber 15 = .ok (.iconst 0, 1) := by decide +kernel
theorem dX9_isPlaceNumber_16 : decode cX9_isPlaceNumber 16 = .ok (.ireturn, 1) := by decide +kernel
theorem dX9_refusalToPass_0 : decode cX9_refusalToPass 0 = .ok (.iload_n 1, 1) := by decide +kernel
theorem dX9_refusalToPass_1 : decode cX9_refusalToPass 1 = .ok (.iconst 1, 1) := by decide +kernel
theorem dX9_refusalToPass_2 : decode cX9_refusalToPass 2 = .ok (.if_icmp .lt 9, 3) := by decide +kernel
theorem dX9_refusalToPass_5 : decode cX9_refusalToPass 5 = .ok (.iload_n 1, 1) := by decide +kernel
theorem dX9_refusalToPass_6 : decode cX9_refusalToPass 6 = .ok (.bipush 50, 2) := by decide +kernel
theorem dX9_refusalToPass_8 : decode cX9_refusalToPass 8 = .ok (.if_icmp .le 6, 3) := by decide +kernel
theorem dX9_refusalToPass_11 : decode cX9_refusalToPass 11 = .ok (.ldc 65, 2) := by decide +kernel
theorem dX9_refusalToPass_13 : decode cX9_refusalToPass 13 = .ok (.ireturn, 1) := by decide +kernel
theorem dX9_refusalToPass_14 : decode cX9_refusalToPass 14 = .ok (.aload_n 0, 1) := by decide +kernel
theorem dX9_refusalToPass_15 : decode cX9_refusalToPass 15 = .ok (.getfield 19, 3) := by decide +kernel
theorem dX9_refusalToPass_18 : decode cX9_refusalToPass 18 = .ok (.getfield 104, 3) := by decide +kernel
theorem dX9_refusalToPass_21 : decode cX9_refusalToPass 21 = .ok (.ifCond .ne 6, 3) := by decide +kernel
theorem dX9_refusalToPass_24 : decode cX9_refusalToPass 24 = .ok (.ldc 215, 2) := by decide +kernel
theorem dX9_refusalToPass_26 : decode cX9_refusalToPass 26 = .ok (.ireturn, 1) := by decide +kernel
theorem dX9_refusalToPass_27 : decode cX9_refusalToPass 27 = .ok (.aload_n 0, 1) := by decide +kernel
theorem dX9_refusalToPass_28 : decode cX9_refusalToPass 28 = .ok (.getfield 19, 3) := by decide +kernel
theorem dX9_refusalToPass_31 : decode cX9_refusalToPass 31 = .ok (.getfield 132, 3) := by decide +kernel
theorem dX9_refusalToPass_34 : decode cX9_refusalToPass 34 = .ok (.ldc_w 290, 3) := by decide +kernel
theorem dX9_refusalToPass_37 : decode cX9_refusalToPass 37 = .ok (.if_icmp .le 8, 3) := by decide +kernel
theorem dX9_refusalToPass_40 : decode cX9_refusalToPass 40 = .ok (.ldc 73, 2) := by decide +kernel
theorem dX9_refusalToPass_42 : decode cX9_refusalToPass 42 = .ok (.goto 4, 3) := by decide +kernel
theorem dX9_refusalToPass_45 : decode cX9_refusalToPass 45 = .ok (.iconst 0, 1) := by decide +kernel
theorem dX9_refusalToPass_46 : decode cX9_refusalToPass 46 = .ok (.ireturn, 1) := by decide +kernel
set_option maxRecDepth 20000 in
theorem dX9_turnPlace_0 : decode cX9_turnPlace 0 = .ok (.iload_n 1, 1) := by decide +kernel
theorem dX9_turnPlace_1 : decode cX9_turnPlace 1 = .ok (.invokestatic 175, 3) := by decide +kernel
theorem dX9_turnPlace_4 : decode cX9_turnPlace 4 = .ok (.ifCond .ne 6, 3) := by decide +kernel
theorem dX9_turnPlace_7 : decode cX9_turnPlace 7 = .ok (.ldc 65, 2) := by decide +kernel
theorem dX9_turnPlace_9 : decode cX9_turnPlace 9 = .ok (.ireturn, 1) := by decide +kernel
theorem dX9_turnPlace_10 : decode cX9_turnPlace 10 = .ok (.aload_n 0, 1) := by decide +kernel
theorem dX9_turnPlace_11 : decode cX9_turnPlace 11 = .ok (.getfield 19, 3) := by decide +kernel
theorem dX9_turnPlace_14 : decode cX9_turnPlace 14 = .ok (.getfield 95, 3) := by decide +kernel
theorem dX9_turnPlace_17 : decode cX9_turnPlace 17 = .ok (.iload_n 1, 1) := by decide +kernel
theorem dX9_turnPlace_18 : decode cX9_turnPlace 18 = .ok (.invokevirtual 178, 3) := by decide +kernel
theorem dX9_turnPlace_21 : decode cX9_turnPlace 21 = .ok (.ifCond .eq 19, 3) := by decide +kernel
theorem dX9_turnPlace_24 : decode cX9_turnPlace 24 = .ok (.aload_n 0, 1) := by decide +kernel
theorem dX9_turnPlace_25 : decode cX9_turnPlace 25 = .ok (.getfield 19, 3) := by decide +kernel
theorem dX9_turnPlace_28 : decode cX9_turnPlace 28 = .ok (.getfield 95, 3) := by decide +kernel
theorem dX9_turnPlace_31 : decode cX9_turnPlace 31 = .ok (.getfield 181, 3) := by decide +kernel
theorem dX9_turnPlace_34 : decode cX9_turnPlace 34 = .ok (.iload_n 1, 1) := by decide +kernel
theorem dX9_turnPlace_35 : decode cX9_turnPlace 35 = .ok (.iaload, 1) := by decide +kernel
theorem dX9_turnPlace_36 : decode cX9_turnPlace 36 = .ok (.iload_n 2, 1) := by decide +kernel
theorem dX9_turnPlace_37 : decode cX9_turnPlace 37 = .ok (.if_icmp .ne 6, 3) := by decide +kernel
theorem dX9_turnPlace_40 : decode cX9_turnPlace 40 = .ok (.ldc 215, 2) := by decide +kernel
theorem dX9_turnPlace_42 : decode cX9_turnPlace 42 = .ok (.ireturn, 1) := by decide +kernel
theorem dX9_turnPlace_43 : decode cX9_turnPlace 43 = .ok (.aload_n 0, 1) := by decide +kernel
theorem dX9_turnPlace_44 : decode cX9_turnPlace 44 = .ok (.getfield 33, 3) := by decide +kernel
theorem dX9_turnPlace_47 : decode cX9_turnPlace 47 = .ok (.aload_n 0, 1) := by decide +kernel
theorem dX9_turnPlace_48 : decode cX9_turnPlace 48 = .ok (.getfield 19, 3) := by decide +kernel
theorem dX9_turnPlace_51 : decode cX9_turnPlace 51 = .ok (.invokevirtual 209, 3) := by decide +kernel
theorem dX9_turnPlace_54 : decode cX9_turnPlace 54 = .ok (.aload_n 0, 1) := by decide +kernel
theorem dX9_turnPlace_55 : decode cX9_turnPlace 55 = .ok (.getfield 19, 3) := by decide +kernel
theorem dX9_turnPlace_58 : decode cX9_turnPlace 58 = .ok (.getfield 95, 3) := by decide +kernel
theorem dX9_turnPlace_61 : decode cX9_turnPlace 61 = .ok (.getfield 181, 3) := by decide +kernel
theorem dX9_turnPlace_64 : decode cX9_turnPlace 64 = .ok (.iload_n 1, 1) := by decide +kernel
theorem dX9_turnPlace_65 : decode cX9_turnPlace 65 = .ok (.iaload, 1) := by decide +kernel
theorem dX9_turnPlace_66 : decode cX9_turnPlace 66 = .ok (.istore_n 3, 1) := by decide +kernel
theorem dX9_turnPlace_67 : decode cX9_turnPlace 67 = .ok (.aload_n 0, 1) := by decide +kernel
theorem dX9_turnPlace_68 : decode cX9_turnPlace 68 = .ok (.getfield 19, 3) := by decide +kernel
theorem dX9_turnPlace_71 : decode cX9_turnPlace 71 = .ok (.getfield 95, 3) := by decide +kernel
theorem dX9_turnPlace_74 : decode cX9_turnPlace 74 = .ok (.getfield 181, 3) := by decide +kernel
theorem dX9_turnPlace_77 : decode cX9_turnPlace 77 = .ok (.iload_n 1, 1) := by decide +kernel
theorem dX9_turnPlace_78 : decode cX9_turnPlace 78 = .ok (.iload_n 2, 1) := by decide +kernel
theorem dX9_turnPlace_79 : decode cX9_turnPlace 79 = .ok (.iastore, 1) := by decide +kernel
theorem dX9_turnPlace_80 : decode cX9_turnPlace 80 = .ok (.iload_n 3, 1) := by decide +kernel
theorem dX9_turnPlace_81 : decode cX9_turnPlace 81 = .ok (.ireturn, 1) := by decide +kernel
theorem dX9_draw_0 : decode cX9_draw 0 = .ok (.aload_n 0, 1) := by decide +kernel
theorem dX9_draw_1 : decode cX9_draw 1 = .ok (.aload_n 0, 1) := by decide +kernel
theorem dX9_draw_2 : decode cX9_draw 2 = .ok (.getfield 61, 3) := by decide +kernel
theorem dX9_draw_5 : decode cX9_draw 5 = .ok (.i2l, 1) := by decide +kernel
theorem dX9_draw_6 : decode cX9_draw 6 = .ok (.ldc2_w 291, 3) := by decide +kernel
theorem dX9_draw_9 : decode cX9_draw 9 = .ok (.lmul, 1) := by decide +kernel
theorem dX9_draw_10 : decode cX9_draw 10 = .ok (.ldc2_w 293, 3) := by decide +kernel
theorem dX9_draw_13 : decode cX9_draw 13 = .ok (.ladd, 1) := by decide +kernel
theorem dX9_draw_14 : decode cX9_draw 14 = .ok (.ldc2_w 295, 3) := by decide +kernel
theorem dX9_draw_17 : decode cX9_draw 17 = .ok (.land, 1) := by decide +kernel
theorem dX9_draw_18 : decode cX9_draw 18 = .ok (.l2i, 1) := by decide +kernel
theorem dX9_draw_19 : decode cX9_draw 19 = .ok (.putfield 61, 3) := by decide +kernel
theorem dX9_draw_22 : decode cX9_draw 22 = .ok (.iload_n 1, 1) := by decide +kernel
theorem dX9_draw_23 : decode cX9_draw 23 = .ok (.iconst 1, 1) := by decide +kernel
theorem dX9_draw_24 : decode cX9_draw 24 = .ok (.if_icmp .ge 7, 3) := by decide +kernel
theorem dX9_draw_27 : decode cX9_draw 27 = .ok (.iconst 0, 1) := by decide +kernel
theorem dX9_draw_28 : decode cX9_draw 28 = .ok (.goto 13, 3) := by decide +kernel
theorem dX9_draw_31 : decode cX9_draw 31 = .ok (.aload_n 0, 1) := by decide +kernel
theorem dX9_draw_32 : decode cX9_draw 32 = .ok (.getfield 61, 3) := by decide +kernel
theorem dX9_draw_35 : decode cX9_draw 35 = .ok (.ldc_w 297, 3) := by decide +kernel
theorem dX9_draw_38 : decode cX9_draw 38 = .ok (.idiv, 1) := by decide +kernel
theorem dX9_draw_39 : decode cX9_draw 39 = .ok (.iload_n 1, 1) := by decide +kernel
theorem dX9_draw_40 : decode cX9_draw 40 = .ok (.irem, 1) := by decide +kernel
theorem dX9_draw_41 : decode cX9_draw 41 = .ok (.ireturn, 1) := by decide +kernel
set_option maxRecDepth 20000 in
theorem dX9_driftOnce_0 : decode cX9_driftOnce 0 = .ok (.aload_n 0, 1) := by decide +kernel
theorem dX9_driftOnce_1 : decode cX9_driftOnce 1 = .ok (.bipush 8, 2) := by decide +kernel
theorem dX9_driftOnce_3 : decode cX9_driftOnce 3 = .ok (.invokevirtual 298, 3) := by decide +kernel
theorem dX9_driftOnce_6 : decode cX9_driftOnce 6 = .ok (.istore_n 1, 1) := by decide +kernel
theorem dX9_driftOnce_7 : decode cX9_driftOnce 7 = .ok (.iload_n 1, 1) := by decide +kernel
theorem dX9_driftOnce_8 : decode cX9_driftOnce 8 = .ok (.iconst 1, 1) := by decide +kernel
theorem dX9_driftOnce_9 : decode cX9_driftOnce 9 = .ok (.if_icmp .gt 17, 3) := by decide +kernel
theorem dX9_driftOnce_12 : decode cX9_driftOnce 12 = .ok (.aload_n 0, 1) := by decide +kernel
theorem dX9_driftOnce_13 : decode cX9_driftOnce 13 = .ok (.getfield 19, 3) := by decide +kernel
theorem dX9_driftOnce_16 : decode cX9_driftOnce 16 = .ok (.getfield 95, 3) := by decide +kernel
theorem dX9_driftOnce_19 : decode cX9_driftOnce 19 = .ok (.iconst 1, 1) := by decide +kernel
theorem dX9_driftOnce_20 : decode cX9_driftOnce 20 = .ok (.putfield 123, 3) := by decide +kernel
theorem dX9_driftOnce_23 : decode cX9_driftOnce 23 = .ok (.goto 106, 3) := by decide +kernel
theorem dX9_driftOnce_26 : decode cX9_driftOnce 26 = .ok (.iload_n 1, 1) := by decide +kernel
theorem dX9_driftOnce_27 : decode cX9_driftOnce 27 = .ok (.iconst 2, 1) := by decide +kernel
theorem dX9_driftOnce_28 : decode cX9_driftOnce 28 = .ok (.if_icmp .ne 17, 3) := by decide +kernel
theorem dX9_driftOnce_31 : decode cX9_driftOnce 31 = .ok (.aload_n 0, 1) := by decide +kernel
theorem dX9_driftOnce_32 : decode cX9_driftOnce 32 = .ok (.getfield 19, 3) := by decide +kernel
theorem dX9_driftOnce_35 : decode cX9_driftOnce 35 = .ok (.getfield 95, 3) := by decide +kernel
theorem dX9_driftOnce_38 : decode cX9_driftOnce 38 = .ok (.iconst 0, 1) := by decide +kernel
theorem dX9_driftOnce_39 : decode cX9_driftOnce 39 = .ok (.putfield 123, 3) := by decide +kernel
theorem dX9_driftOnce_42 : decode cX9_driftOnce 42 = .ok (.goto 87, 3) := by decide +kernel
theorem dX9_driftOnce_45 : decode cX9_driftOnce 45 = .ok (.iload_n 1, 1) := by decide +kernel
theorem dX9_driftOnce_46 : decode cX9_driftOnce 46 = .ok (.iconst 3, 1) := by decide +kernel
theorem dX9_driftOnce_47 : decode cX9_driftOnce 47 = .ok (.if_icmp .ne 82, 3) := by decide +kernel
theorem dX9_driftOnce_50 : decode cX9_driftOnce 50 = .ok (.aload_n 0, 1) := by decide +kernel
theorem dX9_driftOnce_51 : decode cX9_driftOnce 51 = .ok (.getfield 19, 3) := by decide +kernel
theorem dX9_driftOnce_54 : decode cX9_driftOnce 54 = .ok (.getfield 95, 3) := by decide +kernel
theorem dX9_driftOnce_57 : decode cX9_driftOnce 57 = .ok (.getfield 99, 3) := by decide +kernel
theorem dX9_driftOnce_60 : decode cX9_driftOnce 60 = .ok (.iconst 1, 1) := by decide +kernel
theorem dX9_driftOnce_61 : decode cX9_driftOnce 61 = .ok (.if_icmp .le 68, 3) := by decide +kernel
theorem dX9_driftOnce_64 : decode cX9_driftOnce 64 = .ok (.aload_n 0, 1) := by decide +kernel
theorem dX9_driftOnce_65 : decode cX9_driftOnce 65 = .ok (.aload_n 0, 1) := by decide +kernel
theorem dX9_driftOnce_66 : decode cX9_driftOnce 66 = .ok (.getfield 19, 3) := by decide +kernel
theorem dX9_driftOnce_69 : decode cX9_driftOnce 69 = .ok (.getfield 95, 3) := by decide +kernel
theorem dX9_driftOnce_72 : decode cX9_driftOnce 72 = .ok (.getfield 99, 3) := by decide +kernel
theorem dX9_driftOnce_75 : decode cX9_driftOnce 75 = .ok (.iconst 1, 1) := by decide +kernel
theorem dX9_driftOnce_76 : decode cX9_driftOnce 76 = .ok (.isub, 1) := by decide +kernel
theorem dX9_driftOnce_77 : decode cX9_driftOnce 77 = .ok (.invokevirtual 298, 3) := by decide +kernel
theorem dX9_driftOnce_80 : decode cX9_driftOnce 80 = .ok (.iconst 1, 1) := by decide +kernel
theorem dX9_driftOnce_81 : decode cX9_driftOnce 81 = .ok (.iadd, 1) := by decide +kernel
theorem dX9_driftOnce_82 : decode cX9_driftOnce 82 = .ok (.istore_n 2, 1) := by decide +kernel
theorem dX9_driftOnce_83 : decode cX9_driftOnce 83 = .ok (.aload_n 0, 1) := by decide +kernel
theorem dX9_driftOnce_84 : decode cX9_driftOnce 84 = .ok (.getfield 19, 3) := by decide +kernel
theorem dX9_driftOnce_87 : decode cX9_driftOnce 87 = .ok (.getfield 95, 3) := by decide +kernel
theorem dX9_driftOnce_90 : decode cX9_driftOnce 90 = .ok (.iload_n 2, 1) := by decide +kernel
theorem dX9_driftOnce_91 : decode cX9_driftOnce 91 = .ok (.invokevirtual 178, 3) := by decide +kernel
theorem dX9_driftOnce_94 : decode cX9_driftOnce 94 = .ok (.ifCond .eq 35, 3) := by decide +kernel
theorem dX9_driftOnce_97 : decode cX9_driftOnce 97 = .ok (.aload_n 0, 1) := by decide +kernel
theorem dX9_driftOnce_98 : decode cX9_driftOnce 98 = .ok (.getfield 19, 3) := by decide +kernel
theorem dX9_driftOnce_101 : decode cX9_driftOnce 101 = .ok (.getfield 95, 3) := by decide +kernel
theorem dX9_driftOnce_104 : decode cX9_driftOnce 104 = .ok (.getfield 181, 3) := by decide +kernel
theorem dX9_driftOnce_107 : decode cX9_driftOnce 107 = .ok (.iload_n 2, 1) := by decide +kernel
theorem dX9_driftOnce_108 : decode cX9_driftOnce 108 = .ok (.aload_n 0, 1) := by decide +kernel
theorem dX9_driftOnce_109 : decode cX9_driftOnce 109 = .ok (.getfield 19, 3) := by decide +kernel
theorem dX9_driftOnce_112 : decode cX9_driftOnce 112 = .ok (.getfield 95, 3) := by decide +kernel
theorem dX9_driftOnce_115 : decode cX9_driftOnce 115 = .ok (.getfield 181, 3) := by decide +kernel
theorem dX9_driftOnce_118 : decode cX9_driftOnce 118 = .ok (.iload_n 2, 1) := by decide +kernel
theorem dX9_driftOnce_119 : decode cX9_driftOnce 119 = .ok (.iaload, 1) := by decide +kernel
theorem dX9_driftOnce_120 : decode cX9_driftOnce 120 = .ok (.ifCond .ne 7, 3) := by decide +kernel
theorem dX9_driftOnce_123 : decode cX9_driftOnce 123 = .ok (.iconst 1, 1) := by decide +kernel
theorem dX9_driftOnce_124 : decode cX9_driftOnce 124 = .ok (.goto 4, 3) := by decide +kernel
theorem dX9_driftOnce_127 : decode cX9_driftOnce 127 = .ok (.iconst 0, 1) := by decide +kernel
theorem dX9_driftOnce_128 : decode cX9_driftOnce 128 = .ok (.iastore, 1) := by decide +kernel
theorem dX9_driftOnce_129 : decode cX9_driftOnce 129 = .ok (.aload_n 0, 1) := by decide +kernel
theorem dX9_driftOnce_130 : decode cX9_driftOnce 130 = .ok (.getfield 19, 3) := by decide +kernel
theorem dX9_driftOnce_133 : decode cX9_driftOnce 133 = .ok (.invokevirtual 212, 3) := by decide +kernel
theorem dX9_driftOnce_136 : decode cX9_driftOnce 136 = .ok (.return_, 1) := by decide +kernel
theorem dX10_init_0 : decode cX10_init 0 = .ok (.aload_n 0, 1) := by decide +kernel
theorem dX10_init_1 : decode cX10_init 1 = .ok (.invokespecial 1, 3) := by decide +kernel
theorem dX10_init_4 : decode cX10_init 4 = .ok (.aload_n 0, 1) := by decide +kernel
theorem dX10_init_5 : decode cX10_init 5 = .ok (.sipush 4261, 3) := by decide +kernel
theorem dX10_init_8 : decode cX10_init 8 = .ok (.newarray .int, 2) := by decide +kernel
theorem dX10_init_10 : decode cX10_init 10 = .ok (.putfield 7, 3) := by decide +kernel
theorem dX10_init_13 : decode cX10_init 13 = .ok (.aload_n 0, 1) := by decide +kernel
theorem dX10_init_14 : decode cX10_init 14 = .ok (.bipush 72, 2) := by decide +kernel
theorem dX10_init_16 : decode cX10_init 16 = .ok (.newarray .int, 2) := by decide +kernel
theorem dX10_init_18 : decode cX10_init 18 = .ok (.putfield 13, 3) := by decide +kernel
theorem dX10_init_21 : decode cX10_init 21 = .ok (.aload_n 0, 1) := by decide +kernel
theorem dX10_init_22 : decode cX10_init 22 = .ok (.iconst 2, 1) := by decide +kernel
theorem dX10_init_23 : decode cX10_init 23 = .ok (.newarray .boolean, 2) := by decide +kernel
theorem dX10_init_25 : decode cX10_init 25 = .ok (.putfield 16, 3) := by decide +kernel
theorem dX10_init_28 : decode cX10_init 28 = .ok (.aload_n 0, 1) := by decide +kernel
theorem dX10_init_29 : decode cX10_init 29 = .ok (.iconst 2, 1) := by decide +kernel
theorem dX10_init_30 : decode cX10_init 30 = .ok (.newarray .int, 2) := by decide +kernel
theorem dX10_init_32 : decode cX10_init 32 = .ok (.putfield 20, 3) := by decide +kernel
theorem dX10_init_35 : decode cX10_init 35 = .ok (.aload_n 0, 1) := by decide +kernel
theorem dX10_init_36 : decode cX10_init 36 = .ok (.sipush 240, 3) := by decide +kernel
theorem dX10_init_39 : decode cX10_init 39 = .ok (.newarray .int, 2) := by decide +kernel
theorem dX10_init_41 : decode cX10_init 41 = .ok (.putfield 23, 3) := by decide +kernel
theorem dX10_init_44 : decode cX10_init 44 = .ok (.aload_n 0, 1) := by decide +kernel
theorem dX10_init_45 : decode cX10_init 45 = .ok (.iconst (-1), 1) := by decide +kernel
theorem dX10_init_46 : decode cX10_init 46 = .ok (.putfield 26, 3) := by decide +kernel
theorem dX10_init_49 : decode cX10_init 49 = .ok (.aload_n 0, 1) := by decide +kernel
theorem dX10_init_50 : decode cX10_init 50 = .ok (.bipush 6, 2) := by decide +kernel
theorem dX10_init_52 : decode cX10_init 52 = .ok (.newarray .int, 2) := by decide +kernel
theorem dX10_init_54 : decode cX10_init 54 = .ok (.putfield 30, 3) := by decide +kernel
theorem dX10_init_57 : decode cX10_init 57 = .ok (.aload_n 0, 1) := by decide +kernel
theorem dX10_init_58 : decode cX10_init 58 = .ok (.bipush 6, 2) := by decide +kernel
theorem dX10_init_60 : decode cX10_init 60 = .ok (.newarray .int, 2) := by decide +kernel
theorem dX10_init_62 : decode cX10_init 62 = .ok (.putfield 33, 3) := by decide +kernel
theorem dX10_init_65 : decode cX10_init 65 = .ok (.aload_n 0, 1) := by decide +kernel
theorem dX10_init_66 : decode cX10_init 66 = .ok (.bipush 6, 2) := by decide +kernel
theorem dX10_init_68 : decode cX10_init 68 = .ok (.newarray .boolean, 2) := by decide +kernel
theorem dX10_init_70 : decode cX10_init 70 = .ok (.putfield 36, 3) := by decide +kernel
theorem dX10_init_73 : decode cX10_init 73 = .ok (.aload_n 0, 1) := by decide +kernel
theorem dX10_init_74 : decode cX10_init 74 = .ok (.bipush 20, 2) := by decide +kernel
theorem dX10_init_76 : decode cX10_init 76 = .ok (.newarray .int, 2) := by decide +kernel
theorem dX10_init_78 : decode cX10_init 78 = .ok (.putfield 39, 3) := by decide +kernel
theorem dX10_init_81 : decode cX10_init 81 = .ok (.aload_n 0, 1) := by decide +kernel
theorem dX10_init_82 : decode cX10_init 82 = .ok (.bipush 20, 2) := by decide +kernel
theorem dX10_init_84 : decode cX10_init 84 = .ok (.newarray .int, 2) := by decide +kernel
theorem dX10_init_86 : decode cX10_init 86 = .ok (.putfield 42, 3) := by decide +kernel
theorem dX10_init_89 : decode cX10_init 89 = .ok (.aload_n 0, 1) := by decide +kernel
theorem dX10_init_90 : decode cX10_init 90 = .ok (.bipush 72, 2) := by decide +kernel
theorem dX10_init_92 : decode cX10_init 92 = .ok (.newarray .int, 2) := by decide +kernel
theorem dX10_init_94 : decode cX10_init 94 = .ok (.putfield 45, 3) := by decide +kernel
theorem dX10_init_97 : decode cX10_init 97 = .ok (.aload_n 0, 1) := by decide +kernel
theorem dX10_init_98 : decode cX10_init 98 = .ok (.bipush 72, 2) := by decide +kernel
theorem dX10_init_100 : decode cX10_init 100 = .ok (.newarray .int, 2) := by decide +kernel
theorem dX10_init_102 : decode cX10_init 102 = .ok (.putfield 48, 3) := by decide +kernel
theorem dX10_init_105 : decode cX10_init 105 = .ok (.aload_n 0, 1) := by decide +kernel
theorem dX10_init_106 : decode cX10_init 106 = .ok (.sipush 201, 3) := by decide +kernel
theorem dX10_init_109 : decode cX10_init 109 = .ok (.newarray .int, 2) := by decide +kernel
theorem dX10_init_111 : decode cX10_init 111 = .ok (.putfield 51, 3) := by decide +kernel
theorem dX10_init_114 : decode cX10_init 114 = .ok (.aload_n 0, 1) := by decide +kernel
theorem dX10_init_115 : decode cX10_init 115 = .ok (.sipush 8520, 3) := by decide +kernel
theorem dX10_init_118 : decode cX10_init 118 = .ok (.newarray .int, 2) := by decide +kernel
theorem dX10_init_120 : decode cX10_init 120 = .ok (.putfield 54, 3) := by decide +kernel
theorem dX10_init_123 : decode cX10_init 123 = .ok (.return_, 1) := by decide +kernel
theorem dX10_in_0 : decode cX10_in 0 = .ok (.lload_n 0, 1) := by decide +kernel
theorem dX10_in_1 : decode cX10_in 1 = .ok (.lload_n 2, 1) := by decide +kernel
theorem dX10_in_2 : decode cX10_in 2 = .ok (.lcmp, 1) := by decide +kernel
theorem dX10_in_3 : decode cX10_in 3 = .ok (.ifCond .lt 14, 3) := by decide +kernel
theorem dX10_in_6 : decode cX10_in 6 = .ok (.lload_n 0, 1) := by decide +kernel
theorem dX10_in_7 : decode cX10_in 7 = .ok (.lload 4, 2) := by decide +kernel
theorem dX10_in_9 : decode cX10_in 9 = .ok (.lcmp, 1) := by decide +kernel
theorem dX10_in_10 : decode cX10_in 10 = .ok (.ifCond .gt 7, 3) := by decide +kernel
theorem dX10_in_13 : decode cX10_in 13 = .ok (.iconst 1, 1) := by decide +kernel
theorem dX10_in_14 : decode cX10_in 14 = .ok (.goto 4, 3) := by decide +kernel
theorem dX10_in_17 : decode cX10_in 17 = .ok (.iconst 0, 1) := by decide +kernel
theorem dX10_in_18 : decode cX10_in 18 = .ok (.ireturn, 1) := by decide +kernel
theorem dX10_copyRow_0 : decode cX10_copyRow 0 = .ok (.iconst 0, 1) := by decide +kernel
theorem dX10_copyRow_1 : decode cX10_copyRow 1 = .ok (.istore 4, 2) := by decide +kernel
theorem dX10_copyRow_3 : decode cX10_copyRow 3 = .ok (.iload 4, 2) := by decide +kernel
theorem dX10_copyRow_5 : decode cX10_copyRow 5 = .ok (.iload_n 3, 1) := by decide +kernel
theorem dX10_copyRow_6 : decode cX10_copyRow 6 = .ok (.if_icmp .ge 27, 3) := by decide +kernel
theorem dX10_copyRow_9 : decode cX10_copyRow 9 = .ok (.aload_n 0, 1) := by decide +kernel
theorem dX10_copyRow_10 : decode cX10_copyRow 10 = .ok (.getfield 7, 3) := by decide +kernel
theorem dX10_copyRow_13 : decode cX10_copyRow 13 = .ok (.iload_n 2, 1) := by decide +kernel
theorem dX10_copyRow_14 : decode cX10_copyRow 14 = .ok (.iload 4, 2) := by decide +kernel
theorem dX10_copyRow_16 : decode cX10_copyRow 16 = .ok (.iadd, 1) := by decide +kernel
theorem dX10_copyRow_17 : decode cX10_copyRow 17 = .ok (.aload_n 0, 1) := by decide +kernel
theorem dX10_copyRow_18 : decode cX10_copyRow 18 = .ok (.getfield 7, 3) := by decide +kernel
theorem dX10_copyRow_21 : decode cX10_copyRow 21 = .ok (.iload_n 1, 1) := by decide +kernel
theorem dX10_copyRow_22 : decode cX10_copyRow 22 = .ok (.iload 4, 2) := by decide +kernel
theorem dX10_copyRow_24 : decode cX10_copyRow 24 = .ok (.iadd, 1) := by decide +kernel
theorem dX10_copyRow_25 : decode cX10_copyRow 25 = .ok (.iaload, 1) := by decide +kernel
theorem dX10_copyRow_26 : decode cX10_copyRow 26 = .ok (.iastore, 1) := by decide +kernel
theorem dX10_copyRow_27 : decode cX10_copyRow 27 = .ok (.iinc 4 1, 3) := by decide +kernel
theorem dX10_copyRow_30 : decode cX10_copyRow 30 = .ok (.goto (-27), 3) := by decide +kernel
theorem dX10_copyRow_33 : decode cX10_copyRow 33 = .ok (.return_, 1) := by decide +kernel
set_option maxRecDepth 20000 in
theorem dX10_feed_0 : decode cX10_feed 0 = .ok (.iload_n 1, 1) := by decide +kernel
theorem dX10_feed_1 : decode cX10_feed 1 = .ok (.i2l, 1) := by decide +kernel
theorem dX10_feed_2 : decode cX10_feed 2 = .ok (.lconst 0, 1) := by decide +kernel
theorem dX10_feed_3 : decode cX10_feed 3 = .ok (.ldc2_w 57, 3) := by decide +kernel
theorem dX10_feed_6 : decode cX10_feed 6 = .ok (.invokestatic 59, 3) := by decide +kernel
theorem dX10_feed_9 : decode cX10_feed 9 = .ok (.ifCond .ne 6, 3) := by decide +kernel
theorem dX10_feed_12 : decode cX10_feed 12 = .ok (.ldc 63, 2) := by decide +kernel
theorem dX10_feed_14 : decode cX10_feed 14 = .ok (.ireturn, 1) := by decide +kernel
theorem dX10_feed_15 : decode cX10_feed 15 = .ok (.aload_n 0, 1) := by decide +kernel
theorem dX10_feed_16 : decode cX10_feed 16 = .ok (.getfield 64, 3) := by decide +kernel
theorem dX10_feed_19 : decode cX10_feed 19 = .ok (.sipush 240, 3) := by decide +kernel
theorem dX10_feed_22 : decode cX10_feed 22 = .ok (.if_icmp .ne 6, 3) := by decide +kernel
theorem dX10_feed_25 : decode cX10_feed 25 = .ok (.ldc 67, 2) := by decide +kernel
theorem dX10_feed_27 : decode cX10_feed 27 = .ok (.ireturn, 1) := by decide +kernel
theorem dX10_feed_28 : decode cX10_feed 28 = .ok (.aload_n 0, 1) := by decide +kernel
theorem dX10_feed_29 : decode cX10_feed 29 = .ok (.getfield 23, 3) := by decide +kernel
theorem dX10_feed_32 : decode cX10_feed 32 = .ok (.aload_n 0, 1) := by decide +kernel
theorem dX10_feed_33 : decode cX10_feed 33 = .ok (.getfield 64, 3) := by decide +kernel
theorem dX10_feed_36 : decode cX10_feed 36 = .ok (.iload_n 1, 1) := by decide +kernel
theorem dX10_feed_37 : decode cX10_feed 37 = .ok (.iastore, 1) := by decide +kernel
theorem dX10_feed_38 : decode cX10_feed 38 = .ok (.aload_n 0, 1) := by decide +kernel
theorem dX10_feed_39 : decode cX10_feed 39 = .ok (.dup, 1) := by decide +kernel
theorem dX10_feed_40 : decode cX10_feed 40 = .ok (.getfield 64, 3) := by decide +kernel
theorem dX10_feed_43 : decode cX10_feed 43 = .ok (.iconst 1, 1) := by decide +kernel
theorem dX10_feed_44 : decode cX10_feed 44 = .ok (.iadd, 1) := by decide +kernel
theorem dX10_feed_45 : decode cX10_feed 45 = .ok (.putfield 64, 3) := by decide +kernel
theorem dX10_feed_48 : decode cX10_feed 48 = .ok (.aload_n 0, 1) := by decide +kernel
theorem dX10_feed_49 : decode cX10_feed 49 = .ok (.getfield 64, 3) := by decide +kernel
theorem dX10_feed_52 : decode cX10_feed 52 = .ok (.ireturn, 1) := by decide +kernel
theorem dX10_pass_0 : decode cX10_pass 0 = .ok (.aload_n 0, 1) := by decide +kernel
theorem dX10_pass_1 : decode cX10_pass 1 = .ok (.getfield 68, 3) := by decide +kernel
theorem dX10_pass_4 : decode cX10_pass 4 = .ok (.aload_n 0, 1) := by decide +kernel
theorem dX10_pass_5 : decode cX10_pass 5 = .ok (.getfield 64, 3) := by decide +kernel
theorem dX10_pass_8 : decode cX10_pass 8 = .ok (.if_icmp .ge 30, 3) := by decide +kernel
theorem dX10_pass_11 : decode cX10_pass 11 = .ok (.aload_n 0, 1) := by decide +kernel
theorem dX10_pass_12 : decode cX10_pass 12 = .ok (.getfield 23, 3) := by decide +kernel
theorem dX10_pass_15 : decode cX10_pass 15 = .ok (.aload_n 0, 1) := by decide +kernel
theorem dX10_pass_16 : decode cX10_pass 16 = .ok (.getfield 68, 3) := by decide +kernel
theorem dX10_pass_19 : decode cX10_pass 19 = .ok (.iaload, 1) := by decide +kernel
theorem dX10_pass_20 : decode cX10_pass 20 = .ok (.bipush 32, 2) := by decide +kernel
theorem dX10_pass_22 : decode cX10_pass 22 = .ok (.if_icmp .ne 16, 3) := by decide +kernel
theorem dX10_pass_25 : decode cX10_pass 25 = .ok (.aload_n 0, 1) := by decide +kernel
theorem dX10_pass_26 : decode cX10_pass 26 = .ok (.dup, 1) := by decide +kernel
theorem dX10_pass_27 : decode cX10_pass 27 = .ok (.getfield 68, 3) := by decide +kernel
theorem dX10_pass_30 : decode cX10_pass 30 = .ok (.iconst 1, 1) := by decide +kernel
theorem dX10_pass_31 : decode cX10_pass 31 = .ok (.iadd, 1) := by decide +kernel
theorem dX10_pass_32 : decode cX10_pass 32 = .ok (.putfield 68, 3) := by decide +kernel
theorem dX10_pass_35 : decode cX10_pass 35 = .ok (.goto (-35), 3) := by decide +kernel
theorem dX10_pass_38 : decode cX10_pass 38 = .ok (.return_, 1) := by decide +kernel
theorem dX10_refuse_0 : decode cX10_refuse 0 = .ok (.aload_n 0, 1) := by decide +kernel
theorem dX10_refuse_1 : decode cX10_refuse 1 = .ok (.iload_n 1, 1) := by decide +kernel
theorem dX10_refuse_2 : decode cX10_refuse 2 = .ok (.putfield 71, 3) := by decide +kernel
theorem dX10_refuse_5 : decode cX10_refuse 5 = .ok (.aload_n 0, 1) := by decide +kernel
theorem dX10_refuse_6 : decode cX10_refuse 6 = .ok (.iload_n 2, 1) := by decide +kernel
theorem dX10_refuse_7 : decode cX10_refuse 7 = .ok (.putfield 74, 3) := by decide +kernel
theorem dX10_refuse_10 : decode cX10_refuse 10 = .ok (.iconst 0, 1) := by decide +kernel
theorem dX10_refuse_11 : decode cX10_refuse 11 = .ok (.ireturn, 1) := by decide +kernel
set_option maxRecDepth 20000 in
theorem dX10_isFigure_0 : decode cX10_isFigure 0 = .ok (.iload_n 1, 1) := by decide +kernel
theorem dX10_isFigure_1 : decode cX10_isFigure 1 = .ok (.aload_n 0, 1) := by decide +kernel
theorem dX10_isFigure_2 : decode cX10_isFigure 2 = .ok (.getfield 64, 3) := by decide +kernel
theorem dX10_isFigure_5 : decode cX10_isFigure 5 = .ok (.if_icmp .ge 26, 3) := by decide +kernel
theorem dX10_isFigure_8 : decode cX10_isFigure 8 = .ok (.aload_n 0, 1) := by decide +kernel
theorem dX10_isFigure_9 : decode cX10_isFigure 9 = .ok (.getfield 23, 3) := by decide +kernel
theorem dX10_isFigure_12 : decode cX10_isFigure 12 = .ok (.iload_n 1, 1) := by decide +kernel
theorem dX10_isFigure_13 : decode cX10_isFigure 13 = .ok (.iaload, 1) := by decide +kernel
theorem dX10_isFigure_14 : decode cX10_isFigure 14 = .ok (.i2l, 1) := by decide +kernel
theorem dX10_isFigure_15 : decode cX10_isFigure 15 = .ok (.ldc2_w 77, 3) := by decide +kernel
theorem dX10_isFigure_18 : decode cX10_isFigure 18 = .ok (.ldc2_w 79, 3) := by decide +kernel
theorem dX10_isFigure_21 : decode cX10_isFigure 21 = .ok (.invokestatic 59, 3) := by decide +kernel
theorem dX10_isFigure_24 : decode cX10_isFigure 24 = .ok (.ifCond .eq 7, 3) := by decide +kernel
theorem dX10_isFigure_27 : decode cX10_isFigure 27 = .ok (.iconst 1, 1) := by decide +kernel
theorem dX10_isFigure_28 : decode cX10_isFigure 28 = .ok (.goto 4, 3) := by decide +kernel
theorem dX10_isFigure_31 : decode cX10_isFigure 31 = .ok (.iconst 0, 1) := by decide +kernel
theorem dX10_isFigure_32 : decode cX10_isFigure 32 = .ok (.ireturn, 1) := by decide +kernel
set_option maxRecDepth 20000 in
theorem dX10_readsNumber_0 : decode cX10_readsNumber 0 = .ok (.aload_n 0, 1) := by decide +kernel
theorem dX10_readsNumber_1 : decode cX10_readsNumber 1 = .ok (.invokevirtual 81, 3) := by decide +kernel
theorem dX10_readsNumber_4 : decode cX10_readsNumber 4 = .ok (.aload_n 0, 1) := by decide +kernel
theorem dX10_readsNumber_5 : decode cX10_readsNumber 5 = .ok (.getfield 68, 3) := by decide +kernel
theorem dX10_readsNumber_8 : decode cX10_readsNumber 8 = .ok (.istore_n 3, 1) := by decide +kernel
theorem dX10_readsNumber_9 : decode cX10_readsNumber 9 = .ok (.aload_n 0, 1) := by decide +kernel
theorem dX10_readsNumber_10 : decode cX10_readsNumber 10 = .ok (.aload_n 0, 1) := by decide +kernel
theorem dX10_readsNumber_11 : decode cX10_readsNumber 11 = .ok (.getfield 68, 3) := by decide +kernel
theorem dX10_readsNumber_14 : decode cX10_readsNumber 14 = .ok (.invokevirtual 84, 3) := by decide +kernel
theorem dX10_readsNumber_17 : decode cX10_readsNumber 17 = .ok (.ifCond .ne 13, 3) := by decide +kernel
theorem dX10_readsNumber_20 : decode cX10_readsNumber 20 = .ok (.aload_n 0, 1) := by decide +kernel
theorem dX10_readsNumber_21 : decode cX10_readsNumber 21 = .ok (.iconst 1, 1) := by decide +kernel
theorem dX10_readsNumber_22 : decode cX10_readsNumber 22 = .ok (.aload_n 0, 1) := by decide +kernel
theorem dX10_readsNumber_23 : decode cX10_readsNumber 23 = .ok (.getfield 68, 3) := by decide +kernel
theorem dX10_readsNumber_26 : decode cX10_readsNumber 26 = .ok (.invokevirtual 88, 3) := by decide +kernel
theorem dX10_readsNumber_29 : decode cX10_readsNumber 29 = .ok (.ireturn, 1) := by decide +kernel
theorem dX10_readsNumber_30 : decode cX10_readsNumber 30 = .ok (.iconst 0, 1) := by decide +kernel
theorem dX10_readsNumber_31 : decode cX10_readsNumber 31 = .ok (.istore 4, 2) := by decide +kernel
theorem dX10_readsNumber_33 : decode cX10_readsNumber 33 = .ok (.aload_n 0, 1) := by decide +kernel
theorem dX10_readsNumber_34 : decode cX10_readsNumber 34 = .ok (.aload_n 0, 1) := by decide +kernel
theorem dX10_readsNumber_35 : decode cX10_readsNumber 35 = .ok (.getfield 68, 3) := by decide +kernel
theorem dX10_readsNumber_38 : decode cX10_readsNumber 38 = .ok (.invokevirtual 84, 3) := by decide +kernel
theorem dX10_readsNumber_41 : decode cX10_readsNumber 41 = .ok (.ifCond .eq 51, 3) := by decide +kernel
theorem dX10_readsNumber_44 : decode cX10_readsNumber 44 = .ok (.aload_n 0, 1) := by decide +kernel
theorem dX10_readsNumber_45 : decode cX10_readsNumber 45 = .ok (.getfield 68, 3) := by decide +kernel
theorem dX10_readsNumber_48 : decode cX10_readsNumber 48 = .ok (.iload_n 3, 1) := by decide +kernel
theorem dX10_readsNumber_49 : decode cX10_readsNumber 49 = .ok (.isub, 1) := by decide +kernel
theorem dX10_readsNumber_50 : decode cX10_readsNumber 50 = .ok (.iconst 3, 1) := by decide +kernel
theorem dX10_readsNumber_51 : decode cX10_readsNumber 51 = .ok (.if_icmp .ge 24, 3) := by decide +kernel
theorem dX10_readsNumber_54 : decode cX10_readsNumber 54 = .ok (.bipush 10, 2) := by decide +kernel
theorem dX10_readsNumber_56 : decode cX10_readsNumber 56 = .ok (.iload 4, 2) := by decide +kernel
theorem dX10_readsNumber_58 : decode cX10_readsNumber 58 = .ok (.imul, 1) := by decide +kernel
theorem dX10_readsNumber_59 : decode cX10_readsNumber 59 = .ok (.aload_n 0, 1) := by decide +kernel
theorem dX10_readsNumber_60 : decode cX10_readsNumber 60 = .ok (.getfield 23, 3) := by decide +kernel
theorem dX10_readsNumber_63 : decode cX10_readsNumber 63 = .ok (.aload_n 0, 1) := by decide +kernel
theorem dX10_readsNumber_64 : decode cX10_readsNumber 64 = .ok (.getfield 68, 3) := by decide +kernel
theorem dX10_readsNumber_67 : decode cX10_readsNumber 67 = .ok (.iaload, 1) := by decide +kernel
theorem dX10_readsNumber_68 : decode cX10_readsNumber 68 = .ok (.iadd, 1) := by decide +kernel
theorem dX10_readsNumber_69 : decode cX10_readsNumber 69 = .ok (.bipush 48, 2) := by decide +kernel
theorem dX10_readsNumber_71 : decode cX10_readsNumber 71 = .ok (.isub, 1) := by decide +kernel
theorem dX10_readsNumber_72 : decode cX10_readsNumber 72 = .ok (.goto 5, 3) := by decide +kernel
theorem dX10_readsNumber_75 : decode cX10_readsNumber 75 = .ok (.iload 4, 2) := by decide +kernel
theorem dX10_readsNumber_77 : decode cX10_readsNumber 77 = .ok (.istore 4, 2) := by decide +kernel
theorem dX10_readsNumber_79 : decode cX10_readsNumber 79 = .ok (.aload_n 0, 1) := by decide +kernel
theorem dX10_readsNumber_80 : decode cX10_readsNumber 80 = .ok (.dup, 1) := by decide +kernel
theorem dX10_readsNumber_81 : decode cX10_readsNumber 81 = .ok (.getfield 68, 3) := by decide +kernel
theorem dX10_readsNumber_84 : decode cX10_readsNumber 84 = .ok (.iconst 1, 1) := by decide +kernel
theorem dX10_readsNumber_85 : decode cX10_readsNumber 85 = .ok (.iadd, 1) := by decide +kernel
theorem dX10_readsNumber_86 : decode cX10_readsNumber 86 = .ok (.putfield 68, 3) := by decide +kernel
theorem dX10_readsNumber_89 : decode cX10_readsNumber 89 = .ok (.goto (-56), 3) := by decide +kernel
theorem dX10_readsNumber_92 : decode cX10_readsNumber 92 = .ok (.aload_n 0, 1) := by decide +kernel
theorem dX10_readsNumber_93 : decode cX10_readsNumber 93 = .ok (.iload 4, 2) := by decide +kernel
theorem dX10_readsNumber_95 : decode cX10_readsNumber 95 = .ok (.putfield 92, 3) := by decide +kernel
theorem dX10_readsNumber_98 : decode cX10_readsNumber 98 = .ok (.aload_n 0, 1) := by decide +kernel
theorem dX10_readsNumber_99 : decode cX10_readsNumber 99 = .ok (.getfield 68, 3) := by decide +kernel
theorem dX10_readsNumber_102 : decode cX10_readsNumber 102 = .ok (.iload_n 3, 1) := by decide +kernel
theorem dX10_readsNumber_103 : decode cX10_readsNumber 103 = .ok (.isub, 1) := by decide +kernel
theorem dX10_readsNumber_104 : decode cX10_readsNumber 104 = .ok (.iconst 4, 1) := by decide +kernel
theorem dX10_readsNumber_105 : decode cX10_readsNumber 105 = .ok (.if_icmp .ge 16, 3) := by decide +kernel
theorem dX10_readsNumber_108 : decode cX10_readsNumber 108 = .ok (.iload 4, 2) := by decide +kernel
theorem dX10_readsNumber_110 : decode cX10_readsNumber 110 = .ok (.i2l, 1) := by decide +kernel
theorem dX10_readsNumber_111 : decode cX10_readsNumber 111 = .ok (.iload_n 1, 1) := by decide +kernel
theorem dX10_readsNumber_112 : decode cX10_readsNumber 112 = .ok (.i2l, 1) := by decide +kernel
theorem dX10_readsNumber_113 : decode cX10_readsNumber 113 = .ok (.iload_n 2, 1) := by decide +kernel
theorem dX10_readsNumber_114 : decode cX10_readsNumber 114 = .ok (.i2l, 1) := by decide +kernel
theorem dX10_readsNumber_115 : decode cX10_readsNumber 115 = .ok (.invokestatic 59, 3) := by decide +kernel
theorem dX10_readsNumber_118 : decode cX10_readsNumber 118 = .ok (.ifCond .ne 12, 3) := by decide +kernel
theorem dX10_readsNumber_121 : decode cX10_readsNumber 121 = .ok (.aload_n 0, 1) := by decide +kernel
theorem dX10_readsNumber_122 : decode cX10_readsNumber 122 = .ok (.iconst 2, 1) := by decide +kernel
theorem dX10_readsNumber_123 : decode cX10_readsNumber 123 = .ok (.iload_n 3, 1) := by decide +kernel
theorem dX10_readsNumber_124 : decode cX10_readsNumber 124 = .ok (.invokevirtual 88, 3) := by decide +kernel
theorem dX10_readsNumber_127 : decode cX10_readsNumber 127 = .ok (.ifCond .eq 7, 3) := by decide +kernel
theorem dX10_readsNumber_130 : decode cX10_readsNumber 130 = .ok (.iconst 1, 1) := by decide +kernel
theorem dX10_readsNumber_131 : decode cX10_readsNumber 131 = .ok (.goto 4, 3) := by decide +kernel
theorem dX10_readsNumber_134 : decode cX10_readsNumber 134 = .ok (.iconst 0, 1) := by decide +kernel
theorem dX10_readsNumber_135 : decode cX10_readsNumber 135 = .ok (.ireturn, 1) := by decide +kernel
set_option maxRecDepth 20000 in
theorem dX10_readsEnd_0 : decode cX10_readsEnd 0 = .ok (.aload_n 0, 1) := by decide +kernel
theorem dX10_readsEnd_1 : decode cX10_readsEnd 1 = .ok (.invokevirtual 81, 3) := by decide +kernel
theorem dX10_readsEnd_4 : decode cX10_readsEnd 4 = .ok (.aload_n 0, 1) := by decide +kernel
theorem dX10_readsEnd_5 : decode cX10_readsEnd 5 = .ok (.getfield 68, 3) := by decide +kernel
theorem dX10_readsEnd_8 : decode cX10_readsEnd 8 = .ok (.aload_n 0, 1) := by decide +kernel
theorem dX10_readsEnd_9 : decode cX10_readsEnd 9 = .ok (.getfield 64, 3) := by decide +kernel
theorem dX10_readsEnd_12 : decode cX10_readsEnd 12 = .ok (.if_icmp .eq 17, 3) := by decide +kernel
theorem dX10_readsEnd_15 : decode cX10_readsEnd 15 = .ok (.aload_n 0, 1) := by decide +kernel
theorem dX10_readsEnd_16 : decode cX10_readsEnd 16 = .ok (.getfield 23, 3) := by decide +kernel
theorem dX10_readsEnd_19 : decode cX10_readsEnd 19 = .ok (.aload_n 0, 1) := by decide +kernel
theorem dX10_readsEnd_20 : decode cX10_readsEnd 20 = .ok (.getfield 68, 3) := by decide +kernel
theorem dX10_readsEnd_23 : decode cX10_readsEnd 23 = .ok (.iaload, 1) := by decide +kernel
theorem dX10_readsEnd_24 : decode cX10_readsEnd 24 = .ok (.bipush 59, 2) := by decide +kernel
theorem dX10_readsEnd_26 : decode cX10_readsEnd 26 = .ok (.if_icmp .eq 13, 3) := by decide +kernel
theorem dX10_readsEnd_29 : decode cX10_readsEnd 29 = .ok (.aload_n 0, 1) := by decide +kernel
theorem dX10_readsEnd_30 : decode cX10_readsEnd 30 = .ok (.iconst 1, 1) := by decide +kernel
theorem dX10_readsEnd_31 : decode cX10_readsEnd 31 = .ok (.aload_n 0, 1) := by decide +kernel
theorem dX10_readsEnd_32 : decode cX10_readsEnd 32 = .ok (.getfield 68, 3) := by decide +kernel
theorem dX10_readsEnd_35 : decode cX10_readsEnd 35 = .ok (.invokevirtual 88, 3) := by decide +kernel
theorem dX10_readsEnd_38 : decode cX10_readsEnd 38 = .ok (.ireturn, 1) := by decide +kernel
theorem dX10_readsEnd_39 : decode cX10_readsEnd 39 = .ok (.aload_n 0, 1) := by decide +kernel
theorem dX10_readsEnd_40 : decode cX10_readsEnd 40 = .ok (.dup, 1) := by decide +kernel
theorem dX10_readsEnd_41 : decode cX10_readsEnd 41 = .ok (.getfield 68, 3) := by decide +kernel
theorem dX10_readsEnd_44 : decode cX10_readsEnd 44 = .ok (.iconst 1, 1) := by decide +kernel
theorem dX10_readsEnd_45 : decode cX10_readsEnd 45 = .ok (.iadd, 1) := by decide +kernel
theorem dX10_readsEnd_46 : decode cX10_readsEnd 46 = .ok (.putfield 68, 3) := by decide +kernel
theorem dX10_readsEnd_49 : decode cX10_readsEnd 49 = .ok (.iconst 1, 1) := by decide +kernel
theorem dX10_readsEnd_50 : decode cX10_readsEnd 50 = .ok (.ireturn, 1) := by decide +kernel
set_option maxRecDepth 20000 in
theorem dX10_readsDriver_0 : decode cX10_readsDriver 0 = .ok (.aload_n 0, 1) := by decide +kernel
theorem dX10_readsDriver_1 : decode cX10_readsDriver 1 = .ok (.iconst 0, 1) := by decide +kernel
theorem dX10_readsDriver_2 : decode cX10_readsDriver 2 = .ok (.bipush 99, 2) := by decide +kernel
theorem dX10_readsDriver_4 : decode cX10_readsDriver 4 = .ok (.invokevirtual 95, 3) := by decide +kernel
theorem dX10_readsDriver_7 : decode cX10_readsDriver 7 = .ok (.ifCond .ne 5, 3) := by decide +kernel
theorem dX10_readsDriver_10 : decode cX10_readsDriver 10 = .ok (.iconst 0, 1) := by decide +kernel
theorem dX10_readsDriver_11 : decode cX10_readsDriver 11 = .ok (.ireturn, 1) := by decide +kernel
theorem dX10_readsDriver_12 : decode cX10_readsDriver 12 = .ok (.aload_n 0, 1) := by decide +kernel
theorem dX10_readsDriver_13 : decode cX10_readsDriver 13 = .ok (.getfield 7, 3) := by decide +kernel
theorem dX10_readsDriver_16 : decode cX10_readsDriver 16 = .ok (.sipush 4229, 3) := by decide +kernel
theorem dX10_readsDriver_19 : decode cX10_readsDriver 19 = .ok (.aload_n 0, 1) := by decide +kernel
theorem dX10_readsDriver_20 : decode cX10_readsDriver 20 = .ok (.getfield 92, 3) := by decide +kernel
theorem dX10_readsDriver_23 : decode cX10_readsDriver 23 = .ok (.iastore, 1) := by decide +kernel
theorem dX10_readsDriver_24 : decode cX10_readsDriver 24 = .ok (.aload_n 0, 1) := by decide +kernel
theorem dX10_readsDriver_25 : decode cX10_readsDriver 25 = .ok (.iconst 1, 1) := by decide +kernel
theorem dX10_readsDriver_26 : decode cX10_readsDriver 26 = .ok (.bipush 99, 2) := by decide +kernel
theorem dX10_readsDriver_28 : decode cX10_readsDriver 28 = .ok (.invokevirtual 95, 3) := by decide +kernel
theorem dX10_readsDriver_31 : decode cX10_readsDriver 31 = .ok (.ifCond .ne 5, 3) := by decide +kernel
theorem dX10_readsDriver_34 : decode cX10_readsDriver 34 = .ok (.iconst 0, 1) := by decide +kernel
theorem dX10_readsDriver_35 : decode cX10_readsDriver 35 = .ok (.ireturn, 1) := by decide +kernel
theorem dX10_readsDriver_36 : decode cX10_readsDriver 36 = .ok (.aload_n 0, 1) := by decide +kernel
theorem dX10_readsDriver_37 : decode cX10_readsDriver 37 = .ok (.getfield 7, 3) := by decide +kernel
theorem dX10_readsDriver_40 : decode cX10_readsDriver 40 = .ok (.sipush 4231, 3) := by decide +kernel
theorem dX10_readsDriver_43 : decode cX10_readsDriver 43 = .ok (.aload_n 0, 1) := by decide +kernel
theorem dX10_readsDriver_44 : decode cX10_readsDriver 44 = .ok (.getfield 92, 3) := by decide +kernel
theorem dX10_readsDriver_47 : decode cX10_readsDriver 47 = .ok (.iastore, 1) := by decide +kernel
theorem dX10_readsDriver_48 : decode cX10_readsDriver 48 = .ok (.aload_n 0, 1) := by decide +kernel
theorem dX10_readsDriver_49 : decode cX10_readsDriver 49 = .ok (.invokevirtual 98, 3) := by decide +kernel
theorem dX10_readsDriver_52 : decode cX10_readsDriver 52 = .ok (.ireturn, 1) := by decide +kernel
set_option maxRecDepth 20000 in
theorem dX10_readsPiece_0 : decode cX10_readsPiece 0 = .ok (.aload_n 0, 1) := by decide +kernel
theorem dX10_readsPiece_1 : decode cX10_readsPiece 1 = .ok (.getfield 7, 3) := by decide +kernel
theorem dX10_readsPiece_4 : decode cX10_readsPiece 4 = .ok (.sipush 4232, 3) := by decide +kernel
theorem dX10_readsPiece_7 : decode cX10_readsPiece 7 = .ok (.iaload, 1) := by decide +kernel
theorem dX10_readsPiece_8 : decode cX10_readsPiece 8 = .ok (.istore_n 1, 1) := by decide +kernel
theorem dX10_readsPiece_9 : decode cX10_readsPiece 9 = .ok (.iload_n 1, 1) := by decide +kernel
theorem dX10_readsPiece_10 : decode cX10_readsPiece 10 = .ok (.bipush 8, 2) := by decide +kernel
theorem dX10_readsPiece_12 : decode cX10_readsPiece 12 = .ok (.if_icmp .ne 15, 3) := by decide +kernel
theorem dX10_readsPiece_15 : decode cX10_readsPiece 15 = .ok (.aload_n 0, 1) := by decide +kernel
theorem dX10_readsPiece_16 : decode cX10_readsPiece 16 = .ok (.iconst 3, 1) := by decide +kernel
theorem dX10_readsPiece_17 : decode cX10_readsPiece 17 = .ok (.aload_n 0, 1) := by decide +kernel
theorem dX10_readsPiece_18 : decode cX10_readsPiece 18 = .ok (.getfield 68, 3) := by decide +kernel
theorem dX10_readsPiece_21 : decode cX10_readsPiece 21 = .ok (.iconst 1, 1) := by decide +kernel
theorem dX10_readsPiece_22 : decode cX10_readsPiece 22 = .ok (.isub, 1) := by decide +kernel
theorem dX10_readsPiece_23 : decode cX10_readsPiece 23 = .ok (.invokevirtual 88, 3) := by decide +kernel
theorem dX10_readsPiece_26 : decode cX10_readsPiece 26 = .ok (.ireturn, 1) := by decide +kernel
theorem dX10_readsPiece_27 : decode cX10_readsPiece 27 = .ok (.aload_n 0, 1) := by decide +kernel
theorem dX10_readsPiece_28 : decode cX10_readsPiece 28 = .ok (.iconst 1, 1) := by decide +kernel
theorem dX10_readsPiece_29 : decode cX10_readsPiece 29 = .ok (.bipush 99, 2) := by decide +kernel
theorem dX10_readsPiece_31 : decode cX10_readsPiece 31 = .ok (.invokevirtual 95, 3) := by decide +kernel
theorem dX10_readsPiece_34 : decode cX10_readsPiece 34 = .ok (.ifCond .ne 5, 3) := by decide +kernel
theorem dX10_readsPiece_37 : decode cX10_readsPiece 37 = .ok (.iconst 0, 1) := by decide +kernel
theorem dX10_readsPiece_38 : decode cX10_readsPiece 38 = .ok (.ireturn, 1) := by decide +kernel
theorem dX10_readsPiece_39 : decode cX10_readsPiece 39 = .ok (.aload_n 0, 1) := by decide +kernel
theorem dX10_readsPiece_40 : decode cX10_readsPiece 40 = .ok (.getfield 7, 3) := by decide +kernel
theorem dX10_readsPiece_43 : decode cX10_readsPiece 43 = .ok (.sipush 4219, 3) := by decide +kernel
theorem dX10_readsPiece_46 : decode cX10_readsPiece 46 = .ok (.iload_n 1, 1) := by decide +kernel
theorem dX10_readsPiece_47 : decode cX10_readsPiece 47 = .ok (.iadd, 1) := by decide +kernel
theorem dX10_readsPiece_48 : decode cX10_readsPiece 48 = .ok (.aload_n 0, 1) := by decide +kernel
theorem dX10_readsPiece_49 : decode cX10_readsPiece 49 = .ok (.getfield 92, 3) := by decide +kernel
theorem dX10_readsPiece_52 : decode cX10_readsPiece 52 = .ok (.iastore, 1) := by decide +kernel
theorem dX10_readsPiece_53 : decode cX10_readsPiece 53 = .ok (.aload_n 0, 1) := by decide +kernel
theorem dX10_readsPiece_54 : decode cX10_readsPiece 54 = .ok (.iconst 1, 1) := by decide +kernel
theorem dX10_readsPiece_55 : decode cX10_readsPiece 55 = .ok (.bipush 9, 2) := by decide +kernel
theorem dX10_readsPiece_57 : decode cX10_readsPiece 57 = .ok (.invokevirtual 95, 3) := by decide +kernel
theorem dX10_readsPiece_60 : decode cX10_readsPiece 60 = .ok (.ifCond .ne 5, 3) := by decide +kernel
theorem dX10_readsPiece_63 : decode cX10_readsPiece 63 = .ok (.iconst 0, 1) := by decide +kernel
theorem dX10_readsPiece_64 : decode cX10_readsPiece 64 = .ok (.ireturn, 1) := by decide +kernel
theorem dX10_readsPiece_65 : decode cX10_readsPiece 65 = .ok (.aload_n 0, 1) := by decide +kernel
theorem dX10_readsPiece_66 : decode cX10_readsPiece 66 = .ok (.getfield 7, 3) := by decide +kernel
theorem dX10_readsPiece_69 : decode cX10_readsPiece 69 = .ok (.sipush 4233, 3) := by decide +kernel
theorem dX10_readsPiece_72 : decode cX10_readsPiece 72 = .ok (.iload_n 1, 1) := by decide +kernel
theorem dX10_readsPiece_73 : decode cX10_readsPiece 73 = .ok (.iadd, 1) := by decide +kernel
theorem dX10_readsPiece_74 : decode cX10_readsPiece 74 = .ok (.aload_n 0, 1) := by decide +kernel
theorem dX10_readsPiece_75 : decode cX10_readsPiece 75 = .ok (.getfield 92, 3) := by decide +kernel
theorem dX10_readsPiece_78 : decode cX10_readsPiece 78 = .ok (.iastore, 1) := by decide +kernel
theorem dX10_readsPiece_79 : decode cX10_readsPiece 79 = .ok (.aload_n 0, 1) := by decide +kernel
theorem dX10_readsPiece_80 : decode cX10_readsPiece 80 = .ok (.getfield 7, 3) := by decide +kernel
theorem dX10_readsPiece_83 : decode cX10_readsPiece 83 = .ok (.sipush 4241, 3) := by decide +kernel
theorem dX10_readsPiece_86 : decode cX10_readsPiece 86 = .ok (.dup2, 1) := by decide +kernel
theorem dX10_readsPiece_87 : decode cX10_readsPiece 87 = .ok (.iaload, 1) := by decide +kernel
theorem dX10_readsPiece_88 : decode cX10_readsPiece 88 = .ok (.aload_n 0, 1) := by decide +kernel
theorem dX10_readsPiece_89 : decode cX10_readsPiece 89 = .ok (.getfield 92, 3) := by decide +kernel
theorem dX10_readsPiece_92 : decode cX10_readsPiece 92 = .ok (.iadd, 1) := by decide +kernel
theorem dX10_readsPiece_93 : decode cX10_readsPiece 93 = .ok (.iastore, 1) := by decide +kernel
theorem dX10_readsPiece_94 : decode cX10_readsPiece 94 = .ok (.aload_n 0, 1) := by decide +kernel
theorem dX10_readsPiece_95 : decode cX10_readsPiece 95 = .ok (.getfield 7, 3) := by decide +kernel
theorem dX10_readsPiece_98 : decode cX10_readsPiece 98 = .ok (.sipush 4232, 3) := by decide +kernel
theorem dX10_readsPiece_101 : decode cX10_readsPiece 101 = .ok (.dup2, 1) := by decide +kernel
theorem dX10_readsPiece_102 : decode cX10_readsPiece 102 = .ok (.iaload, 1) := by decide +kernel
theorem dX10_readsPiece_103 : decode cX10_readsPiece 103 = .ok (.iconst 1, 1) := by decide +kernel
theorem dX10_readsPiece_104 : decode cX10_readsPiece 104 = .ok (.iadd, 1) := by decide +kernel
theorem dX10_readsPiece_105 : decode cX10_readsPiece 105 = .ok (.iastore, 1) := by decide +kernel
theorem dX10_readsPiece_106 : decode cX10_readsPiece 106 = .ok (.aload_n 0, 1) := by decide +kernel
theorem dX10_readsPiece_107 : decode cX10_readsPiece 107 = .ok (.invokevirtual 98, 3) := by decide +kernel
theorem dX10_readsPiece_110 : decode cX10_readsPiece 110 = .ok (.ireturn, 1) := by decide +kernel
set_option maxRecDepth 20000 in
theorem dX10_readsTheEnd_0 : decode cX10_readsTheEnd 0 = .ok (.aload_n 0, 1) := by decide +kernel
theorem dX10_readsTheEnd_1 : decode cX10_readsTheEnd 1 = .ok (.getfield 102, 3) := by decide +kernel
theorem dX10_readsTheEnd_4 : decode cX10_readsTheEnd 4 = .ok (.ifCond .eq 15, 3) := by decide +kernel
theorem dX10_readsTheEnd_7 : decode cX10_readsTheEnd 7 = .ok (.aload_n 0, 1) := by decide +kernel
theorem dX10_readsTheEnd_8 : decode cX10_readsTheEnd 8 = .ok (.iconst 3, 1) := by decide +kernel
theorem dX10_readsTheEnd_9 : decode cX10_readsTheEnd 9 = .ok (.aload_n 0, 1) := by decide +kernel
theorem dX10_readsTheEnd_10 : decode cX10_readsTheEnd 10 = .ok (.getfield 68, 3) := by decide +kernel
theorem dX10_readsTheEnd_13 : decode cX10_readsTheEnd 13 = .ok (.iconst 1, 1) := by decide +kernel
theorem dX10_readsTheEnd_14 : decode cX10_readsTheEnd 14 = .ok (.isub, 1) := by decide +kernel
theorem dX10_readsTheEnd_15 : decode cX10_readsTheEnd 15 = .ok (.invokevirtual 88, 3) := by decide +kernel
theorem dX10_readsTheEnd_18 : decode cX10_readsTheEnd 18 = .ok (.ireturn, 1) := by decide +kernel
theorem dX10_readsTheEnd_19 : decode cX10_readsTheEnd 19 = .ok (.aload_n 0, 1) := by decide +kernel
theorem dX10_readsTheEnd_20 : decode cX10_readsTheEnd 20 = .ok (.iconst 1, 1) := by decide +kernel
theorem dX10_readsTheEnd_21 : decode cX10_readsTheEnd 21 = .ok (.putfield 102, 3) := by decide +kernel
theorem dX10_readsTheEnd_24 : decode cX10_readsTheEnd 24 = .ok (.aload_n 0, 1) := by decide +kernel
theorem dX10_readsTheEnd_25 : decode cX10_readsTheEnd 25 = .ok (.iconst 0, 1) := by decide +kernel
theorem dX10_readsTheEnd_26 : decode cX10_readsTheEnd 26 = .ok (.iconst 2, 1) := by decide +kernel
theorem dX10_readsTheEnd_27 : decode cX10_readsTheEnd 27 = .ok (.invokevirtual 95, 3) := by decide +kernel
theorem dX10_readsTheEnd_30 : decode cX10_readsTheEnd 30 = .ok (.ifCond .ne 5, 3) := by decide +kernel
theorem dX10_readsTheEnd_33 : decode cX10_readsTheEnd 33 = .ok (.iconst 0, 1) := by decide +kernel
theorem dX10_readsTheEnd_34 : decode cX10_readsTheEnd 34 = .ok (.ireturn, 1) := by decide +kernel
theorem dX10_readsTheEnd_35 : decode cX10_readsTheEnd 35 = .ok (.aload_n 0, 1) := by decide +kernel
theorem dX10_readsTheEnd_36 : decode cX10_readsTheEnd 36 = .ok (.getfield 7, 3) := by decide +kernel
theorem dX10_readsTheEnd_39 : decode cX10_readsTheEnd 39 = .ok (.sipush 4227, 3) := by decide +kernel
theorem dX10_readsTheEnd_42 : decode cX10_readsTheEnd 42 = .ok (.aload_n 0, 1) := by decide +kernel
theorem dX10_readsTheEnd_43 : decode cX10_readsTheEnd 43 = .ok (.getfield 92, 3) := by decide +kernel
theorem dX10_readsTheEnd_46 : decode cX10_readsTheEnd 46 = .ok (.iastore, 1) := by decide +kernel
theorem dX10_readsTheEnd_47 : decode cX10_readsTheEnd 47 = .ok (.aload_n 0, 1) := by decide +kernel
theorem dX10_readsTheEnd_48 : decode cX10_readsTheEnd 48 = .ok (.iconst 1, 1) := by decide +kernel
theorem dX10_readsTheEnd_49 : decode cX10_readsTheEnd 49 = .ok (.bipush 99, 2) := by decide +kernel
theorem dX10_readsTheEnd_51 : decode cX10_readsTheEnd 51 = .ok (.invokevirtual 95, 3) := by decide +kernel
theorem dX10_readsTheEnd_54 : decode cX10_readsTheEnd 54 = .ok (.ifCond .ne 5, 3) := by decide +kernel
theorem dX10_readsTheEnd_57 : decode cX10_readsTheEnd 57 = .ok (.iconst 0, 1) := by decide +kernel
theorem dX10_readsTheEnd_58 : decode cX10_readsTheEnd 58 = .ok (.ireturn, 1) := by decide +kernel
theorem dX10_readsTheEnd_59 : decode cX10_readsTheEnd 59 = .ok (.aload_n 0, 1) := by decide +kernel
theorem dX10_readsTheEnd_60 : decode cX10_readsTheEnd 60 = .ok (.getfield 7, 3) := by decide +kernel
theorem dX10_readsTheEnd_63 : decode cX10_readsTheEnd 63 = .ok (.sipush 4228, 3) := by decide +kernel
theorem dX10_readsTheEnd_66 : decode cX10_readsTheEnd 66 = .ok (.aload_n 0, 1) := by decide +kernel
theorem dX10_readsTheEnd_67 : decode cX10_readsTheEnd 67 = .ok (.getfield 92, 3) := by decide +kernel
theorem dX10_readsTheEnd_70 : decode cX10_readsTheEnd 70 = .ok (.iastore, 1) := by decide +kernel
theorem dX10_readsTheEnd_71 : decode cX10_readsTheEnd 71 = .ok (.aload_n 0, 1) := by decide +kernel
theorem dX10_readsTheEnd_72 : decode cX10_readsTheEnd 72 = .ok (.invokevirtual 98, 3) := by decide +kernel
theorem dX10_readsTheEnd_75 : decode cX10_readsTheEnd 75 = .ok (.ireturn, 1) := by decide +kernel
set_option maxRecDepth 20000 in
theorem dX10_readsGate_0 : decode cX10_readsGate 0 = .ok (.aload_n 0, 1) := by decide +kernel
theorem dX10_readsGate_1 : decode cX10_readsGate 1 = .ok (.getfield 7, 3) := by decide +kernel
theorem dX10_readsGate_4 : decode cX10_readsGate 4 = .ok (.sipush 4242, 3) := by decide +kernel
theorem dX10_readsGate_7 : decode cX10_readsGate 7 = .ok (.iaload, 1) := by decide +kernel
theorem dX10_readsGate_8 : decode cX10_readsGate 8 = .ok (.istore_n 1, 1) := by decide +kernel
theorem dX10_readsGate_9 : decode cX10_readsGate 9 = .ok (.iload_n 1, 1) := by decide +kernel
theorem dX10_readsGate_10 : decode cX10_readsGate 10 = .ok (.bipush 6, 2) := by decide +kernel
theorem dX10_readsGate_12 : decode cX10_readsGate 12 = .ok (.if_icmp .ne 15, 3) := by decide +kernel
theorem dX10_readsGate_15 : decode cX10_readsGate 15 = .ok (.aload_n 0, 1) := by decide +kernel
theorem dX10_readsGate_16 : decode cX10_readsGate 16 = .ok (.iconst 3, 1) := by decide +kernel
theorem dX10_readsGate_17 : decode cX10_readsGate 17 = .ok (.aload_n 0, 1) := by decide +kernel
theorem dX10_readsGate_18 : decode cX10_readsGate 18 = .ok (.getfield 68, 3) := by decide +kernel
theorem dX10_readsGate_21 : decode cX10_readsGate 21 = .ok (.iconst 1, 1) := by decide +kernel
theorem dX10_readsGate_22 : decode cX10_readsGate 22 = .ok (.isub, 1) := by decide +kernel
theorem dX10_readsGate_23 : decode cX10_readsGate 23 = .ok (.invokevirtual 88, 3) := by decide +kernel
theorem dX10_readsGate_26 : decode cX10_readsGate 26 = .ok (.ireturn, 1) := by decide +kernel
theorem dX10_readsGate_27 : decode cX10_readsGate 27 = .ok (.aload_n 0, 1) := by decide +kernel
theorem dX10_readsGate_28 : decode cX10_readsGate 28 = .ok (.iconst 0, 1) := by decide +kernel
theorem dX10_readsGate_29 : decode cX10_readsGate 29 = .ok (.iconst 3, 1) := by decide +kernel
theorem dX10_readsGate_30 : decode cX10_readsGate 30 = .ok (.invokevirtual 95, 3) := by decide +kernel
theorem dX10_readsGate_33 : decode cX10_readsGate 33 = .ok (.ifCond .ne 5, 3) := by decide +kernel
theorem dX10_readsGate_36 : decode cX10_readsGate 36 = .ok (.iconst 0, 1) := by decide +kernel
theorem dX10_readsGate_37 : decode cX10_readsGate 37 = .ok (.ireturn, 1) := by decide +kernel
theorem dX10_readsGate_38 : decode cX10_readsGate 38 = .ok (.aload_n 0, 1) := by decide +kernel
theorem dX10_readsGate_39 : decode cX10_readsGate 39 = .ok (.getfield 7, 3) := by decide +kernel
theorem dX10_readsGate_42 : decode cX10_readsGate 42 = .ok (.sipush 4243, 3) := by decide +kernel
theorem dX10_readsGate_45 : decode cX10_readsGate 45 = .ok (.iconst 3, 1) := by decide +kernel
theorem dX10_readsGate_46 : decode cX10_readsGate 46 = .ok (.iload_n 1, 1) := by decide +kernel
theorem dX10_readsGate_47 : decode cX10_readsGate 47 = .ok (.imul, 1) := by decide +kernel
theorem dX10_readsGate_48 : decode cX10_readsGate 48 = .ok (.iadd, 1) := by decide +kernel
theorem dX10_readsGate_49 : decode cX10_readsGate 49 = .ok (.aload_n 0, 1) := by decide +kernel
theorem dX10_readsGate_50 : decode cX10_readsGate 50 = .ok (.getfield 92, 3) := by decide +kernel
theorem dX10_readsGate_53 : decode cX10_readsGate 53 = .ok (.iastore, 1) := by decide +kernel
theorem dX10_readsGate_54 : decode cX10_readsGate 54 = .ok (.aload_n 0, 1) := by decide +kernel
theorem dX10_readsGate_55 : decode cX10_readsGate 55 = .ok (.iconst 0, 1) := by decide +kernel
theorem dX10_readsGate_56 : decode cX10_readsGate 56 = .ok (.bipush 71, 2) := by decide +kernel
theorem dX10_readsGate_58 : decode cX10_readsGate 58 = .ok (.invokevirtual 95, 3) := by decide +kernel
theorem dX10_readsGate_61 : decode cX10_readsGate 61 = .ok (.ifCond .ne 5, 3) := by decide +kernel
theorem dX10_readsGate_64 : decode cX10_readsGate 64 = .ok (.iconst 0, 1) := by decide +kernel
theorem dX10_readsGate_65 : decode cX10_readsGate 65 = .ok (.ireturn, 1) := by decide +kernel
theorem dX10_readsGate_66 : decode cX10_readsGate 66 = .ok (.aload_n 0, 1) := by decide +kernel
theorem dX10_readsGate_67 : decode cX10_readsGate 67 = .ok (.getfield 7, 3) := by decide +kernel
theorem dX10_readsGate_70 : decode cX10_readsGate 70 = .ok (.sipush 4243, 3) := by decide +kernel
theorem dX10_readsGate_73 : decode cX10_readsGate 73 = .ok (.iconst 3, 1) := by decide +kernel
theorem dX10_readsGate_74 : decode cX10_readsGate 74 = .ok (.iload_n 1, 1) := by decide +kernel
theorem dX10_readsGate_75 : decode cX10_readsGate 75 = .ok (.imul, 1) := by decide +kernel
theorem dX10_readsGate_76 : decode cX10_readsGate 76 = .ok (.iadd, 1) := by decide +kernel
theorem dX10_readsGate_77 : decode cX10_readsGate 77 = .ok (.iconst 1, 1) := by decide +kernel
theorem dX10_readsGate_78 : decode cX10_readsGate 78 = .ok (.iadd, 1) := by decide +kernel
theorem dX10_readsGate_79 : decode cX10_readsGate 79 = .ok (.aload_n 0, 1) := by decide +kernel
theorem dX10_readsGate_80 : decode cX10_readsGate 80 = .ok (.getfield 92, 3) := by decide +kernel
theorem dX10_readsGate_83 : decode cX10_readsGate 83 = .ok (.iastore, 1) := by decide +kernel
theorem dX10_readsGate_84 : decode cX10_readsGate 84 = .ok (.aload_n 0, 1) := by decide +kernel
theorem dX10_readsGate_85 : decode cX10_readsGate 85 = .ok (.iconst 1, 1) := by decide +kernel
theorem dX10_readsGate_86 : decode cX10_readsGate 86 = .ok (.bipush 99, 2) := by decide +kernel
theorem dX10_readsGate_88 : decode cX10_readsGate 88 = .ok (.invokevirtual 95, 3) := by decide +kernel
theorem dX10_readsGate_91 : decode cX10_readsGate 91 = .ok (.ifCond .ne 5, 3) := by decide +kernel
theorem dX10_readsGate_94 : decode cX10_readsGate 94 = .ok (.iconst 0, 1) := by decide +kernel
theorem dX10_readsGate_95 : decode cX10_readsGate 95 = .ok (.ireturn, 1) := by decide +kernel
theorem dX10_readsGate_96 : decode cX10_readsGate 96 = .ok (.aload_n 0, 1) := by decide +kernel
theorem dX10_readsGate_97 : decode cX10_readsGate 97 = .ok (.getfield 7, 3) := by decide +kernel
theorem dX10_readsGate_100 : decode cX10_readsGate 100 = .ok (.sipush 4243, 3) := by decide +kernel
theorem dX10_readsGate_103 : decode cX10_readsGate 103 = .ok (.iconst 3, 1) := by decide +kernel
theorem dX10_readsGate_104 : decode cX10_readsGate 104 = .ok (.iload_n 1, 1) := by decide +kernel
theorem dX10_readsGate_105 : decode cX10_readsGate 105 = .ok (.imul, 1) := by decide +kernel
theorem dX10_readsGate_106 : decode cX10_readsGate 106 = .ok (.iadd, 1) := by decide +kernel
theorem dX10_readsGate_107 : decode cX10_readsGate 107 = .ok (.iconst 2, 1) := by decide +kernel
theorem dX10_readsGate_108 : decode cX10_readsGate 108 = .ok (.iadd, 1) := by decide +kernel
theorem dX10_readsGate_109 : decode cX10_readsGate 109 = .ok (.aload_n 0, 1) := by decide +kernel
theorem dX10_readsGate_110 : decode cX10_readsGate 110 = .ok (.getfield 92, 3) := by decide +kernel
theorem dX10_readsGate_113 : decode cX10_readsGate 113 = .ok (.iastore, 1) := by decide +kernel
theorem dX10_readsGate_114 : decode cX10_readsGate 114 = .ok (.aload_n 0, 1) := by decide +kernel
theorem dX10_readsGate_115 : decode cX10_readsGate 115 = .ok (.getfield 7, 3) := by decide +kernel
theorem dX10_readsGate_118 : decode cX10_readsGate 118 = .ok (.sipush 4242, 3) := by decide +kernel
theorem dX10_readsGate_121 : decode cX10_readsGate 121 = .ok (.dup2, 1) := by decide +kernel
theorem dX10_readsGate_122 : decode cX10_readsGate 122 = .ok (.iaload, 1) := by decide +kernel
theorem dX10_readsGate_123 : decode cX10_readsGate 123 = .ok (.iconst 1, 1) := by decide +kernel
theorem dX10_readsGate_124 : decode cX10_readsGate 124 = .ok (.iadd, 1) := by decide +kernel
theorem dX10_readsGate_125 : decode cX10_readsGate 125 = .ok (.iastore, 1) := by decide +kernel
theorem dX10_readsGate_126 : decode cX10_readsGate 126 = .ok (.aload_n 0, 1) := by decide +kernel
theorem dX10_readsGate_127 : decode cX10_readsGate 127 = .ok (.invokevirtual 98, 3) := by decide +kernel
theorem dX10_readsGate_130 : decode cX10_readsGate 130 = .ok (.ireturn, 1) := by decide +kernel
set_option maxRecDepth 20000 in
theorem dX10_readsClause_0 : decode cX10_readsClause 0 = .ok (.aload_n 0, 1) := by decide +kernel
theorem dX10_readsClause_1 : decode cX10_readsClause 1 = .ok (.getfield 68, 3) := by decide +kernel
theorem dX10_readsClause_4 : decode cX10_readsClause 4 = .ok (.aload_n 0, 1) := by decide +kernel
theorem dX10_readsClause_5 : decode cX10_readsClause 5 = .ok (.getfield 64, 3) := by decide +kernel
theorem dX10_readsClause_8 : decode cX10_readsClause 8 = .ok (.if_icmp .ge 15, 3) := by decide +kernel
theorem dX10_readsClause_11 : decode cX10_readsClause 11 = .ok (.aload_n 0, 1) := by decide +kernel
theorem dX10_readsClause_12 : decode cX10_readsClause 12 = .ok (.getfield 23, 3) := by decide +kernel
theorem dX10_readsClause_15 : decode cX10_readsClause 15 = .ok (.aload_n 0, 1) := by decide +kernel
theorem dX10_readsClause_16 : decode cX10_readsClause 16 = .ok (.getfield 68, 3) := by decide +kernel
theorem dX10_readsClause_19 : decode cX10_readsClause 19 = .ok (.iaload, 1) := by decide +kernel
theorem dX10_readsClause_20 : decode cX10_readsClause 20 = .ok (.goto 4, 3) := by decide +kernel
theorem dX10_readsClause_23 : decode cX10_readsClause 23 = .ok (.iconst 0, 1) := by decide +kernel
theorem dX10_readsClause_24 : decode cX10_readsClause 24 = .ok (.istore_n 1, 1) := by decide +kernel
theorem dX10_readsClause_25 : decode cX10_readsClause 25 = .ok (.aload_n 0, 1) := by decide +kernel
theorem dX10_readsClause_26 : decode cX10_readsClause 26 = .ok (.getfield 7, 3) := by decide +kernel
theorem dX10_readsClause_29 : decode cX10_readsClause 29 = .ok (.sipush 4230, 3) := by decide +kernel
theorem dX10_readsClause_32 : decode cX10_readsClause 32 = .ok (.iaload, 1) := by decide +kernel
theorem dX10_readsClause_33 : decode cX10_readsClause 33 = .ok (.ifCond .ne 7, 3) := by decide +kernel
theorem dX10_readsClause_36 : decode cX10_readsClause 36 = .ok (.iconst 1, 1) := by decide +kernel
theorem dX10_readsClause_37 : decode cX10_readsClause 37 = .ok (.goto 4, 3) := by decide +kernel
theorem dX10_readsClause_40 : decode cX10_readsClause 40 = .ok (.iconst 0, 1) := by decide +kernel
theorem dX10_readsClause_41 : decode cX10_readsClause 41 = .ok (.istore_n 2, 1) := by decide +kernel
theorem dX10_readsClause_42 : decode cX10_readsClause 42 = .ok (.iload_n 1, 1) := by decide +kernel
theorem dX10_readsClause_43 : decode cX10_readsClause 43 = .ok (.bipush 100, 2) := by decide +kernel
theorem dX10_readsClause_45 : decode cX10_readsClause 45 = .ok (.if_icmp .eq 21, 3) := by decide +kernel
theorem dX10_readsClause_48 : decode cX10_readsClause 48 = .ok (.iload_n 1, 1) := by decide +kernel
theorem dX10_readsClause_49 : decode cX10_readsClause 49 = .ok (.bipush 112, 2) := by decide +kernel
theorem dX10_readsClause_51 : decode cX10_readsClause 51 = .ok (.if_icmp .eq 15, 3) := by decide +kernel
theorem dX10_readsClause_54 : decode cX10_readsClause 54 = .ok (.iload_n 1, 1) := by decide +kernel
theorem dX10_readsClause_55 : decode cX10_readsClause 55 = .ok (.bipush 101, 2) := by decide +kernel
theorem dX10_readsClause_57 : decode cX10_readsClause 57 = .ok (.if_icmp .eq 9, 3) := by decide +kernel
theorem dX10_readsClause_60 : decode cX10_readsClause 60 = .ok (.iload_n 1, 1) := by decide +kernel
theorem dX10_readsClause_61 : decode cX10_readsClause 61 = .ok (.bipush 103, 2) := by decide +kernel
theorem dX10_readsClause_63 : decode cX10_readsClause 63 = .ok (.if_icmp .ne 13, 3) := by decide +kernel
theorem dX10_readsClause_66 : decode cX10_readsClause 66 = .ok (.iload_n 2, 1) := by decide +kernel
theorem dX10_readsClause_67 : decode cX10_readsClause 67 = .ok (.ifCond .eq 19, 3) := by decide +kernel
theorem dX10_readsClause_70 : decode cX10_readsClause 70 = .ok (.iload_n 1, 1) := by decide +kernel
theorem dX10_readsClause_71 : decode cX10_readsClause 71 = .ok (.bipush 100, 2) := by decide +kernel
theorem dX10_readsClause_73 : decode cX10_readsClause 73 = .ok (.if_icmp .eq 13, 3) := by decide +kernel
theorem dX10_readsClause_76 : decode cX10_readsClause 76 = .ok (.aload_n 0, 1) := by decide +kernel
theorem dX10_readsClause_77 : decode cX10_readsClause 77 = .ok (.iconst 1, 1) := by decide +kernel
theorem dX10_readsClause_78 : decode cX10_readsClause 78 = .ok (.aload_n 0, 1) := by decide +kernel
theorem dX10_readsClause_79 : decode cX10_readsClause 79 = .ok (.getfield 68, 3) := by decide +kernel
theorem dX10_readsClause_82 : decode cX10_readsClause 82 = .ok (.invokevirtual 88, 3) := by decide +kernel
theorem dX10_readsClause_85 : decode cX10_readsClause 85 = .ok (.ireturn, 1) := by decide +kernel
theorem dX10_readsClause_86 : decode cX10_readsClause 86 = .ok (.aload_n 0, 1) := by decide +kernel
theorem dX10_readsClause_87 : decode cX10_readsClause 87 = .ok (.dup, 1) := by decide +kernel
theorem dX10_readsClause_88 : decode cX10_readsClause 88 = .ok (.getfield 68, 3) := by decide +kernel
theorem dX10_readsClause_91 : decode cX10_readsClause 91 = .ok (.iconst 1, 1) := by decide +kernel
theorem dX10_readsClause_92 : decode cX10_readsClause 92 = .ok (.iadd, 1) := by decide +kernel
theorem dX10_readsClause_93 : decode cX10_readsClause 93 = .ok (.putfield 68, 3) := by decide +kernel
theorem dX10_readsClause_96 : decode cX10_readsClause 96 = .ok (.aload_n 0, 1) := by decide +kernel
theorem dX10_readsClause_97 : decode cX10_readsClause 97 = .ok (.getfield 7, 3) := by decide +kernel
theorem dX10_readsClause_100 : decode cX10_readsClause 100 = .ok (.sipush 4230, 3) := by decide +kernel
theorem dX10_readsClause_103 : decode cX10_readsClause 103 = .ok (.iconst 1, 1) := by decide +kernel
theorem dX10_readsClause_104 : decode cX10_readsClause 104 = .ok (.iastore, 1) := by decide +kernel
theorem dX10_readsClause_105 : decode cX10_readsClause 105 = .ok (.iload_n 1, 1) := by decide +kernel
theorem dX10_readsClause_106 : decode cX10_readsClause 106 = .ok (.bipush 112, 2) := by decide +kernel
theorem dX10_readsClause_108 : decode cX10_readsClause 108 = .ok (.if_icmp .ne 10, 3) := by decide +kernel
theorem dX10_readsClause_111 : decode cX10_readsClause 111 = .ok (.aload_n 0, 1) := by decide +kernel
theorem dX10_readsClause_112 : decode cX10_readsClause 112 = .ok (.invokevirtual 106, 3) := by decide +kernel
theorem dX10_readsClause_115 : decode cX10_readsClause 115 = .ok (.goto 51, 3) := by decide +kernel
theorem dX10_readsClause_118 : decode cX10_readsClause 118 = .ok (.iload_n 1, 1) := by decide +kernel
theorem dX10_readsClause_119 : decode cX10_readsClause 119 = .ok (.bipush 101, 2) := by decide +kernel
theorem dX10_readsClause_121 : decode cX10_readsClause 121 = .ok (.if_icmp .ne 10, 3) := by decide +kernel
theorem dX10_readsClause_124 : decode cX10_readsClause 124 = .ok (.aload_n 0, 1) := by decide +kernel
theorem dX10_readsClause_125 : decode cX10_readsClause 125 = .ok (.invokevirtual 109, 3) := by decide +kernel
theorem dX10_readsClause_128 : decode cX10_readsClause 128 = .ok (.goto 38, 3) := by decide +kernel
theorem dX10_readsClause_131 : decode cX10_readsClause 131 = .ok (.iload_n 1, 1) := by decide +kernel
theorem dX10_readsClause_132 : decode cX10_readsClause 132 = .ok (.bipush 103, 2) := by decide +kernel
theorem dX10_readsClause_134 : decode cX10_readsClause 134 = .ok (.if_icmp .ne 10, 3) := by decide +kernel
theorem dX10_readsClause_137 : decode cX10_readsClause 137 = .ok (.aload_n 0, 1) := by decide +kernel
theorem dX10_readsClause_138 : decode cX10_readsClause 138 = .ok (.invokevirtual 112, 3) := by decide +kernel
theorem dX10_readsClause_141 : decode cX10_readsClause 141 = .ok (.goto 25, 3) := by decide +kernel
theorem dX10_readsClause_144 : decode cX10_readsClause 144 = .ok (.iload_n 2, 1) := by decide +kernel
theorem dX10_readsClause_145 : decode cX10_readsClause 145 = .ok (.ifCond .eq 10, 3) := by decide +kernel
theorem dX10_readsClause_148 : decode cX10_readsClause 148 = .ok (.aload_n 0, 1) := by decide +kernel
theorem dX10_readsClause_149 : decode cX10_readsClause 149 = .ok (.invokevirtual 115, 3) := by decide +kernel
theorem dX10_readsClause_152 : decode cX10_readsClause 152 = .ok (.goto 14, 3) := by decide +kernel
theorem dX10_readsClause_155 : decode cX10_readsClause 155 = .ok (.aload_n 0, 1) := by decide +kernel
theorem dX10_readsClause_156 : decode cX10_readsClause 156 = .ok (.iconst 3, 1) := by decide +kernel
theorem dX10_readsClause_157 : decode cX10_readsClause 157 = .ok (.aload_n 0, 1) := by decide +kernel
theorem dX10_readsClause_158 : decode cX10_readsClause 158 = .ok (.getfield 68, 3) := by decide +kernel
theorem dX10_readsClause_161 : decode cX10_readsClause 161 = .ok (.iconst 1, 1) := by decide +kernel
theorem dX10_readsClause_162 : decode cX10_readsClause 162 = .ok (.isub, 1) := by decide +kernel
theorem dX10_readsClause_163 : decode cX10_readsClause 163 = .ok (.invokevirtual 88, 3) := by decide +kernel
theorem dX10_readsClause_166 : decode cX10_readsClause 166 = .ok (.ireturn, 1) := by decide +kernel
set_option maxRecDepth 20000 in
theorem dX10_reads_0 : decode cX10_reads 0 = .ok (.iconst 0, 1) := by decide +kernel
theorem dX10_reads_1 : decode cX10_reads 1 = .ok (.istore_n 1, 1) := by decide +kernel
theorem dX10_reads_2 : decode cX10_reads 2 = .ok (.iload_n 1, 1) := by decide +kernel
theorem dX10_reads_3 : decode cX10_reads 3 = .ok (.sipush 278, 3) := by decide +kernel
theorem dX10_reads_6 : decode cX10_reads 6 = .ok (.if_icmp .ge 20, 3) := by decide +kernel
theorem dX10_reads_9 : decode cX10_reads 9 = .ok (.aload_n 0, 1) := by decide +kernel
theorem dX10_reads_10 : decode cX10_reads 10 = .ok (.getfield 7, 3) := by decide +kernel
theorem dX10_reads_13 : decode cX10_reads 13 = .ok (.sipush 3983, 3) := by decide +kernel
theorem dX10_reads_16 : decode cX10_reads 16 = .ok (.iload_n 1, 1) := by decide +kernel
theorem dX10_reads_17 : decode cX10_reads 17 = .ok (.iadd, 1) := by decide +kernel
theorem dX10_reads_18 : decode cX10_reads 18 = .ok (.iconst 0, 1) := by decide +kernel
theorem dX10_reads_19 : decode cX10_reads 19 = .ok (.iastore, 1) := by decide +kernel
theorem dX10_reads_20 : decode cX10_reads 20 = .ok (.iinc 1 1, 3) := by decide +kernel
theorem dX10_reads_23 : decode cX10_reads 23 = .ok (.goto (-21), 3) := by decide +kernel
theorem dX10_reads_26 : decode cX10_reads 26 = .ok (.aload_n 0, 1) := by decide +kernel
theorem dX10_reads_27 : decode cX10_reads 27 = .ok (.iconst 0, 1) := by decide +kernel
theorem dX10_reads_28 : decode cX10_reads 28 = .ok (.putfield 68, 3) := by decide +kernel
theorem dX10_reads_31 : decode cX10_reads 31 = .ok (.aload_n 0, 1) := by decide +kernel
theorem dX10_reads_32 : decode cX10_reads 32 = .ok (.iconst 0, 1) := by decide +kernel
theorem dX10_reads_33 : decode cX10_reads 33 = .ok (.putfield 102, 3) := by decide +kernel
theorem dX10_reads_36 : decode cX10_reads 36 = .ok (.iconst 1, 1) := by decide +kernel
theorem dX10_reads_37 : decode cX10_reads 37 = .ok (.istore_n 1, 1) := by decide +kernel
theorem dX10_reads_38 : decode cX10_reads 38 = .ok (.aload_n 0, 1) := by decide +kernel
theorem dX10_reads_39 : decode cX10_reads 39 = .ok (.invokevirtual 81, 3) := by decide +kernel
theorem dX10_reads_42 : decode cX10_reads 42 = .ok (.iload_n 1, 1) := by decide +kernel
theorem dX10_reads_43 : decode cX10_reads 43 = .ok (.ifCond .eq 26, 3) := by decide +kernel
theorem dX10_reads_46 : decode cX10_reads 46 = .ok (.aload_n 0, 1) := by decide +kernel
theorem dX10_reads_47 : decode cX10_reads 47 = .ok (.getfield 68, 3) := by decide +kernel
theorem dX10_reads_50 : decode cX10_reads 50 = .ok (.aload_n 0, 1) := by decide +kernel
theorem dX10_reads_51 : decode cX10_reads 51 = .ok (.getfield 64, 3) := by decide +kernel
theorem dX10_reads_54 : decode cX10_reads 54 = .ok (.if_icmp .ge 15, 3) := by decide +kernel
theorem dX10_reads_57 : decode cX10_reads 57 = .ok (.aload_n 0, 1) := by decide +kernel
theorem dX10_reads_58 : decode cX10_reads 58 = .ok (.invokevirtual 118, 3) := by decide +kernel
theorem dX10_reads_61 : decode cX10_reads 61 = .ok (.istore_n 1, 1) := by decide +kernel
theorem dX10_reads_62 : decode cX10_reads 62 = .ok (.aload_n 0, 1) := by decide +kernel
theorem dX10_reads_63 : decode cX10_reads 63 = .ok (.invokevirtual 81, 3) := by decide +kernel
theorem dX10_reads_66 : decode cX10_reads 66 = .ok (.goto (-24), 3) := by decide +kernel
theorem dX10_reads_69 : decode cX10_reads 69 = .ok (.iload_n 1, 1) := by decide +kernel
theorem dX10_reads_70 : decode cX10_reads 70 = .ok (.ireturn, 1) := by decide +kernel
set_option maxRecDepth 20000 in
theorem dX10_line_0 : decode cX10_line 0 = .ok (.aload_n 0, 1) := by decide +kernel
theorem dX10_line_1 : decode cX10_line 1 = .ok (.invokevirtual 121, 3) := by decide +kernel
theorem dX10_line_4 : decode cX10_line 4 = .ok (.istore_n 1, 1) := by decide +kernel
theorem dX10_line_5 : decode cX10_line 5 = .ok (.aload_n 0, 1) := by decide +kernel
theorem dX10_line_6 : decode cX10_line 6 = .ok (.iconst 0, 1) := by decide +kernel
theorem dX10_line_7 : decode cX10_line 7 = .ok (.putfield 64, 3) := by decide +kernel
theorem dX10_line_10 : decode cX10_line 10 = .ok (.aload_n 0, 1) := by decide +kernel
theorem dX10_line_11 : decode cX10_line 11 = .ok (.iload_n 1, 1) := by decide +kernel
theorem dX10_line_12 : decode cX10_line 12 = .ok (.ifCond .eq 7, 3) := by decide +kernel
theorem dX10_line_15 : decode cX10_line 15 = .ok (.iconst (-1), 1) := by decide +kernel
theorem dX10_line_16 : decode cX10_line 16 = .ok (.goto 7, 3) := by decide +kernel
theorem dX10_line_19 : decode cX10_line 19 = .ok (.aload_n 0, 1) := by decide +kernel
theorem dX10_line_20 : decode cX10_line 20 = .ok (.getfield 74, 3) := by decide +kernel
theorem dX10_line_23 : decode cX10_line 23 = .ok (.putfield 26, 3) := by decide +kernel
theorem dX10_line_26 : decode cX10_line 26 = .ok (.iload_n 1, 1) := by decide +kernel
theorem dX10_line_27 : decode cX10_line 27 = .ok (.ifCond .ne 11, 3) := by decide +kernel
theorem dX10_line_30 : decode cX10_line 30 = .ok (.bipush (-10), 2) := by decide +kernel
theorem dX10_line_32 : decode cX10_line 32 = .ok (.aload_n 0, 1) := by decide +kernel
theorem dX10_line_33 : decode cX10_line 33 = .ok (.getfield 71, 3) := by decide +kernel
theorem dX10_line_36 : decode cX10_line 36 = .ok (.isub, 1) := by decide +kernel
theorem dX10_line_37 : decode cX10_line 37 = .ok (.ireturn, 1) := by decide +kernel
theorem dX10_line_38 : decode cX10_line 38 = .ok (.aload_n 0, 1) := by decide +kernel
theorem dX10_line_39 : decode cX10_line 39 = .ok (.sipush 3983, 3) := by decide +kernel
theorem dX10_line_42 : decode cX10_line 42 = .ok (.iconst 0, 1) := by decide +kernel
theorem dX10_line_43 : decode cX10_line 43 = .ok (.sipush 278, 3) := by decide +kernel
theorem dX10_line_46 : decode cX10_line 46 = .ok (.invokevirtual 124, 3) := by decide +kernel
theorem dX10_line_49 : decode cX10_line 49 = .ok (.iconst 0, 1) := by decide +kernel
theorem dX10_line_50 : decode cX10_line 50 = .ok (.istore_n 2, 1) := by decide +kernel
theorem dX10_line_51 : decode cX10_line 51 = .ok (.iconst 0, 1) := by decide +kernel
theorem dX10_line_52 : decode cX10_line 52 = .ok (.istore_n 3, 1) := by decide +kernel
theorem dX10_line_53 : decode cX10_line 53 = .ok (.iload_n 3, 1) := by decide +kernel
theorem dX10_line_54 : decode cX10_line 54 = .ok (.aload_n 0, 1) := by decide +kernel
theorem dX10_line_55 : decode cX10_line 55 = .ok (.getfield 7, 3) := by decide +kernel
theorem dX10_line_58 : decode cX10_line 58 = .ok (.sipush 249, 3) := by decide +kernel
theorem dX10_line_61 : decode cX10_line 61 = .ok (.iaload, 1) := by decide +kernel
theorem dX10_line_62 : decode cX10_line 62 = .ok (.if_icmp .ge 43, 3) := by decide +kernel
theorem dX10_line_65 : decode cX10_line 65 = .ok (.iconst 0, 1) := by decide +kernel
theorem dX10_line_66 : decode cX10_line 66 = .ok (.istore 4, 2) := by decide +kernel
theorem dX10_line_68 : decode cX10_line 68 = .ok (.iload 4, 2) := by decide +kernel
theorem dX10_line_70 : decode cX10_line 70 = .ok (.aload_n 0, 1) := by decide +kernel
theorem dX10_line_71 : decode cX10_line 71 = .ok (.getfield 7, 3) := by decide +kernel
theorem dX10_line_74 : decode cX10_line 74 = .ok (.sipush 250, 3) := by decide +kernel
theorem dX10_line_77 : decode cX10_line 77 = .ok (.iload_n 3, 1) := by decide +kernel
theorem dX10_line_78 : decode cX10_line 78 = .ok (.iadd, 1) := by decide +kernel
theorem dX10_line_79 : decode cX10_line 79 = .ok (.iaload, 1) := by decide +kernel
theorem dX10_line_80 : decode cX10_line 80 = .ok (.if_icmp .ge 19, 3) := by decide +kernel
theorem dX10_line_83 : decode cX10_line 83 = .ok (.aload_n 0, 1) := by decide +kernel
theorem dX10_line_84 : decode cX10_line 84 = .ok (.getfield 13, 3) := by decide +kernel
theorem dX10_line_87 : decode cX10_line 87 = .ok (.iload_n 2, 1) := by decide +kernel
theorem dX10_line_88 : decode cX10_line 88 = .ok (.iload_n 3, 1) := by decide +kernel
theorem dX10_line_89 : decode cX10_line 89 = .ok (.iastore, 1) := by decide +kernel
theorem dX10_line_90 : decode cX10_line 90 = .ok (.iinc 2 1, 3) := by decide +kernel
theorem dX10_line_93 : decode cX10_line 93 = .ok (.iinc 4 1, 3) := by decide +kernel
theorem dX10_line_96 : decode cX10_line 96 = .ok (.goto (-28), 3) := by decide +kernel
theorem dX10_line_99 : decode cX10_line 99 = .ok (.iinc 3 1, 3) := by decide +kernel
theorem dX10_line_102 : decode cX10_line 102 = .ok (.goto (-49), 3) := by decide +kernel
theorem dX10_line_105 : decode cX10_line 105 = .ok (.aload_n 0, 1) := by decide +kernel
theorem dX10_line_106 : decode cX10_line 106 = .ok (.iconst 0, 1) := by decide +kernel
theorem dX10_line_107 : decode cX10_line 107 = .ok (.putfield 128, 3) := by decide +kernel
theorem dX10_line_110 : decode cX10_line 110 = .ok (.aload_n 0, 1) := by decide +kernel
theorem dX10_line_111 : decode cX10_line 111 = .ok (.iconst 0, 1) := by decide +kernel
theorem dX10_line_112 : decode cX10_line 112 = .ok (.putfield 131, 3) := by decide +kernel
theorem dX10_line_115 : decode cX10_line 115 = .ok (.aload_n 0, 1) := by decide +kernel
theorem dX10_line_116 : decode cX10_line 116 = .ok (.iconst 0, 1) := by decide +kernel
theorem dX10_line_117 : decode cX10_line 117 = .ok (.putfield 134, 3) := by decide +kernel
theorem dX10_line_120 : decode cX10_line 120 = .ok (.aload_n 0, 1) := by decide +kernel
theorem dX10_line_121 : decode cX10_line 121 = .ok (.getfield 16, 3) := by decide +kernel
theorem dX10_line_124 : decode cX10_line 124 = .ok (.iconst 0, 1) := by decide +kernel
theorem dX10_line_125 : decode cX10_line 125 = .ok (.iconst 0, 1) := by decide +kernel
theorem dX10_line_126 : decode cX10_line 126 = .ok (.bastore, 1) := by decide +kernel
theorem dX10_line_127 : decode cX10_line 127 = .ok (.aload_n 0, 1) := by decide +kernel
theorem dX10_line_128 : decode cX10_line 128 = .ok (.getfield 16, 3) := by decide +kernel
theorem dX10_line_131 : decode cX10_line 131 = .ok (.iconst 1, 1) := by decide +kernel
theorem dX10_line_132 : decode cX10_line 132 = .ok (.iconst 0, 1) := by decide +kernel
theorem dX10_line_133 : decode cX10_line 133 = .ok (.bastore, 1) := by decide +kernel
theorem dX10_line_134 : decode cX10_line 134 = .ok (.aload_n 0, 1) := by decide +kernel
theorem dX10_line_135 : decode cX10_line 135 = .ok (.getfield 7, 3) := by decide +kernel
theorem dX10_line_138 : decode cX10_line 138 = .ok (.sipush 258, 3) := by decide +kernel
theorem dX10_line_141 : decode cX10_line 141 = .ok (.iaload, 1) := by decide +kernel
theorem dX10_line_142 : decode cX10_line 142 = .ok (.ireturn, 1) := by decide +kernel
theorem dX10_fault_0 : decode cX10_fault 0 = .ok (.aload_n 0, 1) := by decide +kernel
theorem dX10_fault_1 : decode cX10_fault 1 = .ok (.getfield 26, 3) := by decide +kernel
theorem dX10_fault_4 : decode cX10_fault 4 = .ok (.ireturn, 1) := by decide +kernel
theorem dX10_isLine_0 : decode cX10_isLine 0 = .ok (.aload_n 0, 1) := by decide +kernel
theorem dX10_isLine_1 : decode cX10_isLine 1 = .ok (.getfield 7, 3) := by decide +kernel
theorem dX10_isLine_4 : decode cX10_isLine 4 = .ok (.sipush 247, 3) := by decide +kernel
theorem dX10_isLine_7 : decode cX10_isLine 7 = .ok (.iaload, 1) := by decide +kernel
theorem dX10_isLine_8 : decode cX10_isLine 8 = .ok (.iconst 1, 1) := by decide +kernel
theorem dX10_isLine_9 : decode cX10_isLine 9 = .ok (.if_icmp .ne 7, 3) := by decide +kernel
theorem dX10_isLine_12 : decode cX10_isLine 12 = .ok (.iconst 1, 1) := by decide +kernel
theorem dX10_isLine_13 : decode cX10_isLine 13 = .ok (.goto 4, 3) := by decide +kernel
theorem dX10_isLine_16 : decode cX10_isLine 16 = .ok (.iconst 0, 1) := by decide +kernel
theorem dX10_isLine_17 : decode cX10_isLine 17 = .ok (.ireturn, 1) := by decide +kernel
set_option maxRecDepth 20000 in
theorem dX10_isCell_0 : decode cX10_isCell 0 = .ok (.iload_n 1, 1) := by decide +kernel
theorem dX10_isCell_1 : decode cX10_isCell 1 = .ok (.i2l, 1) := by decide +kernel
theorem dX10_isCell_2 : decode cX10_isCell 2 = .ok (.lconst 0, 1) := by decide +kernel
theorem dX10_isCell_3 : decode cX10_isCell 3 = .ok (.aload_n 0, 1) := by decide +kernel
theorem dX10_isCell_4 : decode cX10_isCell 4 = .ok (.getfield 7, 3) := by decide +kernel
theorem dX10_isCell_7 : decode cX10_isCell 7 = .ok (.sipush 258, 3) := by decide +kernel
theorem dX10_isCell_10 : decode cX10_isCell 10 = .ok (.iaload, 1) := by decide +kernel
theorem dX10_isCell_11 : decode cX10_isCell 11 = .ok (.iconst 1, 1) := by decide +kernel
theorem dX10_isCell_12 : decode cX10_isCell 12 = .ok (.isub, 1) := by decide +kernel
theorem dX10_isCell_13 : decode cX10_isCell 13 = .ok (.i2l, 1) := by decide +kernel
theorem dX10_isCell_14 : decode cX10_isCell 14 = .ok (.invokestatic 59, 3) := by decide +kernel
theorem dX10_isCell_17 : decode cX10_isCell 17 = .ok (.ireturn, 1) := by decide +kernel
set_option maxRecDepth 20000 in
theorem dX10_isPlace_0 : decode cX10_isPlace 0 = .ok (.iload_n 1, 1) := by decide +kernel
theorem dX10_isPlace_1 : decode cX10_isPlace 1 = .ok (.i2l, 1) := by decide +kernel
theorem dX10_isPlace_2 : decode cX10_isPlace 2 = .ok (.lconst 1, 1) := by decide +kernel
theorem dX10_isPlace_3 : decode cX10_isPlace 3 = .ok (.aload_n 0, 1) := by decide +kernel
theorem dX10_isPlace_4 : decode cX10_isPlace 4 = .ok (.getfield 7, 3) := by decide +kernel
theorem dX10_isPlace_7 : decode cX10_isPlace 7 = .ok (.sipush 258, 3) := by decide +kernel
theorem dX10_isPlace_10 : decode cX10_isPlace 10 = .ok (.iaload, 1) := by decide +kernel
theorem dX10_isPlace_11 : decode cX10_isPlace 11 = .ok (.iconst 1, 1) := by decide +kernel
theorem dX10_isPlace_12 : decode cX10_isPlace 12 = .ok (.isub, 1) := by decide +kernel
theorem dX10_isPlace_13 : decode cX10_isPlace 13 = .ok (.i2l, 1) := by decide +kernel
theorem dX10_isPlace_14 : decode cX10_isPlace 14 = .ok (.invokestatic 59, 3) := by decide +kernel
theorem dX10_isPlace_17 : decode cX10_isPlace 17 = .ok (.ireturn, 1) := by decide +kernel
set_option maxRecDepth 20000 in
theorem dX10_isGate_0 : decode cX10_isGate 0 = .ok (.iload_n 1, 1) := by decide +kernel
theorem dX10_isGate_1 : decode cX10_isGate 1 = .ok (.i2l, 1) := by decide +kernel
theorem dX10_isGate_2 : decode cX10_isGate 2 = .ok (.lconst 0, 1) := by decide +kernel
theorem dX10_isGate_3 : decode cX10_isGate 3 = .ok (.aload_n 0, 1) := by decide +kernel
theorem dX10_isGate_4 : decode cX10_isGate 4 = .ok (.getfield 7, 3) := by decide +kernel
theorem dX10_isGate_7 : decode cX10_isGate 7 = .ok (.sipush 259, 3) := by decide +kernel
theorem dX10_isGate_10 : decode cX10_isGate 10 = .ok (.iaload, 1) := by decide +kernel
theorem dX10_isGate_11 : decode cX10_isGate 11 = .ok (.iconst 1, 1) := by decide +kernel
theorem dX10_isGate_12 : decode cX10_isGate 12 = .ok (.isub, 1) := by decide +kernel
theorem dX10_isGate_13 : decode cX10_isGate 13 = .ok (.i2l, 1) := by decide +kernel
theorem dX10_isGate_14 : decode cX10_isGate 14 = .ok (.invokestatic 59, 3) := by decide +kernel
theorem dX10_isGate_17 : decode cX10_isGate 17 = .ok (.ireturn, 1) := by decide +kernel
set_option maxRecDepth 20000 in
theorem dX10_isPiece_0 : decode cX10_isPiece 0 = .ok (.iload_n 1, 1) := by decide +kernel
theorem dX10_isPiece_1 : decode cX10_isPiece 1 = .ok (.i2l, 1) := by decide +kernel
theorem dX10_isPiece_2 : decode cX10_isPiece 2 = .ok (.lconst 0, 1) := by decide +kernel
theorem dX10_isPiece_3 : decode cX10_isPiece 3 = .ok (.aload_n 0, 1) := by decide +kernel
theorem dX10_isPiece_4 : decode cX10_isPiece 4 = .ok (.getfield 7, 3) := by decide +kernel
theorem dX10_isPiece_7 : decode cX10_isPiece 7 = .ok (.sipush 249, 3) := by decide +kernel
theorem dX10_isPiece_10 : decode cX10_isPiece 10 = .ok (.iaload, 1) := by decide +kernel
theorem dX10_isPiece_11 : decode cX10_isPiece 11 = .ok (.iconst 1, 1) := by decide +kernel
theorem dX10_isPiece_12 : decode cX10_isPiece 12 = .ok (.isub, 1) := by decide +kernel
theorem dX10_isPiece_13 : decode cX10_isPiece 13 = .ok (.i2l, 1) := by decide +kernel
theorem dX10_isPiece_14 : decode cX10_isPiece 14 = .ok (.invokestatic 59, 3) := by decide +kernel
theorem dX10_isPiece_17 : decode cX10_isPiece 17 = .ok (.ireturn, 1) := by decide +kernel
theorem dX10_bound_0 : decode cX10_bound 0 = .ok (.iload_n 0, 1) := by decide +kernel
theorem dX10_bound_1 : decode cX10_bound 1 = .ok (.ldc 137, 2) := by decide +kernel
theorem dX10_bound_3 : decode cX10_bound 3 = .ok (.if_icmp .le 8, 3) := by decide +kernel
theorem dX10_bound_6 : decode cX10_bound 6 = .ok (.ldc 137, 2) := by decide +kernel
theorem dX10_bound_8 : decode cX10_bound 8 = .ok (.goto 15, 3) := by decide +kernel
theorem dX10_bound_11 : decode cX10_bound 11 = .ok (.iload_n 0, 1) := by decide +kernel
theorem dX10_bound_12 : decode cX10_bound 12 = .ok (.ldc 138, 2) := by decide +kernel
theorem dX10_bound_14 : decode cX10_bound 14 = .ok (.if_icmp .ge 8, 3) := by decide +kernel
theorem dX10_bound_17 : decode cX10_bound 17 = .ok (.ldc 138, 2) := by decide +kernel
theorem dX10_bound_19 : decode cX10_bound 19 = .ok (.goto 4, 3) := by decide +kernel
theorem dX10_bound_22 : decode cX10_bound 22 = .ok (.iload_n 0, 1) := by decide +kernel
theorem dX10_bound_23 : decode cX10_bound 23 = .ok (.ireturn, 1) := by decide +kernel
theorem dX10_ohmsOf_0 : decode cX10_ohmsOf 0 = .ok (.aload_n 0, 1) := by decide +kernel
theorem dX10_ohmsOf_1 : decode cX10_ohmsOf 1 = .ok (.getfield 7, 3) := by decide +kernel
theorem dX10_ohmsOf_4 : decode cX10_ohmsOf 4 = .ok (.iload_n 1, 1) := by decide +kernel
theorem dX10_ohmsOf_5 : decode cX10_ohmsOf 5 = .ok (.sipush 236, 3) := by decide +kernel
theorem dX10_ohmsOf_8 : decode cX10_ohmsOf 8 = .ok (.iadd, 1) := by decide +kernel
theorem dX10_ohmsOf_9 : decode cX10_ohmsOf 9 = .ok (.aload_n 0, 1) := by decide +kernel
theorem dX10_ohmsOf_10 : decode cX10_ohmsOf 10 = .ok (.getfield 13, 3) := by decide +kernel
theorem dX10_ohmsOf_13 : decode cX10_ohmsOf 13 = .ok (.iload_n 2, 1) := by decide +kernel
theorem dX10_ohmsOf_14 : decode cX10_ohmsOf 14 = .ok (.iaload, 1) := by decide +kernel
theorem dX10_ohmsOf_15 : decode cX10_ohmsOf 15 = .ok (.iadd, 1) := by decide +kernel
theorem dX10_ohmsOf_16 : decode cX10_ohmsOf 16 = .ok (.iaload, 1) := by decide +kernel
theorem dX10_ohmsOf_17 : decode cX10_ohmsOf 17 = .ok (.ireturn, 1) := by decide +kernel
set_option maxRecDepth 20000 in
theorem dX10_meets_0 : decode cX10_meets 0 = .ok (.aload_n 0, 1) := by decide +kernel
theorem dX10_meets_1 : decode cX10_meets 1 = .ok (.getfield 7, 3) := by decide +kernel
theorem dX10_meets_4 : decode cX10_meets 4 = .ok (.iload_n 1, 1) := by decide +kernel
theorem dX10_meets_5 : decode cX10_meets 5 = .ok (.iconst 0, 1) := by decide +kernel
theorem dX10_meets_6 : decode cX10_meets 6 = .ok (.iadd, 1) := by decide +kernel
theorem dX10_meets_7 : decode cX10_meets 7 = .ok (.iload_n 2, 1) := by decide +kernel
theorem dX10_meets_8 : decode cX10_meets 8 = .ok (.iadd, 1) := by decide +kernel
theorem dX10_meets_9 : decode cX10_meets 9 = .ok (.iconst 1, 1) := by decide +kernel
theorem dX10_meets_10 : decode cX10_meets 10 = .ok (.isub, 1) := by decide +kernel
theorem dX10_meets_11 : decode cX10_meets 11 = .ok (.iaload, 1) := by decide +kernel
theorem dX10_meets_12 : decode cX10_meets 12 = .ok (.istore_n 3, 1) := by decide +kernel
theorem dX10_meets_13 : decode cX10_meets 13 = .ok (.aload_n 0, 1) := by decide +kernel
theorem dX10_meets_14 : decode cX10_meets 14 = .ok (.getfield 7, 3) := by decide +kernel
theorem dX10_meets_17 : decode cX10_meets 17 = .ok (.iload_n 1, 1) := by decide +kernel
theorem dX10_meets_18 : decode cX10_meets 18 = .ok (.bipush 72, 2) := by decide +kernel
theorem dX10_meets_20 : decode cX10_meets 20 = .ok (.iadd, 1) := by decide +kernel
theorem dX10_meets_21 : decode cX10_meets 21 = .ok (.iload_n 2, 1) := by decide +kernel
theorem dX10_meets_22 : decode cX10_meets 22 = .ok (.iadd, 1) := by decide +kernel
theorem dX10_meets_23 : decode cX10_meets 23 = .ok (.iaload, 1) := by decide +kernel
theorem dX10_meets_24 : decode cX10_meets 24 = .ok (.istore 4, 2) := by decide +kernel
theorem dX10_meets_26 : decode cX10_meets 26 = .ok (.aload_n 0, 1) := by decide +kernel
theorem dX10_meets_27 : decode cX10_meets 27 = .ok (.iload_n 1, 1) := by decide +kernel
theorem dX10_meets_28 : decode cX10_meets 28 = .ok (.iload_n 2, 1) := by decide +kernel
theorem dX10_meets_29 : decode cX10_meets 29 = .ok (.iconst 1, 1) := by decide +kernel
theorem dX10_meets_30 : decode cX10_meets 30 = .ok (.isub, 1) := by decide +kernel
theorem dX10_meets_31 : decode cX10_meets 31 = .ok (.invokevirtual 139, 3) := by decide +kernel
theorem dX10_meets_34 : decode cX10_meets 34 = .ok (.istore 5, 2) := by decide +kernel
theorem dX10_meets_36 : decode cX10_meets 36 = .ok (.aload_n 0, 1) := by decide +kernel
theorem dX10_meets_37 : decode cX10_meets 37 = .ok (.iload_n 1, 1) := by decide +kernel
theorem dX10_meets_38 : decode cX10_meets 38 = .ok (.iload_n 2, 1) := by decide +kernel
theorem dX10_meets_39 : decode cX10_meets 39 = .ok (.invokevirtual 139, 3) := by decide +kernel
theorem dX10_meets_42 : decode cX10_meets 42 = .ok (.istore 6, 2) := by decide +kernel
theorem dX10_meets_44 : decode cX10_meets 44 = .ok (.aload_n 0, 1) := by decide +kernel
theorem dX10_meets_45 : decode cX10_meets 45 = .ok (.getfield 7, 3) := by decide +kernel
theorem dX10_meets_48 : decode cX10_meets 48 = .ok (.iload_n 1, 1) := by decide +kernel
theorem dX10_meets_49 : decode cX10_meets 49 = .ok (.sipush 144, 3) := by decide +kernel
theorem dX10_meets_52 : decode cX10_meets 52 = .ok (.iadd, 1) := by decide +kernel
theorem dX10_meets_53 : decode cX10_meets 53 = .ok (.iload_n 2, 1) := by decide +kernel
theorem dX10_meets_54 : decode cX10_meets 54 = .ok (.iadd, 1) := by decide +kernel
theorem dX10_meets_55 : decode cX10_meets 55 = .ok (.iaload, 1) := by decide +kernel
theorem dX10_meets_56 : decode cX10_meets 56 = .ok (.lookupswitch 103 #[(0, 28), (1, 85)], 28) := by decide +kernel
theorem dX10_meets_84 : decode cX10_meets 84 = .ok (.aload_n 0, 1) := by decide +kernel
theorem dX10_meets_85 : decode cX10_meets 85 = .ok (.getfield 48, 3) := by decide +kernel
theorem dX10_meets_88 : decode cX10_meets 88 = .ok (.iload_n 2, 1) := by decide +kernel
theorem dX10_meets_89 : decode cX10_meets 89 = .ok (.iconst 1, 1) := by decide +kernel
theorem dX10_meets_90 : decode cX10_meets 90 = .ok (.isub, 1) := by decide +kernel
theorem dX10_meets_91 : decode cX10_meets 91 = .ok (.iload_n 3, 1) := by decide +kernel
theorem dX10_meets_92 : decode cX10_meets 92 = .ok (.iload 6, 2) := by decide +kernel
theorem dX10_meets_94 : decode cX10_meets 94 = .ok (.iload 5, 2) := by decide +kernel
theorem dX10_meets_96 : decode cX10_meets 96 = .ok (.isub, 1) := by decide +kernel
theorem dX10_meets_97 : decode cX10_meets 97 = .ok (.imul, 1) := by decide +kernel
theorem dX10_meets_98 : decode cX10_meets 98 = .ok (.iconst 2, 1) := by decide +kernel
theorem dX10_meets_99 : decode cX10_meets 99 = .ok (.iload 5, 2) := by decide +kernel
theorem dX10_meets_101 : decode cX10_meets 101 = .ok (.imul, 1) := by decide +kernel
theorem dX10_meets_102 : decode cX10_meets 102 = .ok (.iload 4, 2) := by decide +kernel
theorem dX10_meets_104 : decode cX10_meets 104 = .ok (.imul, 1) := by decide +kernel
theorem dX10_meets_105 : decode cX10_meets 105 = .ok (.iadd, 1) := by decide +kernel
theorem dX10_meets_106 : decode cX10_meets 106 = .ok (.iload 5, 2) := by decide +kernel
theorem dX10_meets_108 : decode cX10_meets 108 = .ok (.iload 6, 2) := by decide +kernel
theorem dX10_meets_110 : decode cX10_meets 110 = .ok (.iadd, 1) := by decide +kernel
theorem dX10_meets_111 : decode cX10_meets 111 = .ok (.idiv, 1) := by decide +kernel
theorem dX10_meets_112 : decode cX10_meets 112 = .ok (.iastore, 1) := by decide +kernel
theorem dX10_meets_113 : decode cX10_meets 113 = .ok (.aload_n 0, 1) := by decide +kernel
theorem dX10_meets_114 : decode cX10_meets 114 = .ok (.getfield 45, 3) := by decide +kernel
theorem dX10_meets_117 : decode cX10_meets 117 = .ok (.iload_n 2, 1) := by decide +kernel
theorem dX10_meets_118 : decode cX10_meets 118 = .ok (.iconst 2, 1) := by decide +kernel
theorem dX10_meets_119 : decode cX10_meets 119 = .ok (.iload 6, 2) := by decide +kernel
theorem dX10_meets_121 : decode cX10_meets 121 = .ok (.imul, 1) := by decide +kernel
theorem dX10_meets_122 : decode cX10_meets 122 = .ok (.iload_n 3, 1) := by decide +kernel
theorem dX10_meets_123 : decode cX10_meets 123 = .ok (.imul, 1) := by decide +kernel
theorem dX10_meets_124 : decode cX10_meets 124 = .ok (.iload 4, 2) := by decide +kernel
theorem dX10_meets_126 : decode cX10_meets 126 = .ok (.iload 5, 2) := by decide +kernel
theorem dX10_meets_128 : decode cX10_meets 128 = .ok (.iload 6, 2) := by decide +kernel
theorem dX10_meets_130 : decode cX10_meets 130 = .ok (.isub, 1) := by decide +kernel
theorem dX10_meets_131 : decode cX10_meets 131 = .ok (.imul, 1) := by decide +kernel
theorem dX10_meets_132 : decode cX10_meets 132 = .ok (.iadd, 1) := by decide +kernel
theorem dX10_meets_133 : decode cX10_meets 133 = .ok (.iload 5, 2) := by decide +kernel
theorem dX10_meets_135 : decode cX10_meets 135 = .ok (.iload 6, 2) := by decide +kernel
theorem dX10_meets_137 : decode cX10_meets 137 = .ok (.iadd, 1) := by decide +kernel
theorem dX10_meets_138 : decode cX10_meets 138 = .ok (.idiv, 1) := by decide +kernel
theorem dX10_meets_139 : decode cX10_meets 139 = .ok (.iastore, 1) := by decide +kernel
theorem dX10_meets_140 : decode cX10_meets 140 = .ok (.return_, 1) := by decide +kernel
theorem dX10_meets_141 : decode cX10_meets 141 = .ok (.aload_n 0, 1) := by decide +kernel
theorem dX10_meets_142 : decode cX10_meets 142 = .ok (.getfield 48, 3) := by decide +kernel
theorem dX10_meets_145 : decode cX10_meets 145 = .ok (.iload_n 2, 1) := by decide +kernel
theorem dX10_meets_146 : decode cX10_meets 146 = .ok (.iconst 1, 1) := by decide +kernel
theorem dX10_meets_147 : decode cX10_meets 147 = .ok (.isub, 1) := by decide +kernel
theorem dX10_meets_148 : decode cX10_meets 148 = .ok (.iload_n 3, 1) := by decide +kernel
theorem dX10_meets_149 : decode cX10_meets 149 = .ok (.iastore, 1) := by decide +kernel
theorem dX10_meets_150 : decode cX10_meets 150 = .ok (.aload_n 0, 1) := by decide +kernel
theorem dX10_meets_151 : decode cX10_meets 151 = .ok (.getfield 45, 3) := by decide +kernel
theorem dX10_meets_154 : decode cX10_meets 154 = .ok (.iload_n 2, 1) := by decide +kernel
theorem dX10_meets_155 : decode cX10_meets 155 = .ok (.iload 4, 2) := by decide +kernel
theorem dX10_meets_157 : decode cX10_meets 157 = .ok (.iastore, 1) := by decide +kernel
theorem dX10_meets_158 : decode cX10_meets 158 = .ok (.return_, 1) := by decide +kernel
theorem dX10_meets_159 : decode cX10_meets 159 = .ok (.aload_n 0, 1) := by decide +kernel
theorem dX10_meets_160 : decode cX10_meets 160 = .ok (.getfield 48, 3) := by decide +kernel
theorem dX10_meets_163 : decode cX10_meets 163 = .ok (.iload_n 2, 1) := by decide +kernel
theorem dX10_meets_164 : decode cX10_meets 164 = .ok (.iconst 1, 1) := by decide +kernel
theorem dX10_meets_165 : decode cX10_meets 165 = .ok (.isub, 1) := by decide +kernel
theorem dX10_meets_166 : decode cX10_meets 166 = .ok (.iload_n 3, 1) := by decide +kernel
theorem dX10_meets_167 : decode cX10_meets 167 = .ok (.ineg, 1) := by decide +kernel
theorem dX10_meets_168 : decode cX10_meets 168 = .ok (.iastore, 1) := by decide +kernel
theorem dX10_meets_169 : decode cX10_meets 169 = .ok (.aload_n 0, 1) := by decide +kernel
theorem dX10_meets_170 : decode cX10_meets 170 = .ok (.getfield 45, 3) := by decide +kernel
theorem dX10_meets_173 : decode cX10_meets 173 = .ok (.iload_n 2, 1) := by decide +kernel
theorem dX10_meets_174 : decode cX10_meets 174 = .ok (.iload 4, 2) := by decide +kernel
theorem dX10_meets_176 : decode cX10_meets 176 = .ok (.ineg, 1) := by decide +kernel
theorem dX10_meets_177 : decode cX10_meets 177 = .ok (.iastore, 1) := by decide +kernel
theorem dX10_meets_178 : decode cX10_meets 178 = .ok (.return_, 1) := by decide +kernel
theorem dX10_source_0 : decode cX10_source 0 = .ok (.aload_n 0, 1) := by decide +kernel
theorem dX10_source_1 : decode cX10_source 1 = .ok (.getfield 7, 3) := by decide +kernel
theorem dX10_source_4 : decode cX10_source 4 = .ok (.iload_n 1, 1) := by decide +kernel
theorem dX10_source_5 : decode cX10_source 5 = .ok (.sipush 234, 3) := by decide +kernel
theorem dX10_source_8 : decode cX10_source 8 = .ok (.iadd, 1) := by decide +kernel
theorem dX10_source_9 : decode cX10_source 9 = .ok (.iaload, 1) := by decide +kernel
theorem dX10_source_10 : decode cX10_source 10 = .ok (.iconst 1, 1) := by decide +kernel
theorem dX10_source_11 : decode cX10_source 11 = .ok (.if_icmp .ne 18, 3) := by decide +kernel
theorem dX10_source_14 : decode cX10_source 14 = .ok (.sipush 1000, 3) := by decide +kernel
theorem dX10_source_17 : decode cX10_source 17 = .ok (.aload_n 0, 1) := by decide +kernel
theorem dX10_source_18 : decode cX10_source 18 = .ok (.getfield 7, 3) := by decide +kernel
theorem dX10_source_21 : decode cX10_source 21 = .ok (.sipush 248, 3) := by decide +kernel
theorem dX10_source_24 : decode cX10_source 24 = .ok (.iaload, 1) := by decide +kernel
theorem dX10_source_25 : decode cX10_source 25 = .ok (.imul, 1) := by decide +kernel
theorem dX10_source_26 : decode cX10_source 26 = .ok (.goto 4, 3) := by decide +kernel
theorem dX10_source_29 : decode cX10_source 29 = .ok (.iconst 0, 1) := by decide +kernel
theorem dX10_source_30 : decode cX10_source 30 = .ok (.ireturn, 1) := by decide +kernel
set_option maxRecDepth 20000 in
theorem dX10_ends_0 : decode cX10_ends 0 = .ok (.aload_n 0, 1) := by decide +kernel
theorem dX10_ends_1 : decode cX10_ends 1 = .ok (.getfield 7, 3) := by decide +kernel
theorem dX10_ends_4 : decode cX10_ends 4 = .ok (.sipush 258, 3) := by decide +kernel
theorem dX10_ends_7 : decode cX10_ends 7 = .ok (.iaload, 1) := by decide +kernel
theorem dX10_ends_8 : decode cX10_ends 8 = .ok (.istore_n 2, 1) := by decide +kernel
theorem dX10_ends_9 : decode cX10_ends 9 = .ok (.aload_n 0, 1) := by decide +kernel
theorem dX10_ends_10 : decode cX10_ends 10 = .ok (.iload_n 1, 1) := by decide +kernel
theorem dX10_ends_11 : decode cX10_ends 11 = .ok (.iconst 0, 1) := by decide +kernel
theorem dX10_ends_12 : decode cX10_ends 12 = .ok (.invokevirtual 139, 3) := by decide +kernel
theorem dX10_ends_15 : decode cX10_ends 15 = .ok (.istore_n 3, 1) := by decide +kernel
theorem dX10_ends_16 : decode cX10_ends 16 = .ok (.aload_n 0, 1) := by decide +kernel
theorem dX10_ends_17 : decode cX10_ends 17 = .ok (.getfield 7, 3) := by decide +kernel
theorem dX10_ends_20 : decode cX10_ends 20 = .ok (.iload_n 1, 1) := by decide +kernel
theorem dX10_ends_21 : decode cX10_ends 21 = .ok (.sipush 246, 3) := by decide +kernel
theorem dX10_ends_24 : decode cX10_ends 24 = .ok (.iadd, 1) := by decide +kernel
theorem dX10_ends_25 : decode cX10_ends 25 = .ok (.iaload, 1) := by decide +kernel
theorem dX10_ends_26 : decode cX10_ends 26 = .ok (.istore 4, 2) := by decide +kernel
theorem dX10_ends_28 : decode cX10_ends 28 = .ok (.aload_n 0, 1) := by decide +kernel
theorem dX10_ends_29 : decode cX10_ends 29 = .ok (.getfield 45, 3) := by decide +kernel
theorem dX10_ends_32 : decode cX10_ends 32 = .ok (.iconst 0, 1) := by decide +kernel
theorem dX10_ends_33 : decode cX10_ends 33 = .ok (.iload_n 3, 1) := by decide +kernel
theorem dX10_ends_34 : decode cX10_ends 34 = .ok (.aload_n 0, 1) := by decide +kernel
theorem dX10_ends_35 : decode cX10_ends 35 = .ok (.iload_n 1, 1) := by decide +kernel
theorem dX10_ends_36 : decode cX10_ends 36 = .ok (.invokevirtual 143, 3) := by decide +kernel
theorem dX10_ends_39 : decode cX10_ends 39 = .ok (.imul, 1) := by decide +kernel
theorem dX10_ends_40 : decode cX10_ends 40 = .ok (.iload 4, 2) := by decide +kernel
theorem dX10_ends_42 : decode cX10_ends 42 = .ok (.iload_n 3, 1) := by decide +kernel
theorem dX10_ends_43 : decode cX10_ends 43 = .ok (.isub, 1) := by decide +kernel
theorem dX10_ends_44 : decode cX10_ends 44 = .ok (.aload_n 0, 1) := by decide +kernel
theorem dX10_ends_45 : decode cX10_ends 45 = .ok (.getfield 7, 3) := by decide +kernel
theorem dX10_ends_48 : decode cX10_ends 48 = .ok (.iload_n 1, 1) := by decide +kernel
theorem dX10_ends_49 : decode cX10_ends 49 = .ok (.bipush 72, 2) := by decide +kernel
theorem dX10_ends_51 : decode cX10_ends 51 = .ok (.iadd, 1) := by decide +kernel
theorem dX10_ends_52 : decode cX10_ends 52 = .ok (.iaload, 1) := by decide +kernel
theorem dX10_ends_53 : decode cX10_ends 53 = .ok (.imul, 1) := by decide +kernel
theorem dX10_ends_54 : decode cX10_ends 54 = .ok (.iadd, 1) := by decide +kernel
theorem dX10_ends_55 : decode cX10_ends 55 = .ok (.iload 4, 2) := by decide +kernel
theorem dX10_ends_57 : decode cX10_ends 57 = .ok (.iload_n 3, 1) := by decide +kernel
theorem dX10_ends_58 : decode cX10_ends 58 = .ok (.iadd, 1) := by decide +kernel
theorem dX10_ends_59 : decode cX10_ends 59 = .ok (.idiv, 1) := by decide +kernel
theorem dX10_ends_60 : decode cX10_ends 60 = .ok (.iastore, 1) := by decide +kernel
theorem dX10_ends_61 : decode cX10_ends 61 = .ok (.aload_n 0, 1) := by decide +kernel
theorem dX10_ends_62 : decode cX10_ends 62 = .ok (.getfield 7, 3) := by decide +kernel
theorem dX10_ends_65 : decode cX10_ends 65 = .ok (.iload_n 1, 1) := by decide +kernel
theorem dX10_ends_66 : decode cX10_ends 66 = .ok (.iconst 0, 1) := by decide +kernel
theorem dX10_ends_67 : decode cX10_ends 67 = .ok (.iadd, 1) := by decide +kernel
theorem dX10_ends_68 : decode cX10_ends 68 = .ok (.iload_n 2, 1) := by decide +kernel
theorem dX10_ends_69 : decode cX10_ends 69 = .ok (.iadd, 1) := by decide +kernel
theorem dX10_ends_70 : decode cX10_ends 70 = .ok (.iconst 1, 1) := by decide +kernel
theorem dX10_ends_71 : decode cX10_ends 71 = .ok (.isub, 1) := by decide +kernel
theorem dX10_ends_72 : decode cX10_ends 72 = .ok (.iaload, 1) := by decide +kernel
theorem dX10_ends_73 : decode cX10_ends 73 = .ok (.istore 5, 2) := by decide +kernel
theorem dX10_ends_75 : decode cX10_ends 75 = .ok (.aload_n 0, 1) := by decide +kernel
theorem dX10_ends_76 : decode cX10_ends 76 = .ok (.iload_n 1, 1) := by decide +kernel
theorem dX10_ends_77 : decode cX10_ends 77 = .ok (.iload_n 2, 1) := by decide +kernel
theorem dX10_ends_78 : decode cX10_ends 78 = .ok (.iconst 1, 1) := by decide +kernel
theorem dX10_ends_79 : decode cX10_ends 79 = .ok (.isub, 1) := by decide +kernel
theorem dX10_ends_80 : decode cX10_ends 80 = .ok (.invokevirtual 139, 3) := by decide +kernel
theorem dX10_ends_83 : decode cX10_ends 83 = .ok (.istore 6, 2) := by decide +kernel
theorem dX10_ends_85 : decode cX10_ends 85 = .ok (.aload_n 0, 1) := by decide +kernel
theorem dX10_ends_86 : decode cX10_ends 86 = .ok (.getfield 7, 3) := by decide +kernel
theorem dX10_ends_89 : decode cX10_ends 89 = .ok (.iload_n 1, 1) := by decide +kernel
theorem dX10_ends_90 : decode cX10_ends 90 = .ok (.sipush 245, 3) := by decide +kernel
theorem dX10_ends_93 : decode cX10_ends 93 = .ok (.iadd, 1) := by decide +kernel
theorem dX10_ends_94 : decode cX10_ends 94 = .ok (.iaload, 1) := by decide +kernel
theorem dX10_ends_95 : decode cX10_ends 95 = .ok (.istore 7, 2) := by decide +kernel
theorem dX10_ends_97 : decode cX10_ends 97 = .ok (.aload_n 0, 1) := by decide +kernel
theorem dX10_ends_98 : decode cX10_ends 98 = .ok (.getfield 7, 3) := by decide +kernel
theorem dX10_ends_101 : decode cX10_ends 101 = .ok (.iload_n 1, 1) := by decide +kernel
theorem dX10_ends_102 : decode cX10_ends 102 = .ok (.sipush 244, 3) := by decide +kernel
theorem dX10_ends_105 : decode cX10_ends 105 = .ok (.iadd, 1) := by decide +kernel
theorem dX10_ends_106 : decode cX10_ends 106 = .ok (.iaload, 1) := by decide +kernel
theorem dX10_ends_107 : decode cX10_ends 107 = .ok (.istore 8, 2) := by decide +kernel
theorem dX10_ends_109 : decode cX10_ends 109 = .ok (.aload_n 0, 1) := by decide +kernel
theorem dX10_ends_110 : decode cX10_ends 110 = .ok (.getfield 48, 3) := by decide +kernel
theorem dX10_ends_113 : decode cX10_ends 113 = .ok (.iload_n 2, 1) := by decide +kernel
theorem dX10_ends_114 : decode cX10_ends 114 = .ok (.iconst 1, 1) := by decide +kernel
theorem dX10_ends_115 : decode cX10_ends 115 = .ok (.isub, 1) := by decide +kernel
theorem dX10_ends_116 : decode cX10_ends 116 = .ok (.iload 8, 2) := by decide +kernel
theorem dX10_ends_118 : decode cX10_ends 118 = .ok (.ifCond .ne 8, 3) := by decide +kernel
theorem dX10_ends_121 : decode cX10_ends 121 = .ok (.iload 5, 2) := by decide +kernel
theorem dX10_ends_123 : decode cX10_ends 123 = .ok (.goto 29, 3) := by decide +kernel
theorem dX10_ends_126 : decode cX10_ends 126 = .ok (.iload 8, 2) := by decide +kernel
theorem dX10_ends_128 : decode cX10_ends 128 = .ok (.iconst 1, 1) := by decide +kernel
theorem dX10_ends_129 : decode cX10_ends 129 = .ok (.if_icmp .ne 9, 3) := by decide +kernel
theorem dX10_ends_132 : decode cX10_ends 132 = .ok (.iload 5, 2) := by decide +kernel
theorem dX10_ends_134 : decode cX10_ends 134 = .ok (.ineg, 1) := by decide +kernel
theorem dX10_ends_135 : decode cX10_ends 135 = .ok (.goto 17, 3) := by decide +kernel
theorem dX10_ends_138 : decode cX10_ends 138 = .ok (.iload 5, 2) := by decide +kernel
theorem dX10_ends_140 : decode cX10_ends 140 = .ok (.iload 7, 2) := by decide +kernel
theorem dX10_ends_142 : decode cX10_ends 142 = .ok (.iload 6, 2) := by decide +kernel
theorem dX10_ends_144 : decode cX10_ends 144 = .ok (.isub, 1) := by decide +kernel
theorem dX10_ends_145 : decode cX10_ends 145 = .ok (.imul, 1) := by decide +kernel
theorem dX10_ends_146 : decode cX10_ends 146 = .ok (.iload 7, 2) := by decide +kernel
theorem dX10_ends_148 : decode cX10_ends 148 = .ok (.iload 6, 2) := by decide +kernel
theorem dX10_ends_150 : decode cX10_ends 150 = .ok (.iadd, 1) := by decide +kernel
theorem dX10_ends_151 : decode cX10_ends 151 = .ok (.idiv, 1) := by decide +kernel
theorem dX10_ends_152 : decode cX10_ends 152 = .ok (.iastore, 1) := by decide +kernel
theorem dX10_ends_153 : decode cX10_ends 153 = .ok (.return_, 1) := by decide +kernel
set_option maxRecDepth 20000 in
theorem dX10_voltsOf_0 : decode cX10_voltsOf 0 = .ok (.aload_n 0, 1) := by decide +kernel
theorem dX10_voltsOf_1 : decode cX10_voltsOf 1 = .ok (.iload_n 2, 1) := by decide +kernel
theorem dX10_voltsOf_2 : decode cX10_voltsOf 2 = .ok (.invokevirtual 147, 3) := by decide +kernel
theorem dX10_voltsOf_5 : decode cX10_voltsOf 5 = .ok (.ifCond .eq 28, 3) := by decide +kernel
theorem dX10_voltsOf_8 : decode cX10_voltsOf 8 = .ok (.aload_n 0, 1) := by decide +kernel
theorem dX10_voltsOf_9 : decode cX10_voltsOf 9 = .ok (.getfield 7, 3) := by decide +kernel
theorem dX10_voltsOf_12 : decode cX10_voltsOf 12 = .ok (.iload_n 1, 1) := by decide +kernel
theorem dX10_voltsOf_13 : decode cX10_voltsOf 13 = .ok (.iconst 0, 1) := by decide +kernel
theorem dX10_voltsOf_14 : decode cX10_voltsOf 14 = .ok (.iadd, 1) := by decide +kernel
theorem dX10_voltsOf_15 : decode cX10_voltsOf 15 = .ok (.iload_n 2, 1) := by decide +kernel
theorem dX10_voltsOf_16 : decode cX10_voltsOf 16 = .ok (.iadd, 1) := by decide +kernel
theorem dX10_voltsOf_17 : decode cX10_voltsOf 17 = .ok (.iaload, 1) := by decide +kernel
theorem dX10_voltsOf_18 : decode cX10_voltsOf 18 = .ok (.aload_n 0, 1) := by decide +kernel
theorem dX10_voltsOf_19 : decode cX10_voltsOf 19 = .ok (.getfield 7, 3) := by decide +kernel
theorem dX10_voltsOf_22 : decode cX10_voltsOf 22 = .ok (.iload_n 1, 1) := by decide +kernel
theorem dX10_voltsOf_23 : decode cX10_voltsOf 23 = .ok (.bipush 72, 2) := by decide +kernel
theorem dX10_voltsOf_25 : decode cX10_voltsOf 25 = .ok (.iadd, 1) := by decide +kernel
theorem dX10_voltsOf_26 : decode cX10_voltsOf 26 = .ok (.iload_n 2, 1) := by decide +kernel
theorem dX10_voltsOf_27 : decode cX10_voltsOf 27 = .ok (.iadd, 1) := by decide +kernel
theorem dX10_voltsOf_28 : decode cX10_voltsOf 28 = .ok (.iaload, 1) := by decide +kernel
theorem dX10_voltsOf_29 : decode cX10_voltsOf 29 = .ok (.iadd, 1) := by decide +kernel
theorem dX10_voltsOf_30 : decode cX10_voltsOf 30 = .ok (.goto 4, 3) := by decide +kernel
theorem dX10_voltsOf_33 : decode cX10_voltsOf 33 = .ok (.iconst 0, 1) := by decide +kernel
theorem dX10_voltsOf_34 : decode cX10_voltsOf 34 = .ok (.ireturn, 1) := by decide +kernel
set_option maxRecDepth 20000 in
theorem dX10_looks_0 : decode cX10_looks 0 = .ok (.aload_n 0, 1) := by decide +kernel
theorem dX10_looks_1 : decode cX10_looks 1 = .ok (.iload_n 1, 1) := by decide +kernel
theorem dX10_looks_2 : decode cX10_looks 2 = .ok (.aload_n 0, 1) := by decide +kernel
theorem dX10_looks_3 : decode cX10_looks 3 = .ok (.getfield 7, 3) := by decide +kernel
theorem dX10_looks_6 : decode cX10_looks 6 = .ok (.sipush 260, 3) := by decide +kernel
theorem dX10_looks_9 : decode cX10_looks 9 = .ok (.iconst 3, 1) := by decide +kernel
theorem dX10_looks_10 : decode cX10_looks 10 = .ok (.iload_n 2, 1) := by decide +kernel
theorem dX10_looks_11 : decode cX10_looks 11 = .ok (.imul, 1) := by decide +kernel
theorem dX10_looks_12 : decode cX10_looks 12 = .ok (.iadd, 1) := by decide +kernel
theorem dX10_looks_13 : decode cX10_looks 13 = .ok (.iconst 1, 1) := by decide +kernel
theorem dX10_looks_14 : decode cX10_looks 14 = .ok (.iadd, 1) := by decide +kernel
theorem dX10_looks_15 : decode cX10_looks 15 = .ok (.iaload, 1) := by decide +kernel
theorem dX10_looks_16 : decode cX10_looks 16 = .ok (.invokevirtual 150, 3) := by decide +kernel
theorem dX10_looks_19 : decode cX10_looks 19 = .ok (.istore_n 3, 1) := by decide +kernel
theorem dX10_looks_20 : decode cX10_looks 20 = .ok (.sipush 1000, 3) := by decide +kernel
theorem dX10_looks_23 : decode cX10_looks 23 = .ok (.aload_n 0, 1) := by decide +kernel
theorem dX10_looks_24 : decode cX10_looks 24 = .ok (.getfield 7, 3) := by decide +kernel
theorem dX10_looks_27 : decode cX10_looks 27 = .ok (.sipush 260, 3) := by decide +kernel
theorem dX10_looks_30 : decode cX10_looks 30 = .ok (.iconst 3, 1) := by decide +kernel
theorem dX10_looks_31 : decode cX10_looks 31 = .ok (.iload_n 2, 1) := by decide +kernel
theorem dX10_looks_32 : decode cX10_looks 32 = .ok (.imul, 1) := by decide +kernel
theorem dX10_looks_33 : decode cX10_looks 33 = .ok (.iadd, 1) := by decide +kernel
theorem dX10_looks_34 : decode cX10_looks 34 = .ok (.iconst 2, 1) := by decide +kernel
theorem dX10_looks_35 : decode cX10_looks 35 = .ok (.iadd, 1) := by decide +kernel
theorem dX10_looks_36 : decode cX10_looks 36 = .ok (.iaload, 1) := by decide +kernel
theorem dX10_looks_37 : decode cX10_looks 37 = .ok (.imul, 1) := by decide +kernel
theorem dX10_looks_38 : decode cX10_looks 38 = .ok (.istore 4, 2) := by decide +kernel
theorem dX10_looks_40 : decode cX10_looks 40 = .ok (.aload_n 0, 1) := by decide +kernel
theorem dX10_looks_41 : decode cX10_looks 41 = .ok (.getfield 7, 3) := by decide +kernel
theorem dX10_looks_44 : decode cX10_looks 44 = .ok (.iload_n 1, 1) := by decide +kernel
theorem dX10_looks_45 : decode cX10_looks 45 = .ok (.sipush 216, 3) := by decide +kernel
theorem dX10_looks_48 : decode cX10_looks 48 = .ok (.iadd, 1) := by decide +kernel
theorem dX10_looks_49 : decode cX10_looks 49 = .ok (.iload_n 2, 1) := by decide +kernel
theorem dX10_looks_50 : decode cX10_looks 50 = .ok (.iadd, 1) := by decide +kernel
theorem dX10_looks_51 : decode cX10_looks 51 = .ok (.iaload, 1) := by decide +kernel
theorem dX10_looks_52 : decode cX10_looks 52 = .ok (.istore 5, 2) := by decide +kernel
theorem dX10_looks_54 : decode cX10_looks 54 = .ok (.iload_n 3, 1) := by decide +kernel
theorem dX10_looks_55 : decode cX10_looks 55 = .ok (.iload 4, 2) := by decide +kernel
theorem dX10_looks_57 : decode cX10_looks 57 = .ok (.if_icmp .lt 7, 3) := by decide +kernel
theorem dX10_looks_60 : decode cX10_looks 60 = .ok (.iconst 1, 1) := by decide +kernel
theorem dX10_looks_61 : decode cX10_looks 61 = .ok (.goto 4, 3) := by decide +kernel
theorem dX10_looks_64 : decode cX10_looks 64 = .ok (.iconst 0, 1) := by decide +kernel
theorem dX10_looks_65 : decode cX10_looks 65 = .ok (.istore 6, 2) := by decide +kernel
theorem dX10_looks_67 : decode cX10_looks 67 = .ok (.iload 5, 2) := by decide +kernel
theorem dX10_looks_69 : decode cX10_looks 69 = .ok (.istore 7, 2) := by decide +kernel
theorem dX10_looks_71 : decode cX10_looks 71 = .ok (.aload_n 0, 1) := by decide +kernel
theorem dX10_looks_72 : decode cX10_looks 72 = .ok (.getfield 7, 3) := by decide +kernel
theorem dX10_looks_75 : decode cX10_looks 75 = .ok (.sipush 260, 3) := by decide +kernel
theorem dX10_looks_78 : decode cX10_looks 78 = .ok (.iconst 3, 1) := by decide +kernel
theorem dX10_looks_79 : decode cX10_looks 79 = .ok (.iload_n 2, 1) := by decide +kernel
theorem dX10_looks_80 : decode cX10_looks 80 = .ok (.imul, 1) := by decide +kernel
theorem dX10_looks_81 : decode cX10_looks 81 = .ok (.iadd, 1) := by decide +kernel
theorem dX10_looks_82 : decode cX10_looks 82 = .ok (.iaload, 1) := by decide +kernel
theorem dX10_looks_83 : decode cX10_looks 83 = .ok (.tableswitch 170 0 2 #[25, 32, 61], 25) := by decide +kernel
theorem dX10_looks_108 : decode cX10_looks 108 = .ok (.iload 6, 2) := by decide +kernel
theorem dX10_looks_110 : decode cX10_looks 110 = .ok (.istore 7, 2) := by decide +kernel
theorem dX10_looks_112 : decode cX10_looks 112 = .ok (.goto 147, 3) := by decide +kernel
theorem dX10_looks_115 : decode cX10_looks 115 = .ok (.iload 6, 2) := by decide +kernel
theorem dX10_looks_117 : decode cX10_looks 117 = .ok (.iconst 1, 1) := by decide +kernel
theorem dX10_looks_118 : decode cX10_looks 118 = .ok (.if_icmp .ne 7, 3) := by decide +kernel
theorem dX10_looks_121 : decode cX10_looks 121 = .ok (.iconst 1, 1) := by decide +kernel
theorem dX10_looks_122 : decode cX10_looks 122 = .ok (.goto 17, 3) := by decide +kernel
theorem dX10_looks_125 : decode cX10_looks 125 = .ok (.iload_n 3, 1) := by decide +kernel
theorem dX10_looks_126 : decode cX10_looks 126 = .ok (.iload 4, 2) := by decide +kernel
theorem dX10_looks_128 : decode cX10_looks 128 = .ok (.iconst 2, 1) := by decide +kernel
theorem dX10_looks_129 : decode cX10_looks 129 = .ok (.idiv, 1) := by decide +kernel
theorem dX10_looks_130 : decode cX10_looks 130 = .ok (.if_icmp .ge 7, 3) := by decide +kernel
theorem dX10_looks_133 : decode cX10_looks 133 = .ok (.iconst 0, 1) := by decide +kernel
theorem dX10_looks_134 : decode cX10_looks 134 = .ok (.goto 5, 3) := by decide +kernel
theorem dX10_looks_137 : decode cX10_looks 137 = .ok (.iload 5, 2) := by decide +kernel
theorem dX10_looks_139 : decode cX10_looks 139 = .ok (.istore 7, 2) := by decide +kernel
theorem dX10_looks_141 : decode cX10_looks 141 = .ok (.goto 118, 3) := by decide +kernel
theorem dX10_looks_144 : decode cX10_looks 144 = .ok (.aload_n 0, 1) := by decide +kernel
theorem dX10_looks_145 : decode cX10_looks 145 = .ok (.getfield 7, 3) := by decide +kernel
theorem dX10_looks_148 : decode cX10_looks 148 = .ok (.iload_n 1, 1) := by decide +kernel
theorem dX10_looks_149 : decode cX10_looks 149 = .ok (.sipush 222, 3) := by decide +kernel
theorem dX10_looks_152 : decode cX10_looks 152 = .ok (.iadd, 1) := by decide +kernel
theorem dX10_looks_153 : decode cX10_looks 153 = .ok (.iload_n 2, 1) := by decide +kernel
theorem dX10_looks_154 : decode cX10_looks 154 = .ok (.iadd, 1) := by decide +kernel
theorem dX10_looks_155 : decode cX10_looks 155 = .ok (.iload 6, 2) := by decide +kernel
theorem dX10_looks_157 : decode cX10_looks 157 = .ok (.iload 5, 2) := by decide +kernel
theorem dX10_looks_159 : decode cX10_looks 159 = .ok (.if_icmp .ne 7, 3) := by decide +kernel
theorem dX10_looks_162 : decode cX10_looks 162 = .ok (.iconst 0, 1) := by decide +kernel
theorem dX10_looks_163 : decode cX10_looks 163 = .ok (.goto 17, 3) := by decide +kernel
theorem dX10_looks_166 : decode cX10_looks 166 = .ok (.aload_n 0, 1) := by decide +kernel
theorem dX10_looks_167 : decode cX10_looks 167 = .ok (.getfield 7, 3) := by decide +kernel
theorem dX10_looks_170 : decode cX10_looks 170 = .ok (.iload_n 1, 1) := by decide +kernel
theorem dX10_looks_171 : decode cX10_looks 171 = .ok (.sipush 222, 3) := by decide +kernel
theorem dX10_looks_174 : decode cX10_looks 174 = .ok (.iadd, 1) := by decide +kernel
theorem dX10_looks_175 : decode cX10_looks 175 = .ok (.iload_n 2, 1) := by decide +kernel
theorem dX10_looks_176 : decode cX10_looks 176 = .ok (.iadd, 1) := by decide +kernel
theorem dX10_looks_177 : decode cX10_looks 177 = .ok (.iaload, 1) := by decide +kernel
theorem dX10_looks_178 : decode cX10_looks 178 = .ok (.iconst 1, 1) := by decide +kernel
theorem dX10_looks_179 : decode cX10_looks 179 = .ok (.iadd, 1) := by decide +kernel
theorem dX10_looks_180 : decode cX10_looks 180 = .ok (.iastore, 1) := by decide +kernel
theorem dX10_looks_181 : decode cX10_looks 181 = .ok (.aload_n 0, 1) := by decide +kernel
theorem dX10_looks_182 : decode cX10_looks 182 = .ok (.getfield 7, 3) := by decide +kernel
theorem dX10_looks_185 : decode cX10_looks 185 = .ok (.iload_n 1, 1) := by decide +kernel
theorem dX10_looks_186 : decode cX10_looks 186 = .ok (.sipush 222, 3) := by decide +kernel
theorem dX10_looks_189 : decode cX10_looks 189 = .ok (.iadd, 1) := by decide +kernel
