theorem dX0_init_0 : decode cX0_init 0 = .ok (.aload_n 0, 1) := by decide +kernel
theorem dX0_init_1 : decode cX0_init 1 = .ok (.invokespecial 3, 3) := by decide +kernel
theorem dX0_init_4 : decode cX0_init 4 = .ok (.aload_n 0, 1) := by decide +kernel
theorem dX0_init_5 : decode cX0_init 5 = .ok (.bipush 20, 2) := by decide +kernel
theorem dX0_init_7 : decode cX0_init 7 = .ok (.newarray .int, 2) := by decide +kernel
theorem dX0_init_9 : decode cX0_init 9 = .ok (.putfield 9, 3) := by decide +kernel
theorem dX0_init_12 : decode cX0_init 12 = .ok (.aload_n 0, 1) := by decide +kernel
theorem dX0_init_13 : decode cX0_init 13 = .ok (.bipush 20, 2) := by decide +kernel
theorem dX0_init_15 : decode cX0_init 15 = .ok (.newarray .int, 2) := by decide +kernel
theorem dX0_init_17 : decode cX0_init 17 = .ok (.putfield 15, 3) := by decide +kernel
theorem dX0_init_20 : decode cX0_init 20 = .ok (.return_, 1) := by decide +kernel
theorem dX0_append_0 : decode cX0_append 0 = .ok (.aload_n 0, 1) := by decide +kernel
theorem dX0_append_1 : decode cX0_append 1 = .ok (.getfield 18, 3) := by decide +kernel
theorem dX0_append_4 : decode cX0_append 4 = .ok (.ifCond .lt 12, 3) := by decide +kernel
theorem dX0_append_7 : decode cX0_append 7 = .ok (.aload_n 0, 1) := by decide +kernel
theorem dX0_append_8 : decode cX0_append 8 = .ok (.getfield 18, 3) := by decide +kernel
theorem dX0_append_11 : decode cX0_append 11 = .ok (.bipush 20, 2) := by decide +kernel
theorem dX0_append_13 : decode cX0_append 13 = .ok (.if_icmp .lt 5, 3) := by decide +kernel
theorem dX0_append_16 : decode cX0_append 16 = .ok (.iconst 0, 1) := by decide +kernel
theorem dX0_append_17 : decode cX0_append 17 = .ok (.ireturn, 1) := by decide +kernel
theorem dX0_append_18 : decode cX0_append 18 = .ok (.aload_n 0, 1) := by decide +kernel
theorem dX0_append_19 : decode cX0_append 19 = .ok (.getfield 9, 3) := by decide +kernel
theorem dX0_append_22 : decode cX0_append 22 = .ok (.aload_n 0, 1) := by decide +kernel
theorem dX0_append_23 : decode cX0_append 23 = .ok (.getfield 18, 3) := by decide +kernel
theorem dX0_append_26 : decode cX0_append 26 = .ok (.iload_n 1, 1) := by decide +kernel
theorem dX0_append_27 : decode cX0_append 27 = .ok (.iastore, 1) := by decide +kernel
theorem dX0_append_28 : decode cX0_append 28 = .ok (.aload_n 0, 1) := by decide +kernel
theorem dX0_append_29 : decode cX0_append 29 = .ok (.getfield 15, 3) := by decide +kernel
theorem dX0_append_32 : decode cX0_append 32 = .ok (.aload_n 0, 1) := by decide +kernel
theorem dX0_append_33 : decode cX0_append 33 = .ok (.getfield 18, 3) := by decide +kernel
theorem dX0_append_36 : decode cX0_append 36 = .ok (.iload_n 2, 1) := by decide +kernel
theorem dX0_append_37 : decode cX0_append 37 = .ok (.iastore, 1) := by decide +kernel
theorem dX0_append_38 : decode cX0_append 38 = .ok (.aload_n 0, 1) := by decide +kernel
theorem dX0_append_39 : decode cX0_append 39 = .ok (.dup, 1) := by decide +kernel
theorem dX0_append_40 : decode cX0_append 40 = .ok (.getfield 18, 3) := by decide +kernel
theorem dX0_append_43 : decode cX0_append 43 = .ok (.iconst 1, 1) := by decide +kernel
theorem dX0_append_44 : decode cX0_append 44 = .ok (.iadd, 1) := by decide +kernel
theorem dX0_append_45 : decode cX0_append 45 = .ok (.putfield 18, 3) := by decide +kernel
theorem dX0_append_48 : decode cX0_append 48 = .ok (.iconst 1, 1) := by decide +kernel
theorem dX0_append_49 : decode cX0_append 49 = .ok (.ireturn, 1) := by decide +kernel
set_option maxRecDepth 20000 in
theorem dX0_firstWrong_0 : decode cX0_firstWrong 0 = .ok (.iconst 0, 1) := by decide +kernel
theorem dX0_firstWrong_1 : decode cX0_firstWrong 1 = .ok (.istore_n 2, 1) := by decide +kernel
theorem dX0_firstWrong_2 : decode cX0_firstWrong 2 = .ok (.iload_n 2, 1) := by decide +kernel
theorem dX0_firstWrong_3 : decode cX0_firstWrong 3 = .ok (.aload_n 0, 1) := by decide +kernel
theorem dX0_firstWrong_4 : decode cX0_firstWrong 4 = .ok (.getfield 18, 3) := by decide +kernel
theorem dX0_firstWrong_7 : decode cX0_firstWrong 7 = .ok (.if_icmp .ge 50, 3) := by decide +kernel
theorem dX0_firstWrong_10 : decode cX0_firstWrong 10 = .ok (.iload_n 2, 1) := by decide +kernel
theorem dX0_firstWrong_11 : decode cX0_firstWrong 11 = .ok (.bipush 20, 2) := by decide +kernel
theorem dX0_firstWrong_13 : decode cX0_firstWrong 13 = .ok (.if_icmp .ge 44, 3) := by decide +kernel
theorem dX0_firstWrong_16 : decode cX0_firstWrong 16 = .ok (.aload_n 1, 1) := by decide +kernel
theorem dX0_firstWrong_17 : decode cX0_firstWrong 17 = .ok (.aload_n 0, 1) := by decide +kernel
theorem dX0_firstWrong_18 : decode cX0_firstWrong 18 = .ok (.getfield 9, 3) := by decide +kernel
theorem dX0_firstWrong_21 : decode cX0_firstWrong 21 = .ok (.iload_n 2, 1) := by decide +kernel
theorem dX0_firstWrong_22 : decode cX0_firstWrong 22 = .ok (.iaload, 1) := by decide +kernel
theorem dX0_firstWrong_23 : decode cX0_firstWrong 23 = .ok (.invokevirtual 22, 3) := by decide +kernel
theorem dX0_firstWrong_26 : decode cX0_firstWrong 26 = .ok (.ifCond .eq 25, 3) := by decide +kernel
theorem dX0_firstWrong_29 : decode cX0_firstWrong 29 = .ok (.aload_n 1, 1) := by decide +kernel
theorem dX0_firstWrong_30 : decode cX0_firstWrong 30 = .ok (.getfield 28, 3) := by decide +kernel
theorem dX0_firstWrong_33 : decode cX0_firstWrong 33 = .ok (.aload_n 0, 1) := by decide +kernel
theorem dX0_firstWrong_34 : decode cX0_firstWrong 34 = .ok (.getfield 9, 3) := by decide +kernel
theorem dX0_firstWrong_37 : decode cX0_firstWrong 37 = .ok (.iload_n 2, 1) := by decide +kernel
theorem dX0_firstWrong_38 : decode cX0_firstWrong 38 = .ok (.iaload, 1) := by decide +kernel
theorem dX0_firstWrong_39 : decode cX0_firstWrong 39 = .ok (.iaload, 1) := by decide +kernel
theorem dX0_firstWrong_40 : decode cX0_firstWrong 40 = .ok (.aload_n 0, 1) := by decide +kernel
theorem dX0_firstWrong_41 : decode cX0_firstWrong 41 = .ok (.getfield 15, 3) := by decide +kernel
theorem dX0_firstWrong_44 : decode cX0_firstWrong 44 = .ok (.iload_n 2, 1) := by decide +kernel
theorem dX0_firstWrong_45 : decode cX0_firstWrong 45 = .ok (.iaload, 1) := by decide +kernel
theorem dX0_firstWrong_46 : decode cX0_firstWrong 46 = .ok (.if_icmp .eq 5, 3) := by decide +kernel
theorem dX0_firstWrong_49 : decode cX0_firstWrong 49 = .ok (.iload_n 2, 1) := by decide +kernel
theorem dX0_firstWrong_50 : decode cX0_firstWrong 50 = .ok (.ireturn, 1) := by decide +kernel
theorem dX0_firstWrong_51 : decode cX0_firstWrong 51 = .ok (.iinc 2 1, 3) := by decide +kernel
theorem dX0_firstWrong_54 : decode cX0_firstWrong 54 = .ok (.goto (-52), 3) := by decide +kernel
theorem dX0_firstWrong_57 : decode cX0_firstWrong 57 = .ok (.iconst (-1), 1) := by decide +kernel
theorem dX0_firstWrong_58 : decode cX0_firstWrong 58 = .ok (.ireturn, 1) := by decide +kernel
theorem dX1_init_0 : decode cX1_init 0 = .ok (.aload_n 0, 1) := by decide +kernel
theorem dX1_init_1 : decode cX1_init 1 = .ok (.invokespecial 3, 3) := by decide +kernel
theorem dX1_init_4 : decode cX1_init 4 = .ok (.aload_n 0, 1) := by decide +kernel
theorem dX1_init_5 : decode cX1_init 5 = .ok (.bipush 6, 2) := by decide +kernel
theorem dX1_init_7 : decode cX1_init 7 = .ok (.newarray .int, 2) := by decide +kernel
theorem dX1_init_9 : decode cX1_init 9 = .ok (.putfield 9, 3) := by decide +kernel
theorem dX1_init_12 : decode cX1_init 12 = .ok (.aload_n 0, 1) := by decide +kernel
theorem dX1_init_13 : decode cX1_init 13 = .ok (.bipush 6, 2) := by decide +kernel
theorem dX1_init_15 : decode cX1_init 15 = .ok (.newarray .int, 2) := by decide +kernel
theorem dX1_init_17 : decode cX1_init 17 = .ok (.putfield 15, 3) := by decide +kernel
theorem dX1_init_20 : decode cX1_init 20 = .ok (.aload_n 0, 1) := by decide +kernel
theorem dX1_init_21 : decode cX1_init 21 = .ok (.bipush 6, 2) := by decide +kernel
theorem dX1_init_23 : decode cX1_init 23 = .ok (.newarray .int, 2) := by decide +kernel
theorem dX1_init_25 : decode cX1_init 25 = .ok (.putfield 18, 3) := by decide +kernel
theorem dX1_init_28 : decode cX1_init 28 = .ok (.aload_n 0, 1) := by decide +kernel
theorem dX1_init_29 : decode cX1_init 29 = .ok (.bipush 6, 2) := by decide +kernel
theorem dX1_init_31 : decode cX1_init 31 = .ok (.newarray .int, 2) := by decide +kernel
theorem dX1_init_33 : decode cX1_init 33 = .ok (.putfield 21, 3) := by decide +kernel
theorem dX1_init_36 : decode cX1_init 36 = .ok (.aload_n 0, 1) := by decide +kernel
theorem dX1_init_37 : decode cX1_init 37 = .ok (.bipush 6, 2) := by decide +kernel
theorem dX1_init_39 : decode cX1_init 39 = .ok (.newarray .int, 2) := by decide +kernel
theorem dX1_init_41 : decode cX1_init 41 = .ok (.putfield 24, 3) := by decide +kernel
theorem dX1_init_44 : decode cX1_init 44 = .ok (.aload_n 0, 1) := by decide +kernel
theorem dX1_init_45 : decode cX1_init 45 = .ok (.bipush 6, 2) := by decide +kernel
theorem dX1_init_47 : decode cX1_init 47 = .ok (.newarray .int, 2) := by decide +kernel
theorem dX1_init_49 : decode cX1_init 49 = .ok (.putfield 27, 3) := by decide +kernel
theorem dX1_init_52 : decode cX1_init 52 = .ok (.return_, 1) := by decide +kernel
set_option maxRecDepth 20000 in
theorem dX1_clear_0 : decode cX1_clear 0 = .ok (.aload_n 0, 1) := by decide +kernel
theorem dX1_clear_1 : decode cX1_clear 1 = .ok (.getfield 9, 3) := by decide +kernel
theorem dX1_clear_4 : decode cX1_clear 4 = .ok (.iconst 0, 1) := by decide +kernel
theorem dX1_clear_5 : decode cX1_clear 5 = .ok (.invokestatic 30, 3) := by decide +kernel
theorem dX1_clear_8 : decode cX1_clear 8 = .ok (.aload_n 0, 1) := by decide +kernel
theorem dX1_clear_9 : decode cX1_clear 9 = .ok (.getfield 15, 3) := by decide +kernel
theorem dX1_clear_12 : decode cX1_clear 12 = .ok (.iconst 0, 1) := by decide +kernel
theorem dX1_clear_13 : decode cX1_clear 13 = .ok (.invokestatic 30, 3) := by decide +kernel
theorem dX1_clear_16 : decode cX1_clear 16 = .ok (.aload_n 0, 1) := by decide +kernel
theorem dX1_clear_17 : decode cX1_clear 17 = .ok (.getfield 18, 3) := by decide +kernel
theorem dX1_clear_20 : decode cX1_clear 20 = .ok (.iconst 0, 1) := by decide +kernel
theorem dX1_clear_21 : decode cX1_clear 21 = .ok (.invokestatic 30, 3) := by decide +kernel
theorem dX1_clear_24 : decode cX1_clear 24 = .ok (.aload_n 0, 1) := by decide +kernel
theorem dX1_clear_25 : decode cX1_clear 25 = .ok (.invokevirtual 36, 3) := by decide +kernel
theorem dX1_clear_28 : decode cX1_clear 28 = .ok (.aload_n 0, 1) := by decide +kernel
theorem dX1_clear_29 : decode cX1_clear 29 = .ok (.iconst 0, 1) := by decide +kernel
theorem dX1_clear_30 : decode cX1_clear 30 = .ok (.putfield 39, 3) := by decide +kernel
theorem dX1_clear_33 : decode cX1_clear 33 = .ok (.return_, 1) := by decide +kernel
theorem dX1_copyFrom_0 : decode cX1_copyFrom 0 = .ok (.aload_n 1, 1) := by decide +kernel
theorem dX1_copyFrom_1 : decode cX1_copyFrom 1 = .ok (.getfield 9, 3) := by decide +kernel
theorem dX1_copyFrom_4 : decode cX1_copyFrom 4 = .ok (.iconst 0, 1) := by decide +kernel
theorem dX1_copyFrom_5 : decode cX1_copyFrom 5 = .ok (.aload_n 0, 1) := by decide +kernel
theorem dX1_copyFrom_6 : decode cX1_copyFrom 6 = .ok (.getfield 9, 3) := by decide +kernel
theorem dX1_copyFrom_9 : decode cX1_copyFrom 9 = .ok (.iconst 0, 1) := by decide +kernel
theorem dX1_copyFrom_10 : decode cX1_copyFrom 10 = .ok (.bipush 6, 2) := by decide +kernel
theorem dX1_copyFrom_12 : decode cX1_copyFrom 12 = .ok (.invokestatic 43, 3) := by decide +kernel
theorem dX1_copyFrom_15 : decode cX1_copyFrom 15 = .ok (.aload_n 1, 1) := by decide +kernel
theorem dX1_copyFrom_16 : decode cX1_copyFrom 16 = .ok (.getfield 15, 3) := by decide +kernel
theorem dX1_copyFrom_19 : decode cX1_copyFrom 19 = .ok (.iconst 0, 1) := by decide +kernel
theorem dX1_copyFrom_20 : decode cX1_copyFrom 20 = .ok (.aload_n 0, 1) := by decide +kernel
theorem dX1_copyFrom_21 : decode cX1_copyFrom 21 = .ok (.getfield 15, 3) := by decide +kernel
theorem dX1_copyFrom_24 : decode cX1_copyFrom 24 = .ok (.iconst 0, 1) := by decide +kernel
theorem dX1_copyFrom_25 : decode cX1_copyFrom 25 = .ok (.bipush 6, 2) := by decide +kernel
theorem dX1_copyFrom_27 : decode cX1_copyFrom 27 = .ok (.invokestatic 43, 3) := by decide +kernel
theorem dX1_copyFrom_30 : decode cX1_copyFrom 30 = .ok (.aload_n 1, 1) := by decide +kernel
theorem dX1_copyFrom_31 : decode cX1_copyFrom 31 = .ok (.getfield 18, 3) := by decide +kernel
theorem dX1_copyFrom_34 : decode cX1_copyFrom 34 = .ok (.iconst 0, 1) := by decide +kernel
theorem dX1_copyFrom_35 : decode cX1_copyFrom 35 = .ok (.aload_n 0, 1) := by decide +kernel
theorem dX1_copyFrom_36 : decode cX1_copyFrom 36 = .ok (.getfield 18, 3) := by decide +kernel
theorem dX1_copyFrom_39 : decode cX1_copyFrom 39 = .ok (.iconst 0, 1) := by decide +kernel
theorem dX1_copyFrom_40 : decode cX1_copyFrom 40 = .ok (.bipush 6, 2) := by decide +kernel
theorem dX1_copyFrom_42 : decode cX1_copyFrom 42 = .ok (.invokestatic 43, 3) := by decide +kernel
theorem dX1_copyFrom_45 : decode cX1_copyFrom 45 = .ok (.aload_n 1, 1) := by decide +kernel
theorem dX1_copyFrom_46 : decode cX1_copyFrom 46 = .ok (.getfield 21, 3) := by decide +kernel
theorem dX1_copyFrom_49 : decode cX1_copyFrom 49 = .ok (.iconst 0, 1) := by decide +kernel
theorem dX1_copyFrom_50 : decode cX1_copyFrom 50 = .ok (.aload_n 0, 1) := by decide +kernel
theorem dX1_copyFrom_51 : decode cX1_copyFrom 51 = .ok (.getfield 21, 3) := by decide +kernel
theorem dX1_copyFrom_54 : decode cX1_copyFrom 54 = .ok (.iconst 0, 1) := by decide +kernel
theorem dX1_copyFrom_55 : decode cX1_copyFrom 55 = .ok (.bipush 6, 2) := by decide +kernel
theorem dX1_copyFrom_57 : decode cX1_copyFrom 57 = .ok (.invokestatic 43, 3) := by decide +kernel
theorem dX1_copyFrom_60 : decode cX1_copyFrom 60 = .ok (.aload_n 1, 1) := by decide +kernel
theorem dX1_copyFrom_61 : decode cX1_copyFrom 61 = .ok (.getfield 24, 3) := by decide +kernel
theorem dX1_copyFrom_64 : decode cX1_copyFrom 64 = .ok (.iconst 0, 1) := by decide +kernel
theorem dX1_copyFrom_65 : decode cX1_copyFrom 65 = .ok (.aload_n 0, 1) := by decide +kernel
theorem dX1_copyFrom_66 : decode cX1_copyFrom 66 = .ok (.getfield 24, 3) := by decide +kernel
theorem dX1_copyFrom_69 : decode cX1_copyFrom 69 = .ok (.iconst 0, 1) := by decide +kernel
theorem dX1_copyFrom_70 : decode cX1_copyFrom 70 = .ok (.bipush 6, 2) := by decide +kernel
theorem dX1_copyFrom_72 : decode cX1_copyFrom 72 = .ok (.invokestatic 43, 3) := by decide +kernel
theorem dX1_copyFrom_75 : decode cX1_copyFrom 75 = .ok (.aload_n 1, 1) := by decide +kernel
theorem dX1_copyFrom_76 : decode cX1_copyFrom 76 = .ok (.getfield 27, 3) := by decide +kernel
theorem dX1_copyFrom_79 : decode cX1_copyFrom 79 = .ok (.iconst 0, 1) := by decide +kernel
theorem dX1_copyFrom_80 : decode cX1_copyFrom 80 = .ok (.aload_n 0, 1) := by decide +kernel
theorem dX1_copyFrom_81 : decode cX1_copyFrom 81 = .ok (.getfield 27, 3) := by decide +kernel
theorem dX1_copyFrom_84 : decode cX1_copyFrom 84 = .ok (.iconst 0, 1) := by decide +kernel
theorem dX1_copyFrom_85 : decode cX1_copyFrom 85 = .ok (.bipush 6, 2) := by decide +kernel
theorem dX1_copyFrom_87 : decode cX1_copyFrom 87 = .ok (.invokestatic 43, 3) := by decide +kernel
theorem dX1_copyFrom_90 : decode cX1_copyFrom 90 = .ok (.aload_n 0, 1) := by decide +kernel
theorem dX1_copyFrom_91 : decode cX1_copyFrom 91 = .ok (.aload_n 1, 1) := by decide +kernel
theorem dX1_copyFrom_92 : decode cX1_copyFrom 92 = .ok (.getfield 39, 3) := by decide +kernel
theorem dX1_copyFrom_95 : decode cX1_copyFrom 95 = .ok (.putfield 39, 3) := by decide +kernel
theorem dX1_copyFrom_98 : decode cX1_copyFrom 98 = .ok (.return_, 1) := by decide +kernel
set_option maxRecDepth 20000 in
theorem dX1_calmSights_0 : decode cX1_calmSights 0 = .ok (.aload_n 0, 1) := by decide +kernel
theorem dX1_calmSights_1 : decode cX1_calmSights 1 = .ok (.getfield 21, 3) := by decide +kernel
theorem dX1_calmSights_4 : decode cX1_calmSights 4 = .ok (.iconst 0, 1) := by decide +kernel
theorem dX1_calmSights_5 : decode cX1_calmSights 5 = .ok (.invokestatic 30, 3) := by decide +kernel
theorem dX1_calmSights_8 : decode cX1_calmSights 8 = .ok (.aload_n 0, 1) := by decide +kernel
theorem dX1_calmSights_9 : decode cX1_calmSights 9 = .ok (.getfield 24, 3) := by decide +kernel
theorem dX1_calmSights_12 : decode cX1_calmSights 12 = .ok (.iconst 0, 1) := by decide +kernel
theorem dX1_calmSights_13 : decode cX1_calmSights 13 = .ok (.invokestatic 30, 3) := by decide +kernel
theorem dX1_calmSights_16 : decode cX1_calmSights 16 = .ok (.aload_n 0, 1) := by decide +kernel
theorem dX1_calmSights_17 : decode cX1_calmSights 17 = .ok (.getfield 27, 3) := by decide +kernel
theorem dX1_calmSights_20 : decode cX1_calmSights 20 = .ok (.iconst 0, 1) := by decide +kernel
theorem dX1_calmSights_21 : decode cX1_calmSights 21 = .ok (.invokestatic 30, 3) := by decide +kernel
theorem dX1_calmSights_24 : decode cX1_calmSights 24 = .ok (.return_, 1) := by decide +kernel
theorem dX1_has_0 : decode cX1_has 0 = .ok (.iload_n 1, 1) := by decide +kernel
theorem dX1_has_1 : decode cX1_has 1 = .ok (.ifCond .lt 21, 3) := by decide +kernel
theorem dX1_has_4 : decode cX1_has 4 = .ok (.iload_n 1, 1) := by decide +kernel
theorem dX1_has_5 : decode cX1_has 5 = .ok (.aload_n 0, 1) := by decide +kernel
theorem dX1_has_6 : decode cX1_has 6 = .ok (.getfield 39, 3) := by decide +kernel
theorem dX1_has_9 : decode cX1_has 9 = .ok (.if_icmp .ge 13, 3) := by decide +kernel
theorem dX1_has_12 : decode cX1_has 12 = .ok (.iload_n 1, 1) := by decide +kernel
theorem dX1_has_13 : decode cX1_has 13 = .ok (.bipush 6, 2) := by decide +kernel
theorem dX1_has_15 : decode cX1_has 15 = .ok (.if_icmp .ge 7, 3) := by decide +kernel
theorem dX1_has_18 : decode cX1_has 18 = .ok (.iconst 1, 1) := by decide +kernel
theorem dX1_has_19 : decode cX1_has 19 = .ok (.goto 4, 3) := by decide +kernel
theorem dX1_has_22 : decode cX1_has 22 = .ok (.iconst 0, 1) := by decide +kernel
theorem dX1_has_23 : decode cX1_has 23 = .ok (.ireturn, 1) := by decide +kernel
theorem dX1_add_0 : decode cX1_add 0 = .ok (.aload_n 0, 1) := by decide +kernel
theorem dX1_add_1 : decode cX1_add 1 = .ok (.getfield 39, 3) := by decide +kernel
theorem dX1_add_4 : decode cX1_add 4 = .ok (.bipush 6, 2) := by decide +kernel
theorem dX1_add_6 : decode cX1_add 6 = .ok (.if_icmp .lt 4, 3) := by decide +kernel
theorem dX1_add_9 : decode cX1_add 9 = .ok (.return_, 1) := by decide +kernel
theorem dX1_add_10 : decode cX1_add 10 = .ok (.aload_n 0, 1) := by decide +kernel
theorem dX1_add_11 : decode cX1_add 11 = .ok (.getfield 9, 3) := by decide +kernel
theorem dX1_add_14 : decode cX1_add 14 = .ok (.aload_n 0, 1) := by decide +kernel
theorem dX1_add_15 : decode cX1_add 15 = .ok (.getfield 39, 3) := by decide +kernel
theorem dX1_add_18 : decode cX1_add 18 = .ok (.iload_n 1, 1) := by decide +kernel
theorem dX1_add_19 : decode cX1_add 19 = .ok (.iastore, 1) := by decide +kernel
theorem dX1_add_20 : decode cX1_add 20 = .ok (.aload_n 0, 1) := by decide +kernel
theorem dX1_add_21 : decode cX1_add 21 = .ok (.getfield 15, 3) := by decide +kernel
theorem dX1_add_24 : decode cX1_add 24 = .ok (.aload_n 0, 1) := by decide +kernel
theorem dX1_add_25 : decode cX1_add 25 = .ok (.getfield 39, 3) := by decide +kernel
theorem dX1_add_28 : decode cX1_add 28 = .ok (.iload_n 2, 1) := by decide +kernel
theorem dX1_add_29 : decode cX1_add 29 = .ok (.iastore, 1) := by decide +kernel
theorem dX1_add_30 : decode cX1_add 30 = .ok (.aload_n 0, 1) := by decide +kernel
theorem dX1_add_31 : decode cX1_add 31 = .ok (.getfield 18, 3) := by decide +kernel
theorem dX1_add_34 : decode cX1_add 34 = .ok (.aload_n 0, 1) := by decide +kernel
theorem dX1_add_35 : decode cX1_add 35 = .ok (.getfield 39, 3) := by decide +kernel
theorem dX1_add_38 : decode cX1_add 38 = .ok (.iload_n 3, 1) := by decide +kernel
theorem dX1_add_39 : decode cX1_add 39 = .ok (.iastore, 1) := by decide +kernel
theorem dX1_add_40 : decode cX1_add 40 = .ok (.aload_n 0, 1) := by decide +kernel
theorem dX1_add_41 : decode cX1_add 41 = .ok (.dup, 1) := by decide +kernel
theorem dX1_add_42 : decode cX1_add 42 = .ok (.getfield 39, 3) := by decide +kernel
theorem dX1_add_45 : decode cX1_add 45 = .ok (.iconst 1, 1) := by decide +kernel
theorem dX1_add_46 : decode cX1_add 46 = .ok (.iadd, 1) := by decide +kernel
theorem dX1_add_47 : decode cX1_add 47 = .ok (.putfield 39, 3) := by decide +kernel
theorem dX1_add_50 : decode cX1_add 50 = .ok (.return_, 1) := by decide +kernel
theorem dX1_sightSet_0 : decode cX1_sightSet 0 = .ok (.iconst 0, 1) := by decide +kernel
theorem dX1_sightSet_1 : decode cX1_sightSet 1 = .ok (.istore_n 1, 1) := by decide +kernel
theorem dX1_sightSet_2 : decode cX1_sightSet 2 = .ok (.iconst 0, 1) := by decide +kernel
theorem dX1_sightSet_3 : decode cX1_sightSet 3 = .ok (.istore_n 2, 1) := by decide +kernel
theorem dX1_sightSet_4 : decode cX1_sightSet 4 = .ok (.iload_n 2, 1) := by decide +kernel
theorem dX1_sightSet_5 : decode cX1_sightSet 5 = .ok (.aload_n 0, 1) := by decide +kernel
theorem dX1_sightSet_6 : decode cX1_sightSet 6 = .ok (.getfield 39, 3) := by decide +kernel
theorem dX1_sightSet_9 : decode cX1_sightSet 9 = .ok (.if_icmp .ge 26, 3) := by decide +kernel
theorem dX1_sightSet_12 : decode cX1_sightSet 12 = .ok (.iload_n 2, 1) := by decide +kernel
theorem dX1_sightSet_13 : decode cX1_sightSet 13 = .ok (.bipush 6, 2) := by decide +kernel
theorem dX1_sightSet_15 : decode cX1_sightSet 15 = .ok (.if_icmp .ge 20, 3) := by decide +kernel
theorem dX1_sightSet_18 : decode cX1_sightSet 18 = .ok (.iload_n 1, 1) := by decide +kernel
theorem dX1_sightSet_19 : decode cX1_sightSet 19 = .ok (.aload_n 0, 1) := by decide +kernel
theorem dX1_sightSet_20 : decode cX1_sightSet 20 = .ok (.getfield 21, 3) := by decide +kernel
theorem dX1_sightSet_23 : decode cX1_sightSet 23 = .ok (.iload_n 2, 1) := by decide +kernel
theorem dX1_sightSet_24 : decode cX1_sightSet 24 = .ok (.iaload, 1) := by decide +kernel
theorem dX1_sightSet_25 : decode cX1_sightSet 25 = .ok (.iload_n 2, 1) := by decide +kernel
theorem dX1_sightSet_26 : decode cX1_sightSet 26 = .ok (.ishl, 1) := by decide +kernel
theorem dX1_sightSet_27 : decode cX1_sightSet 27 = .ok (.ior, 1) := by decide +kernel
theorem dX1_sightSet_28 : decode cX1_sightSet 28 = .ok (.istore_n 1, 1) := by decide +kernel
theorem dX1_sightSet_29 : decode cX1_sightSet 29 = .ok (.iinc 2 1, 3) := by decide +kernel
theorem dX1_sightSet_32 : decode cX1_sightSet 32 = .ok (.goto (-28), 3) := by decide +kernel
theorem dX1_sightSet_35 : decode cX1_sightSet 35 = .ok (.iload_n 1, 1) := by decide +kernel
theorem dX1_sightSet_36 : decode cX1_sightSet 36 = .ok (.ireturn, 1) := by decide +kernel
theorem dX1_allEdges_0 : decode cX1_allEdges 0 = .ok (.iconst 0, 1) := by decide +kernel
theorem dX1_allEdges_1 : decode cX1_allEdges 1 = .ok (.istore_n 1, 1) := by decide +kernel
theorem dX1_allEdges_2 : decode cX1_allEdges 2 = .ok (.iconst 0, 1) := by decide +kernel
theorem dX1_allEdges_3 : decode cX1_allEdges 3 = .ok (.istore_n 2, 1) := by decide +kernel
theorem dX1_allEdges_4 : decode cX1_allEdges 4 = .ok (.iload_n 2, 1) := by decide +kernel
theorem dX1_allEdges_5 : decode cX1_allEdges 5 = .ok (.aload_n 0, 1) := by decide +kernel
theorem dX1_allEdges_6 : decode cX1_allEdges 6 = .ok (.getfield 39, 3) := by decide +kernel
theorem dX1_allEdges_9 : decode cX1_allEdges 9 = .ok (.if_icmp .ge 24, 3) := by decide +kernel
theorem dX1_allEdges_12 : decode cX1_allEdges 12 = .ok (.iload_n 2, 1) := by decide +kernel
theorem dX1_allEdges_13 : decode cX1_allEdges 13 = .ok (.bipush 6, 2) := by decide +kernel
theorem dX1_allEdges_15 : decode cX1_allEdges 15 = .ok (.if_icmp .ge 18, 3) := by decide +kernel
theorem dX1_allEdges_18 : decode cX1_allEdges 18 = .ok (.iload_n 1, 1) := by decide +kernel
theorem dX1_allEdges_19 : decode cX1_allEdges 19 = .ok (.aload_n 0, 1) := by decide +kernel
theorem dX1_allEdges_20 : decode cX1_allEdges 20 = .ok (.getfield 24, 3) := by decide +kernel
theorem dX1_allEdges_23 : decode cX1_allEdges 23 = .ok (.iload_n 2, 1) := by decide +kernel
theorem dX1_allEdges_24 : decode cX1_allEdges 24 = .ok (.iaload, 1) := by decide +kernel
theorem dX1_allEdges_25 : decode cX1_allEdges 25 = .ok (.iadd, 1) := by decide +kernel
theorem dX1_allEdges_26 : decode cX1_allEdges 26 = .ok (.istore_n 1, 1) := by decide +kernel
theorem dX1_allEdges_27 : decode cX1_allEdges 27 = .ok (.iinc 2 1, 3) := by decide +kernel
theorem dX1_allEdges_30 : decode cX1_allEdges 30 = .ok (.goto (-26), 3) := by decide +kernel
theorem dX1_allEdges_33 : decode cX1_allEdges 33 = .ok (.iload_n 1, 1) := by decide +kernel
theorem dX1_allEdges_34 : decode cX1_allEdges 34 = .ok (.ireturn, 1) := by decide +kernel
set_option maxRecDepth 20000 in
theorem dX1_watch_0 : decode cX1_watch 0 = .ok (.iconst 0, 1) := by decide +kernel
theorem dX1_watch_1 : decode cX1_watch 1 = .ok (.istore_n 2, 1) := by decide +kernel
theorem dX1_watch_2 : decode cX1_watch 2 = .ok (.iload_n 2, 1) := by decide +kernel
theorem dX1_watch_3 : decode cX1_watch 3 = .ok (.aload_n 0, 1) := by decide +kernel
theorem dX1_watch_4 : decode cX1_watch 4 = .ok (.getfield 39, 3) := by decide +kernel
theorem dX1_watch_7 : decode cX1_watch 7 = .ok (.if_icmp .ge 68, 3) := by decide +kernel
theorem dX1_watch_10 : decode cX1_watch 10 = .ok (.iload_n 2, 1) := by decide +kernel
theorem dX1_watch_11 : decode cX1_watch 11 = .ok (.bipush 6, 2) := by decide +kernel
theorem dX1_watch_13 : decode cX1_watch 13 = .ok (.if_icmp .ge 62, 3) := by decide +kernel
theorem dX1_watch_16 : decode cX1_watch 16 = .ok (.aload_n 0, 1) := by decide +kernel
theorem dX1_watch_17 : decode cX1_watch 17 = .ok (.iload_n 2, 1) := by decide +kernel
theorem dX1_watch_18 : decode cX1_watch 18 = .ok (.aload_n 1, 1) := by decide +kernel
theorem dX1_watch_19 : decode cX1_watch 19 = .ok (.aload_n 0, 1) := by decide +kernel
theorem dX1_watch_20 : decode cX1_watch 20 = .ok (.getfield 15, 3) := by decide +kernel
theorem dX1_watch_23 : decode cX1_watch 23 = .ok (.iload_n 2, 1) := by decide +kernel
theorem dX1_watch_24 : decode cX1_watch 24 = .ok (.iaload, 1) := by decide +kernel
theorem dX1_watch_25 : decode cX1_watch 25 = .ok (.invokevirtual 49, 3) := by decide +kernel
theorem dX1_watch_28 : decode cX1_watch 28 = .ok (.invokevirtual 55, 3) := by decide +kernel
theorem dX1_watch_31 : decode cX1_watch 31 = .ok (.istore_n 3, 1) := by decide +kernel
theorem dX1_watch_32 : decode cX1_watch 32 = .ok (.iload_n 3, 1) := by decide +kernel
theorem dX1_watch_33 : decode cX1_watch 33 = .ok (.aload_n 0, 1) := by decide +kernel
theorem dX1_watch_34 : decode cX1_watch 34 = .ok (.getfield 21, 3) := by decide +kernel
theorem dX1_watch_37 : decode cX1_watch 37 = .ok (.iload_n 2, 1) := by decide +kernel
theorem dX1_watch_38 : decode cX1_watch 38 = .ok (.iaload, 1) := by decide +kernel
theorem dX1_watch_39 : decode cX1_watch 39 = .ok (.if_icmp .eq 30, 3) := by decide +kernel
theorem dX1_watch_42 : decode cX1_watch 42 = .ok (.aload_n 0, 1) := by decide +kernel
theorem dX1_watch_43 : decode cX1_watch 43 = .ok (.getfield 21, 3) := by decide +kernel
theorem dX1_watch_46 : decode cX1_watch 46 = .ok (.iload_n 2, 1) := by decide +kernel
theorem dX1_watch_47 : decode cX1_watch 47 = .ok (.iload_n 3, 1) := by decide +kernel
theorem dX1_watch_48 : decode cX1_watch 48 = .ok (.iastore, 1) := by decide +kernel
theorem dX1_watch_49 : decode cX1_watch 49 = .ok (.aload_n 0, 1) := by decide +kernel
theorem dX1_watch_50 : decode cX1_watch 50 = .ok (.getfield 24, 3) := by decide +kernel
theorem dX1_watch_53 : decode cX1_watch 53 = .ok (.iload_n 2, 1) := by decide +kernel
theorem dX1_watch_54 : decode cX1_watch 54 = .ok (.sipush 9999, 3) := by decide +kernel
theorem dX1_watch_57 : decode cX1_watch 57 = .ok (.aload_n 0, 1) := by decide +kernel
theorem dX1_watch_58 : decode cX1_watch 58 = .ok (.getfield 24, 3) := by decide +kernel
theorem dX1_watch_61 : decode cX1_watch 61 = .ok (.iload_n 2, 1) := by decide +kernel
theorem dX1_watch_62 : decode cX1_watch 62 = .ok (.iaload, 1) := by decide +kernel
theorem dX1_watch_63 : decode cX1_watch 63 = .ok (.iconst 1, 1) := by decide +kernel
theorem dX1_watch_64 : decode cX1_watch 64 = .ok (.iadd, 1) := by decide +kernel
theorem dX1_watch_65 : decode cX1_watch 65 = .ok (.invokestatic 59, 3) := by decide +kernel
theorem dX1_watch_68 : decode cX1_watch 68 = .ok (.iastore, 1) := by decide +kernel
theorem dX1_watch_69 : decode cX1_watch 69 = .ok (.iinc 2 1, 3) := by decide +kernel
theorem dX1_watch_72 : decode cX1_watch 72 = .ok (.goto (-70), 3) := by decide +kernel
theorem dX1_watch_75 : decode cX1_watch 75 = .ok (.return_, 1) := by decide +kernel
set_option maxRecDepth 20000 in
theorem dX1_nextSight_0 : decode cX1_nextSight 0 = .ok (.aload_n 0, 1) := by decide +kernel
theorem dX1_nextSight_1 : decode cX1_nextSight 1 = .ok (.iload_n 1, 1) := by decide +kernel
theorem dX1_nextSight_2 : decode cX1_nextSight 2 = .ok (.invokevirtual 64, 3) := by decide +kernel
theorem dX1_nextSight_5 : decode cX1_nextSight 5 = .ok (.ifCond .ne 5, 3) := by decide +kernel
theorem dX1_nextSight_8 : decode cX1_nextSight 8 = .ok (.iconst 0, 1) := by decide +kernel
theorem dX1_nextSight_9 : decode cX1_nextSight 9 = .ok (.ireturn, 1) := by decide +kernel
theorem dX1_nextSight_10 : decode cX1_nextSight 10 = .ok (.iload_n 2, 1) := by decide +kernel
theorem dX1_nextSight_11 : decode cX1_nextSight 11 = .ok (.aload_n 0, 1) := by decide +kernel
theorem dX1_nextSight_12 : decode cX1_nextSight 12 = .ok (.getfield 18, 3) := by decide +kernel
theorem dX1_nextSight_15 : decode cX1_nextSight 15 = .ok (.iload_n 1, 1) := by decide +kernel
theorem dX1_nextSight_16 : decode cX1_nextSight 16 = .ok (.iaload, 1) := by decide +kernel
theorem dX1_nextSight_17 : decode cX1_nextSight 17 = .ok (.sipush 1000, 3) := by decide +kernel
theorem dX1_nextSight_20 : decode cX1_nextSight 20 = .ok (.imul, 1) := by decide +kernel
theorem dX1_nextSight_21 : decode cX1_nextSight 21 = .ok (.if_icmp .lt 7, 3) := by decide +kernel
theorem dX1_nextSight_24 : decode cX1_nextSight 24 = .ok (.iconst 1, 1) := by decide +kernel
theorem dX1_nextSight_25 : decode cX1_nextSight 25 = .ok (.goto 4, 3) := by decide +kernel
theorem dX1_nextSight_28 : decode cX1_nextSight 28 = .ok (.iconst 0, 1) := by decide +kernel
theorem dX1_nextSight_29 : decode cX1_nextSight 29 = .ok (.istore_n 3, 1) := by decide +kernel
theorem dX1_nextSight_30 : decode cX1_nextSight 30 = .ok (.aload_n 0, 1) := by decide +kernel
theorem dX1_nextSight_31 : decode cX1_nextSight 31 = .ok (.getfield 9, 3) := by decide +kernel
theorem dX1_nextSight_34 : decode cX1_nextSight 34 = .ok (.iload_n 1, 1) := by decide +kernel
theorem dX1_nextSight_35 : decode cX1_nextSight 35 = .ok (.iaload, 1) := by decide +kernel
theorem dX1_nextSight_36 : decode cX1_nextSight 36 = .ok (.tableswitch 69 0 2 #[28, 30, 62], 28) := by decide +kernel
theorem dX1_nextSight_64 : decode cX1_nextSight 64 = .ok (.iload_n 3, 1) := by decide +kernel
theorem dX1_nextSight_65 : decode cX1_nextSight 65 = .ok (.ireturn, 1) := by decide +kernel
theorem dX1_nextSight_66 : decode cX1_nextSight 66 = .ok (.iload_n 3, 1) := by decide +kernel
theorem dX1_nextSight_67 : decode cX1_nextSight 67 = .ok (.iconst 1, 1) := by decide +kernel
theorem dX1_nextSight_68 : decode cX1_nextSight 68 = .ok (.if_icmp .eq 19, 3) := by decide +kernel
theorem dX1_nextSight_71 : decode cX1_nextSight 71 = .ok (.iload_n 2, 1) := by decide +kernel
theorem dX1_nextSight_72 : decode cX1_nextSight 72 = .ok (.aload_n 0, 1) := by decide +kernel
theorem dX1_nextSight_73 : decode cX1_nextSight 73 = .ok (.getfield 18, 3) := by decide +kernel
theorem dX1_nextSight_76 : decode cX1_nextSight 76 = .ok (.iload_n 1, 1) := by decide +kernel
theorem dX1_nextSight_77 : decode cX1_nextSight 77 = .ok (.iaload, 1) := by decide +kernel
theorem dX1_nextSight_78 : decode cX1_nextSight 78 = .ok (.sipush 1000, 3) := by decide +kernel
theorem dX1_nextSight_81 : decode cX1_nextSight 81 = .ok (.imul, 1) := by decide +kernel
theorem dX1_nextSight_82 : decode cX1_nextSight 82 = .ok (.iconst 2, 1) := by decide +kernel
theorem dX1_nextSight_83 : decode cX1_nextSight 83 = .ok (.idiv, 1) := by decide +kernel
theorem dX1_nextSight_84 : decode cX1_nextSight 84 = .ok (.if_icmp .ge 7, 3) := by decide +kernel
theorem dX1_nextSight_87 : decode cX1_nextSight 87 = .ok (.iload_n 3, 1) := by decide +kernel
theorem dX1_nextSight_88 : decode cX1_nextSight 88 = .ok (.goto 9, 3) := by decide +kernel
theorem dX1_nextSight_91 : decode cX1_nextSight 91 = .ok (.aload_n 0, 1) := by decide +kernel
theorem dX1_nextSight_92 : decode cX1_nextSight 92 = .ok (.getfield 21, 3) := by decide +kernel
theorem dX1_nextSight_95 : decode cX1_nextSight 95 = .ok (.iload_n 1, 1) := by decide +kernel
theorem dX1_nextSight_96 : decode cX1_nextSight 96 = .ok (.iaload, 1) := by decide +kernel
theorem dX1_nextSight_97 : decode cX1_nextSight 97 = .ok (.ireturn, 1) := by decide +kernel
theorem dX1_nextSight_98 : decode cX1_nextSight 98 = .ok (.aload_n 0, 1) := by decide +kernel
theorem dX1_nextSight_99 : decode cX1_nextSight 99 = .ok (.iload_n 1, 1) := by decide +kernel
theorem dX1_nextSight_100 : decode cX1_nextSight 100 = .ok (.iload_n 3, 1) := by decide +kernel
theorem dX1_nextSight_101 : decode cX1_nextSight 101 = .ok (.invokevirtual 68, 3) := by decide +kernel
theorem dX1_nextSight_104 : decode cX1_nextSight 104 = .ok (.ireturn, 1) := by decide +kernel
theorem dX1_nextSight_105 : decode cX1_nextSight 105 = .ok (.iconst 1, 1) := by decide +kernel
theorem dX1_nextSight_106 : decode cX1_nextSight 106 = .ok (.iload_n 3, 1) := by decide +kernel
theorem dX1_nextSight_107 : decode cX1_nextSight 107 = .ok (.isub, 1) := by decide +kernel
theorem dX1_nextSight_108 : decode cX1_nextSight 108 = .ok (.ireturn, 1) := by decide +kernel
set_option maxRecDepth 20000 in
theorem dX1_slowSight_0 : decode cX1_slowSight 0 = .ok (.aload_n 0, 1) := by decide +kernel
theorem dX1_slowSight_1 : decode cX1_slowSight 1 = .ok (.iload_n 1, 1) := by decide +kernel
theorem dX1_slowSight_2 : decode cX1_slowSight 2 = .ok (.invokevirtual 64, 3) := by decide +kernel
theorem dX1_slowSight_5 : decode cX1_slowSight 5 = .ok (.ifCond .ne 5, 3) := by decide +kernel
theorem dX1_slowSight_8 : decode cX1_slowSight 8 = .ok (.iconst 0, 1) := by decide +kernel
theorem dX1_slowSight_9 : decode cX1_slowSight 9 = .ok (.ireturn, 1) := by decide +kernel
theorem dX1_slowSight_10 : decode cX1_slowSight 10 = .ok (.aload_n 0, 1) := by decide +kernel
theorem dX1_slowSight_11 : decode cX1_slowSight 11 = .ok (.getfield 27, 3) := by decide +kernel
theorem dX1_slowSight_14 : decode cX1_slowSight 14 = .ok (.iload_n 1, 1) := by decide +kernel
theorem dX1_slowSight_15 : decode cX1_slowSight 15 = .ok (.iload_n 2, 1) := by decide +kernel
theorem dX1_slowSight_16 : decode cX1_slowSight 16 = .ok (.aload_n 0, 1) := by decide +kernel
theorem dX1_slowSight_17 : decode cX1_slowSight 17 = .ok (.getfield 21, 3) := by decide +kernel
theorem dX1_slowSight_20 : decode cX1_slowSight 20 = .ok (.iload_n 1, 1) := by decide +kernel
theorem dX1_slowSight_21 : decode cX1_slowSight 21 = .ok (.iaload, 1) := by decide +kernel
theorem dX1_slowSight_22 : decode cX1_slowSight 22 = .ok (.if_icmp .ne 7, 3) := by decide +kernel
theorem dX1_slowSight_25 : decode cX1_slowSight 25 = .ok (.iconst 0, 1) := by decide +kernel
theorem dX1_slowSight_26 : decode cX1_slowSight 26 = .ok (.goto 11, 3) := by decide +kernel
theorem dX1_slowSight_29 : decode cX1_slowSight 29 = .ok (.aload_n 0, 1) := by decide +kernel
theorem dX1_slowSight_30 : decode cX1_slowSight 30 = .ok (.getfield 27, 3) := by decide +kernel
theorem dX1_slowSight_33 : decode cX1_slowSight 33 = .ok (.iload_n 1, 1) := by decide +kernel
theorem dX1_slowSight_34 : decode cX1_slowSight 34 = .ok (.iaload, 1) := by decide +kernel
theorem dX1_slowSight_35 : decode cX1_slowSight 35 = .ok (.iconst 1, 1) := by decide +kernel
theorem dX1_slowSight_36 : decode cX1_slowSight 36 = .ok (.iadd, 1) := by decide +kernel
theorem dX1_slowSight_37 : decode cX1_slowSight 37 = .ok (.iastore, 1) := by decide +kernel
theorem dX1_slowSight_38 : decode cX1_slowSight 38 = .ok (.aload_n 0, 1) := by decide +kernel
theorem dX1_slowSight_39 : decode cX1_slowSight 39 = .ok (.getfield 27, 3) := by decide +kernel
theorem dX1_slowSight_42 : decode cX1_slowSight 42 = .ok (.iload_n 1, 1) := by decide +kernel
theorem dX1_slowSight_43 : decode cX1_slowSight 43 = .ok (.iaload, 1) := by decide +kernel
theorem dX1_slowSight_44 : decode cX1_slowSight 44 = .ok (.iconst 3, 1) := by decide +kernel
theorem dX1_slowSight_45 : decode cX1_slowSight 45 = .ok (.if_icmp .ge 10, 3) := by decide +kernel
theorem dX1_slowSight_48 : decode cX1_slowSight 48 = .ok (.aload_n 0, 1) := by decide +kernel
theorem dX1_slowSight_49 : decode cX1_slowSight 49 = .ok (.getfield 21, 3) := by decide +kernel
theorem dX1_slowSight_52 : decode cX1_slowSight 52 = .ok (.iload_n 1, 1) := by decide +kernel
theorem dX1_slowSight_53 : decode cX1_slowSight 53 = .ok (.iaload, 1) := by decide +kernel
theorem dX1_slowSight_54 : decode cX1_slowSight 54 = .ok (.ireturn, 1) := by decide +kernel
theorem dX1_slowSight_55 : decode cX1_slowSight 55 = .ok (.aload_n 0, 1) := by decide +kernel
theorem dX1_slowSight_56 : decode cX1_slowSight 56 = .ok (.getfield 27, 3) := by decide +kernel
theorem dX1_slowSight_59 : decode cX1_slowSight 59 = .ok (.iload_n 1, 1) := by decide +kernel
theorem dX1_slowSight_60 : decode cX1_slowSight 60 = .ok (.iconst 0, 1) := by decide +kernel
theorem dX1_slowSight_61 : decode cX1_slowSight 61 = .ok (.iastore, 1) := by decide +kernel
theorem dX1_slowSight_62 : decode cX1_slowSight 62 = .ok (.iload_n 2, 1) := by decide +kernel
theorem dX1_slowSight_63 : decode cX1_slowSight 63 = .ok (.ireturn, 1) := by decide +kernel
set_option maxRecDepth 20000 in
theorem dX2_init_0 : decode cX2_init 0 = .ok (.aload_n 0, 1) := by decide +kernel
theorem dX2_init_1 : decode cX2_init 1 = .ok (.invokespecial 1, 3) := by decide +kernel
theorem dX2_init_4 : decode cX2_init 4 = .ok (.aload_n 0, 1) := by decide +kernel
theorem dX2_init_5 : decode cX2_init 5 = .ok (.new 7, 3) := by decide +kernel
theorem dX2_init_8 : decode cX2_init 8 = .ok (.dup, 1) := by decide +kernel
theorem dX2_init_9 : decode cX2_init 9 = .ok (.invokespecial 9, 3) := by decide +kernel
theorem dX2_init_12 : decode cX2_init 12 = .ok (.putfield 10, 3) := by decide +kernel
theorem dX2_init_15 : decode cX2_init 15 = .ok (.return_, 1) := by decide +kernel
set_option maxRecDepth 20000 in
theorem dX3_init_0 : decode cX3_init 0 = .ok (.aload_n 0, 1) := by decide +kernel
theorem dX3_init_1 : decode cX3_init 1 = .ok (.invokespecial 1, 3) := by decide +kernel
theorem dX3_init_4 : decode cX3_init 4 = .ok (.aload_n 0, 1) := by decide +kernel
theorem dX3_init_5 : decode cX3_init 5 = .ok (.new 7, 3) := by decide +kernel
theorem dX3_init_8 : decode cX3_init 8 = .ok (.dup, 1) := by decide +kernel
theorem dX3_init_9 : decode cX3_init 9 = .ok (.invokespecial 9, 3) := by decide +kernel
theorem dX3_init_12 : decode cX3_init 12 = .ok (.putfield 10, 3) := by decide +kernel
theorem dX3_init_15 : decode cX3_init 15 = .ok (.aload_n 0, 1) := by decide +kernel
theorem dX3_init_16 : decode cX3_init 16 = .ok (.new 16, 3) := by decide +kernel
theorem dX3_init_19 : decode cX3_init 19 = .ok (.dup, 1) := by decide +kernel
theorem dX3_init_20 : decode cX3_init 20 = .ok (.invokespecial 18, 3) := by decide +kernel
theorem dX3_init_23 : decode cX3_init 23 = .ok (.putfield 19, 3) := by decide +kernel
theorem dX3_init_26 : decode cX3_init 26 = .ok (.return_, 1) := by decide +kernel
set_option maxRecDepth 20000 in
theorem dX3_clear_0 : decode cX3_clear 0 = .ok (.aload_n 0, 1) := by decide +kernel
theorem dX3_clear_1 : decode cX3_clear 1 = .ok (.getfield 10, 3) := by decide +kernel
theorem dX3_clear_4 : decode cX3_clear 4 = .ok (.invokevirtual 23, 3) := by decide +kernel
theorem dX3_clear_7 : decode cX3_clear 7 = .ok (.aload_n 0, 1) := by decide +kernel
theorem dX3_clear_8 : decode cX3_clear 8 = .ok (.getfield 19, 3) := by decide +kernel
theorem dX3_clear_11 : decode cX3_clear 11 = .ok (.invokevirtual 26, 3) := by decide +kernel
theorem dX3_clear_14 : decode cX3_clear 14 = .ok (.aload_n 0, 1) := by decide +kernel
theorem dX3_clear_15 : decode cX3_clear 15 = .ok (.iconst 0, 1) := by decide +kernel
theorem dX3_clear_16 : decode cX3_clear 16 = .ok (.putfield 27, 3) := by decide +kernel
theorem dX3_clear_19 : decode cX3_clear 19 = .ok (.aload_n 0, 1) := by decide +kernel
theorem dX3_clear_20 : decode cX3_clear 20 = .ok (.iconst 0, 1) := by decide +kernel
theorem dX3_clear_21 : decode cX3_clear 21 = .ok (.putfield 31, 3) := by decide +kernel
theorem dX3_clear_24 : decode cX3_clear 24 = .ok (.return_, 1) := by decide +kernel
set_option maxRecDepth 20000 in
theorem dX3_copyFrom_0 : decode cX3_copyFrom 0 = .ok (.aload_n 0, 1) := by decide +kernel
theorem dX3_copyFrom_1 : decode cX3_copyFrom 1 = .ok (.getfield 10, 3) := by decide +kernel
theorem dX3_copyFrom_4 : decode cX3_copyFrom 4 = .ok (.aload_n 1, 1) := by decide +kernel
theorem dX3_copyFrom_5 : decode cX3_copyFrom 5 = .ok (.getfield 10, 3) := by decide +kernel
theorem dX3_copyFrom_8 : decode cX3_copyFrom 8 = .ok (.invokevirtual 35, 3) := by decide +kernel
theorem dX3_copyFrom_11 : decode cX3_copyFrom 11 = .ok (.aload_n 0, 1) := by decide +kernel
theorem dX3_copyFrom_12 : decode cX3_copyFrom 12 = .ok (.getfield 19, 3) := by decide +kernel
theorem dX3_copyFrom_15 : decode cX3_copyFrom 15 = .ok (.aload_n 1, 1) := by decide +kernel
theorem dX3_copyFrom_16 : decode cX3_copyFrom 16 = .ok (.getfield 19, 3) := by decide +kernel
theorem dX3_copyFrom_19 : decode cX3_copyFrom 19 = .ok (.invokevirtual 39, 3) := by decide +kernel
theorem dX3_copyFrom_22 : decode cX3_copyFrom 22 = .ok (.aload_n 0, 1) := by decide +kernel
theorem dX3_copyFrom_23 : decode cX3_copyFrom 23 = .ok (.aload_n 1, 1) := by decide +kernel
theorem dX3_copyFrom_24 : decode cX3_copyFrom 24 = .ok (.getfield 27, 3) := by decide +kernel
theorem dX3_copyFrom_27 : decode cX3_copyFrom 27 = .ok (.putfield 27, 3) := by decide +kernel
theorem dX3_copyFrom_30 : decode cX3_copyFrom 30 = .ok (.aload_n 0, 1) := by decide +kernel
theorem dX3_copyFrom_31 : decode cX3_copyFrom 31 = .ok (.aload_n 1, 1) := by decide +kernel
theorem dX3_copyFrom_32 : decode cX3_copyFrom 32 = .ok (.getfield 31, 3) := by decide +kernel
theorem dX3_copyFrom_35 : decode cX3_copyFrom 35 = .ok (.putfield 31, 3) := by decide +kernel
theorem dX3_copyFrom_38 : decode cX3_copyFrom 38 = .ok (.return_, 1) := by decide +kernel
set_option maxRecDepth 20000 in
theorem dX3_calm_0 : decode cX3_calm 0 = .ok (.aload_n 0, 1) := by decide +kernel
theorem dX3_calm_1 : decode cX3_calm 1 = .ok (.getfield 10, 3) := by decide +kernel
theorem dX3_calm_4 : decode cX3_calm 4 = .ok (.invokevirtual 42, 3) := by decide +kernel
theorem dX3_calm_7 : decode cX3_calm 7 = .ok (.aload_n 0, 1) := by decide +kernel
theorem dX3_calm_8 : decode cX3_calm 8 = .ok (.getfield 19, 3) := by decide +kernel
theorem dX3_calm_11 : decode cX3_calm 11 = .ok (.invokevirtual 45, 3) := by decide +kernel
theorem dX3_calm_14 : decode cX3_calm 14 = .ok (.return_, 1) := by decide +kernel
set_option maxRecDepth 20000 in
theorem dX3_pass_0 : decode cX3_pass 0 = .ok (.aload_n 0, 1) := by decide +kernel
theorem dX3_pass_1 : decode cX3_pass 1 = .ok (.getfield 10, 3) := by decide +kernel
theorem dX3_pass_4 : decode cX3_pass 4 = .ok (.invokevirtual 48, 3) := by decide +kernel
theorem dX3_pass_7 : decode cX3_pass 7 = .ok (.aload_n 0, 1) := by decide +kernel
theorem dX3_pass_8 : decode cX3_pass 8 = .ok (.getfield 19, 3) := by decide +kernel
theorem dX3_pass_11 : decode cX3_pass 11 = .ok (.aload_n 0, 1) := by decide +kernel
theorem dX3_pass_12 : decode cX3_pass 12 = .ok (.getfield 10, 3) := by decide +kernel
theorem dX3_pass_15 : decode cX3_pass 15 = .ok (.invokevirtual 51, 3) := by decide +kernel
theorem dX3_pass_18 : decode cX3_pass 18 = .ok (.aload_n 0, 1) := by decide +kernel
theorem dX3_pass_19 : decode cX3_pass 19 = .ok (.dup, 1) := by decide +kernel
theorem dX3_pass_20 : decode cX3_pass 20 = .ok (.getfield 31, 3) := by decide +kernel
theorem dX3_pass_23 : decode cX3_pass 23 = .ok (.iconst 1, 1) := by decide +kernel
theorem dX3_pass_24 : decode cX3_pass 24 = .ok (.iadd, 1) := by decide +kernel
theorem dX3_pass_25 : decode cX3_pass 25 = .ok (.putfield 31, 3) := by decide +kernel
theorem dX3_pass_28 : decode cX3_pass 28 = .ok (.return_, 1) := by decide +kernel
set_option maxRecDepth 20000 in
theorem dX4_init_0 : decode cX4_init 0 = .ok (.aload_n 0, 1) := by decide +kernel
theorem dX4_init_1 : decode cX4_init 1 = .ok (.invokespecial 3, 3) := by decide +kernel
theorem dX4_init_4 : decode cX4_init 4 = .ok (.aload_n 0, 1) := by decide +kernel
theorem dX4_init_5 : decode cX4_init 5 = .ok (.bipush 12, 2) := by decide +kernel
theorem dX4_init_7 : decode cX4_init 7 = .ok (.anewarray 9, 3) := by decide +kernel
theorem dX4_init_10 : decode cX4_init 10 = .ok (.putfield 11, 3) := by decide +kernel
theorem dX4_init_13 : decode cX4_init 13 = .ok (.iconst 0, 1) := by decide +kernel
theorem dX4_init_14 : decode cX4_init 14 = .ok (.istore_n 1, 1) := by decide +kernel
theorem dX4_init_15 : decode cX4_init 15 = .ok (.iload_n 1, 1) := by decide +kernel
theorem dX4_init_16 : decode cX4_init 16 = .ok (.bipush 12, 2) := by decide +kernel
theorem dX4_init_18 : decode cX4_init 18 = .ok (.if_icmp .ge 22, 3) := by decide +kernel
theorem dX4_init_21 : decode cX4_init 21 = .ok (.aload_n 0, 1) := by decide +kernel
theorem dX4_init_22 : decode cX4_init 22 = .ok (.getfield 11, 3) := by decide +kernel
theorem dX4_init_25 : decode cX4_init 25 = .ok (.iload_n 1, 1) := by decide +kernel
theorem dX4_init_26 : decode cX4_init 26 = .ok (.new 9, 3) := by decide +kernel
theorem dX4_init_29 : decode cX4_init 29 = .ok (.dup, 1) := by decide +kernel
theorem dX4_init_30 : decode cX4_init 30 = .ok (.invokespecial 17, 3) := by decide +kernel
theorem dX4_init_33 : decode cX4_init 33 = .ok (.aastore, 1) := by decide +kernel
theorem dX4_init_34 : decode cX4_init 34 = .ok (.iinc 1 1, 3) := by decide +kernel
theorem dX4_init_37 : decode cX4_init 37 = .ok (.goto (-22), 3) := by decide +kernel
theorem dX4_init_40 : decode cX4_init 40 = .ok (.return_, 1) := by decide +kernel
set_option maxRecDepth 20000 in
theorem dX4_remember_0 : decode cX4_remember 0 = .ok (.aload_n 0, 1) := by decide +kernel
theorem dX4_remember_1 : decode cX4_remember 1 = .ok (.getfield 18, 3) := by decide +kernel
theorem dX4_remember_4 : decode cX4_remember 4 = .ok (.ifCond .lt 12, 3) := by decide +kernel
theorem dX4_remember_7 : decode cX4_remember 7 = .ok (.aload_n 0, 1) := by decide +kernel
theorem dX4_remember_8 : decode cX4_remember 8 = .ok (.getfield 18, 3) := by decide +kernel
theorem dX4_remember_11 : decode cX4_remember 11 = .ok (.bipush 12, 2) := by decide +kernel
theorem dX4_remember_13 : decode cX4_remember 13 = .ok (.if_icmp .lt 8, 3) := by decide +kernel
theorem dX4_remember_16 : decode cX4_remember 16 = .ok (.aload_n 0, 1) := by decide +kernel
theorem dX4_remember_17 : decode cX4_remember 17 = .ok (.iconst 0, 1) := by decide +kernel
theorem dX4_remember_18 : decode cX4_remember 18 = .ok (.putfield 18, 3) := by decide +kernel
theorem dX4_remember_21 : decode cX4_remember 21 = .ok (.aload_n 0, 1) := by decide +kernel
theorem dX4_remember_22 : decode cX4_remember 22 = .ok (.getfield 11, 3) := by decide +kernel
theorem dX4_remember_25 : decode cX4_remember 25 = .ok (.aload_n 0, 1) := by decide +kernel
theorem dX4_remember_26 : decode cX4_remember 26 = .ok (.getfield 18, 3) := by decide +kernel
theorem dX4_remember_29 : decode cX4_remember 29 = .ok (.aaload, 1) := by decide +kernel
theorem dX4_remember_30 : decode cX4_remember 30 = .ok (.aload_n 1, 1) := by decide +kernel
theorem dX4_remember_31 : decode cX4_remember 31 = .ok (.invokevirtual 22, 3) := by decide +kernel
theorem dX4_remember_34 : decode cX4_remember 34 = .ok (.aload_n 0, 1) := by decide +kernel
theorem dX4_remember_35 : decode cX4_remember 35 = .ok (.aload_n 0, 1) := by decide +kernel
theorem dX4_remember_36 : decode cX4_remember 36 = .ok (.getfield 18, 3) := by decide +kernel
theorem dX4_remember_39 : decode cX4_remember 39 = .ok (.iconst 1, 1) := by decide +kernel
theorem dX4_remember_40 : decode cX4_remember 40 = .ok (.iadd, 1) := by decide +kernel
theorem dX4_remember_41 : decode cX4_remember 41 = .ok (.bipush 12, 2) := by decide +kernel
theorem dX4_remember_43 : decode cX4_remember 43 = .ok (.irem, 1) := by decide +kernel
theorem dX4_remember_44 : decode cX4_remember 44 = .ok (.putfield 18, 3) := by decide +kernel
theorem dX4_remember_47 : decode cX4_remember 47 = .ok (.aload_n 0, 1) := by decide +kernel
theorem dX4_remember_48 : decode cX4_remember 48 = .ok (.bipush 12, 2) := by decide +kernel
theorem dX4_remember_50 : decode cX4_remember 50 = .ok (.aload_n 0, 1) := by decide +kernel
theorem dX4_remember_51 : decode cX4_remember 51 = .ok (.getfield 26, 3) := by decide +kernel
theorem dX4_remember_54 : decode cX4_remember 54 = .ok (.iconst 1, 1) := by decide +kernel
theorem dX4_remember_55 : decode cX4_remember 55 = .ok (.iadd, 1) := by decide +kernel
theorem dX4_remember_56 : decode cX4_remember 56 = .ok (.invokestatic 29, 3) := by decide +kernel
theorem dX4_remember_59 : decode cX4_remember 59 = .ok (.putfield 26, 3) := by decide +kernel
theorem dX4_remember_62 : decode cX4_remember 62 = .ok (.return_, 1) := by decide +kernel
set_option maxRecDepth 20000 in
theorem dX4_bringBack_0 : decode cX4_bringBack 0 = .ok (.iload_n 2, 1) := by decide +kernel
theorem dX4_bringBack_1 : decode cX4_bringBack 1 = .ok (.iconst 1, 1) := by decide +kernel
theorem dX4_bringBack_2 : decode cX4_bringBack 2 = .ok (.if_icmp .lt 17, 3) := by decide +kernel
theorem dX4_bringBack_5 : decode cX4_bringBack 5 = .ok (.iload_n 2, 1) := by decide +kernel
theorem dX4_bringBack_6 : decode cX4_bringBack 6 = .ok (.aload_n 0, 1) := by decide +kernel
theorem dX4_bringBack_7 : decode cX4_bringBack 7 = .ok (.getfield 26, 3) := by decide +kernel
theorem dX4_bringBack_10 : decode cX4_bringBack 10 = .ok (.if_icmp .gt 9, 3) := by decide +kernel
theorem dX4_bringBack_13 : decode cX4_bringBack 13 = .ok (.iload_n 2, 1) := by decide +kernel
theorem dX4_bringBack_14 : decode cX4_bringBack 14 = .ok (.bipush 12, 2) := by decide +kernel
theorem dX4_bringBack_16 : decode cX4_bringBack 16 = .ok (.if_icmp .le 4, 3) := by decide +kernel
theorem dX4_bringBack_19 : decode cX4_bringBack 19 = .ok (.return_, 1) := by decide +kernel
theorem dX4_bringBack_20 : decode cX4_bringBack 20 = .ok (.aload_n 0, 1) := by decide +kernel
theorem dX4_bringBack_21 : decode cX4_bringBack 21 = .ok (.aload_n 0, 1) := by decide +kernel
theorem dX4_bringBack_22 : decode cX4_bringBack 22 = .ok (.getfield 18, 3) := by decide +kernel
theorem dX4_bringBack_25 : decode cX4_bringBack 25 = .ok (.iload_n 2, 1) := by decide +kernel
theorem dX4_bringBack_26 : decode cX4_bringBack 26 = .ok (.isub, 1) := by decide +kernel
theorem dX4_bringBack_27 : decode cX4_bringBack 27 = .ok (.bipush 12, 2) := by decide +kernel
theorem dX4_bringBack_29 : decode cX4_bringBack 29 = .ok (.invokestatic 35, 3) := by decide +kernel
theorem dX4_bringBack_32 : decode cX4_bringBack 32 = .ok (.putfield 18, 3) := by decide +kernel
theorem dX4_bringBack_35 : decode cX4_bringBack 35 = .ok (.aload_n 1, 1) := by decide +kernel
theorem dX4_bringBack_36 : decode cX4_bringBack 36 = .ok (.aload_n 0, 1) := by decide +kernel
theorem dX4_bringBack_37 : decode cX4_bringBack 37 = .ok (.getfield 11, 3) := by decide +kernel
theorem dX4_bringBack_40 : decode cX4_bringBack 40 = .ok (.aload_n 0, 1) := by decide +kernel
theorem dX4_bringBack_41 : decode cX4_bringBack 41 = .ok (.getfield 18, 3) := by decide +kernel
theorem dX4_bringBack_44 : decode cX4_bringBack 44 = .ok (.aaload, 1) := by decide +kernel
theorem dX4_bringBack_45 : decode cX4_bringBack 45 = .ok (.invokevirtual 22, 3) := by decide +kernel
theorem dX4_bringBack_48 : decode cX4_bringBack 48 = .ok (.aload_n 0, 1) := by decide +kernel
theorem dX4_bringBack_49 : decode cX4_bringBack 49 = .ok (.dup, 1) := by decide +kernel
theorem dX4_bringBack_50 : decode cX4_bringBack 50 = .ok (.getfield 26, 3) := by decide +kernel
theorem dX4_bringBack_53 : decode cX4_bringBack 53 = .ok (.iload_n 2, 1) := by decide +kernel
theorem dX4_bringBack_54 : decode cX4_bringBack 54 = .ok (.isub, 1) := by decide +kernel
theorem dX4_bringBack_55 : decode cX4_bringBack 55 = .ok (.putfield 26, 3) := by decide +kernel
theorem dX4_bringBack_58 : decode cX4_bringBack 58 = .ok (.return_, 1) := by decide +kernel
theorem dX5_init_0 : decode cX5_init 0 = .ok (.aload_n 0, 1) := by decide +kernel
theorem dX5_init_1 : decode cX5_init 1 = .ok (.invokespecial 3, 3) := by decide +kernel
theorem dX5_init_4 : decode cX5_init 4 = .ok (.aload_n 0, 1) := by decide +kernel
theorem dX5_init_5 : decode cX5_init 5 = .ok (.bipush 6, 2) := by decide +kernel
theorem dX5_init_7 : decode cX5_init 7 = .ok (.newarray .int, 2) := by decide +kernel
theorem dX5_init_9 : decode cX5_init 9 = .ok (.putfield 9, 3) := by decide +kernel
theorem dX5_init_12 : decode cX5_init 12 = .ok (.aload_n 0, 1) := by decide +kernel
theorem dX5_init_13 : decode cX5_init 13 = .ok (.bipush 6, 2) := by decide +kernel
theorem dX5_init_15 : decode cX5_init 15 = .ok (.newarray .int, 2) := by decide +kernel
theorem dX5_init_17 : decode cX5_init 17 = .ok (.putfield 15, 3) := by decide +kernel
theorem dX5_init_20 : decode cX5_init 20 = .ok (.aload_n 0, 1) := by decide +kernel
theorem dX5_init_21 : decode cX5_init 21 = .ok (.bipush 6, 2) := by decide +kernel
theorem dX5_init_23 : decode cX5_init 23 = .ok (.newarray .boolean, 2) := by decide +kernel
theorem dX5_init_25 : decode cX5_init 25 = .ok (.putfield 18, 3) := by decide +kernel
theorem dX5_init_28 : decode cX5_init 28 = .ok (.aload_n 0, 1) := by decide +kernel
theorem dX5_init_29 : decode cX5_init 29 = .ok (.iconst 0, 1) := by decide +kernel
theorem dX5_init_30 : decode cX5_init 30 = .ok (.newarray .int, 2) := by decide +kernel
theorem dX5_init_32 : decode cX5_init 32 = .ok (.putfield 22, 3) := by decide +kernel
theorem dX5_init_35 : decode cX5_init 35 = .ok (.return_, 1) := by decide +kernel
theorem dX5_append_0 : decode cX5_append 0 = .ok (.aload_n 0, 1) := by decide +kernel
theorem dX5_append_1 : decode cX5_append 1 = .ok (.getfield 25, 3) := by decide +kernel
theorem dX5_append_4 : decode cX5_append 4 = .ok (.ifCond .lt 12, 3) := by decide +kernel
theorem dX5_append_7 : decode cX5_append 7 = .ok (.aload_n 0, 1) := by decide +kernel
theorem dX5_append_8 : decode cX5_append 8 = .ok (.getfield 25, 3) := by decide +kernel
theorem dX5_append_11 : decode cX5_append 11 = .ok (.bipush 6, 2) := by decide +kernel
theorem dX5_append_13 : decode cX5_append 13 = .ok (.if_icmp .lt 5, 3) := by decide +kernel
theorem dX5_append_16 : decode cX5_append 16 = .ok (.iconst 0, 1) := by decide +kernel
theorem dX5_append_17 : decode cX5_append 17 = .ok (.ireturn, 1) := by decide +kernel
theorem dX5_append_18 : decode cX5_append 18 = .ok (.aload_n 0, 1) := by decide +kernel
theorem dX5_append_19 : decode cX5_append 19 = .ok (.getfield 9, 3) := by decide +kernel
theorem dX5_append_22 : decode cX5_append 22 = .ok (.aload_n 0, 1) := by decide +kernel
theorem dX5_append_23 : decode cX5_append 23 = .ok (.getfield 25, 3) := by decide +kernel
theorem dX5_append_26 : decode cX5_append 26 = .ok (.iload_n 1, 1) := by decide +kernel
theorem dX5_append_27 : decode cX5_append 27 = .ok (.iastore, 1) := by decide +kernel
theorem dX5_append_28 : decode cX5_append 28 = .ok (.aload_n 0, 1) := by decide +kernel
theorem dX5_append_29 : decode cX5_append 29 = .ok (.getfield 15, 3) := by decide +kernel
theorem dX5_append_32 : decode cX5_append 32 = .ok (.aload_n 0, 1) := by decide +kernel
theorem dX5_append_33 : decode cX5_append 33 = .ok (.getfield 25, 3) := by decide +kernel
theorem dX5_append_36 : decode cX5_append 36 = .ok (.iload_n 2, 1) := by decide +kernel
theorem dX5_append_37 : decode cX5_append 37 = .ok (.iastore, 1) := by decide +kernel
theorem dX5_append_38 : decode cX5_append 38 = .ok (.aload_n 0, 1) := by decide +kernel
theorem dX5_append_39 : decode cX5_append 39 = .ok (.getfield 18, 3) := by decide +kernel
theorem dX5_append_42 : decode cX5_append 42 = .ok (.aload_n 0, 1) := by decide +kernel
theorem dX5_append_43 : decode cX5_append 43 = .ok (.getfield 25, 3) := by decide +kernel
theorem dX5_append_46 : decode cX5_append 46 = .ok (.iload_n 3, 1) := by decide +kernel
theorem dX5_append_47 : decode cX5_append 47 = .ok (.bastore, 1) := by decide +kernel
theorem dX5_append_48 : decode cX5_append 48 = .ok (.aload_n 0, 1) := by decide +kernel
theorem dX5_append_49 : decode cX5_append 49 = .ok (.dup, 1) := by decide +kernel
theorem dX5_append_50 : decode cX5_append 50 = .ok (.getfield 25, 3) := by decide +kernel
theorem dX5_append_53 : decode cX5_append 53 = .ok (.iconst 1, 1) := by decide +kernel
theorem dX5_append_54 : decode cX5_append 54 = .ok (.iadd, 1) := by decide +kernel
theorem dX5_append_55 : decode cX5_append 55 = .ok (.putfield 25, 3) := by decide +kernel
theorem dX5_append_58 : decode cX5_append 58 = .ok (.iconst 1, 1) := by decide +kernel
theorem dX5_append_59 : decode cX5_append 59 = .ok (.ireturn, 1) := by decide +kernel
set_option maxRecDepth 20000 in
theorem dX5_gather_0 : decode cX5_gather 0 = .ok (.iload_n 3, 1) := by decide +kernel
theorem dX5_gather_1 : decode cX5_gather 1 = .ok (.ifCond .eq 20, 3) := by decide +kernel
theorem dX5_gather_4 : decode cX5_gather 4 = .ok (.aload_n 0, 1) := by decide +kernel
theorem dX5_gather_5 : decode cX5_gather 5 = .ok (.getfield 22, 3) := by decide +kernel
theorem dX5_gather_8 : decode cX5_gather 8 = .ok (.arraylength, 1) := by decide +kernel
theorem dX5_gather_9 : decode cX5_gather 9 = .ok (.ifCond .ne 12, 3) := by decide +kernel
theorem dX5_gather_12 : decode cX5_gather 12 = .ok (.aload_n 0, 1) := by decide +kernel
theorem dX5_gather_13 : decode cX5_gather 13 = .ok (.sipush 8520, 3) := by decide +kernel
theorem dX5_gather_16 : decode cX5_gather 16 = .ok (.newarray .int, 2) := by decide +kernel
theorem dX5_gather_18 : decode cX5_gather 18 = .ok (.putfield 22, 3) := by decide +kernel
theorem dX5_gather_21 : decode cX5_gather 21 = .ok (.aload_n 0, 1) := by decide +kernel
theorem dX5_gather_22 : decode cX5_gather 22 = .ok (.iconst 0, 1) := by decide +kernel
theorem dX5_gather_23 : decode cX5_gather 23 = .ok (.putfield 29, 3) := by decide +kernel
theorem dX5_gather_26 : decode cX5_gather 26 = .ok (.aload_n 0, 1) := by decide +kernel
theorem dX5_gather_27 : decode cX5_gather 27 = .ok (.iconst (-1), 1) := by decide +kernel
theorem dX5_gather_28 : decode cX5_gather 28 = .ok (.putfield 32, 3) := by decide +kernel
theorem dX5_gather_31 : decode cX5_gather 31 = .ok (.aload_n 0, 1) := by decide +kernel
theorem dX5_gather_32 : decode cX5_gather 32 = .ok (.iconst (-1), 1) := by decide +kernel
theorem dX5_gather_33 : decode cX5_gather 33 = .ok (.putfield 35, 3) := by decide +kernel
theorem dX5_gather_36 : decode cX5_gather 36 = .ok (.iconst 1, 1) := by decide +kernel
theorem dX5_gather_37 : decode cX5_gather 37 = .ok (.istore 4, 2) := by decide +kernel
theorem dX5_gather_39 : decode cX5_gather 39 = .ok (.iload 4, 2) := by decide +kernel
theorem dX5_gather_41 : decode cX5_gather 41 = .ok (.bipush 72, 2) := by decide +kernel
theorem dX5_gather_43 : decode cX5_gather 43 = .ok (.if_icmp .ge 54, 3) := by decide +kernel
theorem dX5_gather_46 : decode cX5_gather 46 = .ok (.aload_n 1, 1) := by decide +kernel
theorem dX5_gather_47 : decode cX5_gather 47 = .ok (.getfield 38, 3) := by decide +kernel
theorem dX5_gather_50 : decode cX5_gather 50 = .ok (.iload 4, 2) := by decide +kernel
theorem dX5_gather_52 : decode cX5_gather 52 = .ok (.invokevirtual 44, 3) := by decide +kernel
theorem dX5_gather_55 : decode cX5_gather 55 = .ok (.ifCond .eq 36, 3) := by decide +kernel
theorem dX5_gather_58 : decode cX5_gather 58 = .ok (.aload_n 1, 1) := by decide +kernel
theorem dX5_gather_59 : decode cX5_gather 59 = .ok (.getfield 38, 3) := by decide +kernel
theorem dX5_gather_62 : decode cX5_gather 62 = .ok (.getfield 50, 3) := by decide +kernel
theorem dX5_gather_65 : decode cX5_gather 65 = .ok (.iload 4, 2) := by decide +kernel
theorem dX5_gather_67 : decode cX5_gather 67 = .ok (.iaload, 1) := by decide +kernel
theorem dX5_gather_68 : decode cX5_gather 68 = .ok (.ifCond .ne 23, 3) := by decide +kernel
theorem dX5_gather_71 : decode cX5_gather 71 = .ok (.aload_n 0, 1) := by decide +kernel
theorem dX5_gather_72 : decode cX5_gather 72 = .ok (.aload_n 1, 1) := by decide +kernel
theorem dX5_gather_73 : decode cX5_gather 73 = .ok (.aload_n 2, 1) := by decide +kernel
theorem dX5_gather_74 : decode cX5_gather 74 = .ok (.iload 4, 2) := by decide +kernel
theorem dX5_gather_76 : decode cX5_gather 76 = .ok (.iconst 1, 1) := by decide +kernel
theorem dX5_gather_77 : decode cX5_gather 77 = .ok (.iload_n 3, 1) := by decide +kernel
theorem dX5_gather_78 : decode cX5_gather 78 = .ok (.invokevirtual 53, 3) := by decide +kernel
theorem dX5_gather_81 : decode cX5_gather 81 = .ok (.aload_n 0, 1) := by decide +kernel
theorem dX5_gather_82 : decode cX5_gather 82 = .ok (.aload_n 1, 1) := by decide +kernel
theorem dX5_gather_83 : decode cX5_gather 83 = .ok (.aload_n 2, 1) := by decide +kernel
theorem dX5_gather_84 : decode cX5_gather 84 = .ok (.iload 4, 2) := by decide +kernel
theorem dX5_gather_86 : decode cX5_gather 86 = .ok (.iconst 2, 1) := by decide +kernel
theorem dX5_gather_87 : decode cX5_gather 87 = .ok (.iload_n 3, 1) := by decide +kernel
theorem dX5_gather_88 : decode cX5_gather 88 = .ok (.invokevirtual 53, 3) := by decide +kernel
theorem dX5_gather_91 : decode cX5_gather 91 = .ok (.iinc 4 1, 3) := by decide +kernel
theorem dX5_gather_94 : decode cX5_gather 94 = .ok (.goto (-55), 3) := by decide +kernel
theorem dX5_gather_97 : decode cX5_gather 97 = .ok (.return_, 1) := by decide +kernel
set_option maxRecDepth 20000 in
theorem dX5_trySuspect_0 : decode cX5_trySuspect 0 = .ok (.aload_n 2, 1) := by decide +kernel
theorem dX5_trySuspect_1 : decode cX5_trySuspect 1 = .ok (.aload_n 1, 1) := by decide +kernel
theorem dX5_trySuspect_2 : decode cX5_trySuspect 2 = .ok (.invokevirtual 57, 3) := by decide +kernel
theorem dX5_trySuspect_5 : decode cX5_trySuspect 5 = .ok (.aload_n 2, 1) := by decide +kernel
theorem dX5_trySuspect_6 : decode cX5_trySuspect 6 = .ok (.getfield 63, 3) := by decide +kernel
theorem dX5_trySuspect_9 : decode cX5_trySuspect 9 = .ok (.getfield 38, 3) := by decide +kernel
theorem dX5_trySuspect_12 : decode cX5_trySuspect 12 = .ok (.iload_n 3, 1) := by decide +kernel
theorem dX5_trySuspect_13 : decode cX5_trySuspect 13 = .ok (.invokevirtual 44, 3) := by decide +kernel
theorem dX5_trySuspect_16 : decode cX5_trySuspect 16 = .ok (.ifCond .ne 4, 3) := by decide +kernel
theorem dX5_trySuspect_19 : decode cX5_trySuspect 19 = .ok (.return_, 1) := by decide +kernel
theorem dX5_trySuspect_20 : decode cX5_trySuspect 20 = .ok (.aload_n 2, 1) := by decide +kernel
theorem dX5_trySuspect_21 : decode cX5_trySuspect 21 = .ok (.getfield 63, 3) := by decide +kernel
theorem dX5_trySuspect_24 : decode cX5_trySuspect 24 = .ok (.getfield 38, 3) := by decide +kernel
theorem dX5_trySuspect_27 : decode cX5_trySuspect 27 = .ok (.getfield 50, 3) := by decide +kernel
theorem dX5_trySuspect_30 : decode cX5_trySuspect 30 = .ok (.iload_n 3, 1) := by decide +kernel
theorem dX5_trySuspect_31 : decode cX5_trySuspect 31 = .ok (.iload 4, 2) := by decide +kernel
theorem dX5_trySuspect_33 : decode cX5_trySuspect 33 = .ok (.iastore, 1) := by decide +kernel
theorem dX5_trySuspect_34 : decode cX5_trySuspect 34 = .ok (.iload 5, 2) := by decide +kernel
theorem dX5_trySuspect_36 : decode cX5_trySuspect 36 = .ok (.ifCond .eq 8, 3) := by decide +kernel
theorem dX5_trySuspect_39 : decode cX5_trySuspect 39 = .ok (.bipush 60, 2) := by decide +kernel
theorem dX5_trySuspect_41 : decode cX5_trySuspect 41 = .ok (.goto 4, 3) := by decide +kernel
theorem dX5_trySuspect_44 : decode cX5_trySuspect 44 = .ok (.iconst 0, 1) := by decide +kernel
theorem dX5_trySuspect_45 : decode cX5_trySuspect 45 = .ok (.aload_n 0, 1) := by decide +kernel
theorem dX5_trySuspect_46 : decode cX5_trySuspect 46 = .ok (.invokevirtual 67, 3) := by decide +kernel
theorem dX5_trySuspect_49 : decode cX5_trySuspect 49 = .ok (.invokestatic 71, 3) := by decide +kernel
theorem dX5_trySuspect_52 : decode cX5_trySuspect 52 = .ok (.istore 6, 2) := by decide +kernel
theorem dX5_trySuspect_54 : decode cX5_trySuspect 54 = .ok (.iconst 1, 1) := by decide +kernel
theorem dX5_trySuspect_55 : decode cX5_trySuspect 55 = .ok (.istore 7, 2) := by decide +kernel
theorem dX5_trySuspect_57 : decode cX5_trySuspect 57 = .ok (.iload 7, 2) := by decide +kernel
theorem dX5_trySuspect_59 : decode cX5_trySuspect 59 = .ok (.iload 6, 2) := by decide +kernel
theorem dX5_trySuspect_61 : decode cX5_trySuspect 61 = .ok (.if_icmp .gt 57, 3) := by decide +kernel
theorem dX5_trySuspect_64 : decode cX5_trySuspect 64 = .ok (.aload_n 2, 1) := by decide +kernel
theorem dX5_trySuspect_65 : decode cX5_trySuspect 65 = .ok (.getfield 63, 3) := by decide +kernel
theorem dX5_trySuspect_68 : decode cX5_trySuspect 68 = .ok (.getfield 38, 3) := by decide +kernel
theorem dX5_trySuspect_71 : decode cX5_trySuspect 71 = .ok (.invokevirtual 77, 3) := by decide +kernel
theorem dX5_trySuspect_74 : decode cX5_trySuspect 74 = .ok (.aload_n 2, 1) := by decide +kernel
theorem dX5_trySuspect_75 : decode cX5_trySuspect 75 = .ok (.getfield 63, 3) := by decide +kernel
theorem dX5_trySuspect_78 : decode cX5_trySuspect 78 = .ok (.getfield 38, 3) := by decide +kernel
theorem dX5_trySuspect_81 : decode cX5_trySuspect 81 = .ok (.iconst 0, 1) := by decide +kernel
theorem dX5_trySuspect_82 : decode cX5_trySuspect 82 = .ok (.invokevirtual 80, 3) := by decide +kernel
theorem dX5_trySuspect_85 : decode cX5_trySuspect 85 = .ok (.istore 8, 2) := by decide +kernel
theorem dX5_trySuspect_87 : decode cX5_trySuspect 87 = .ok (.aload_n 0, 1) := by decide +kernel
theorem dX5_trySuspect_88 : decode cX5_trySuspect 88 = .ok (.iload 7, 2) := by decide +kernel
theorem dX5_trySuspect_90 : decode cX5_trySuspect 90 = .ok (.iload 8, 2) := by decide +kernel
theorem dX5_trySuspect_92 : decode cX5_trySuspect 92 = .ok (.invokevirtual 84, 3) := by decide +kernel
theorem dX5_trySuspect_95 : decode cX5_trySuspect 95 = .ok (.ifCond .eq 4, 3) := by decide +kernel
theorem dX5_trySuspect_98 : decode cX5_trySuspect 98 = .ok (.return_, 1) := by decide +kernel
theorem dX5_trySuspect_99 : decode cX5_trySuspect 99 = .ok (.iload 5, 2) := by decide +kernel
theorem dX5_trySuspect_101 : decode cX5_trySuspect 101 = .ok (.ifCond .eq 11, 3) := by decide +kernel
theorem dX5_trySuspect_104 : decode cX5_trySuspect 104 = .ok (.aload_n 0, 1) := by decide +kernel
theorem dX5_trySuspect_105 : decode cX5_trySuspect 105 = .ok (.iload 7, 2) := by decide +kernel
theorem dX5_trySuspect_107 : decode cX5_trySuspect 107 = .ok (.iload 8, 2) := by decide +kernel
theorem dX5_trySuspect_109 : decode cX5_trySuspect 109 = .ok (.invokevirtual 88, 3) := by decide +kernel
theorem dX5_trySuspect_112 : decode cX5_trySuspect 112 = .ok (.iinc 7 1, 3) := by decide +kernel
theorem dX5_trySuspect_115 : decode cX5_trySuspect 115 = .ok (.goto (-58), 3) := by decide +kernel
theorem dX5_trySuspect_118 : decode cX5_trySuspect 118 = .ok (.iconst 2, 1) := by decide +kernel
theorem dX5_trySuspect_119 : decode cX5_trySuspect 119 = .ok (.iload_n 3, 1) := by decide +kernel
theorem dX5_trySuspect_120 : decode cX5_trySuspect 120 = .ok (.imul, 1) := by decide +kernel
theorem dX5_trySuspect_121 : decode cX5_trySuspect 121 = .ok (.iload 4, 2) := by decide +kernel
theorem dX5_trySuspect_123 : decode cX5_trySuspect 123 = .ok (.iconst 2, 1) := by decide +kernel
theorem dX5_trySuspect_124 : decode cX5_trySuspect 124 = .ok (.if_icmp .ne 7, 3) := by decide +kernel
theorem dX5_trySuspect_127 : decode cX5_trySuspect 127 = .ok (.iconst 1, 1) := by decide +kernel
theorem dX5_trySuspect_128 : decode cX5_trySuspect 128 = .ok (.goto 4, 3) := by decide +kernel
theorem dX5_trySuspect_131 : decode cX5_trySuspect 131 = .ok (.iconst 0, 1) := by decide +kernel
theorem dX5_trySuspect_132 : decode cX5_trySuspect 132 = .ok (.iadd, 1) := by decide +kernel
theorem dX5_trySuspect_133 : decode cX5_trySuspect 133 = .ok (.istore 7, 2) := by decide +kernel
theorem dX5_trySuspect_135 : decode cX5_trySuspect 135 = .ok (.aload_n 0, 1) := by decide +kernel
theorem dX5_trySuspect_136 : decode cX5_trySuspect 136 = .ok (.aload_n 0, 1) := by decide +kernel
theorem dX5_trySuspect_137 : decode cX5_trySuspect 137 = .ok (.getfield 29, 3) := by decide +kernel
theorem dX5_trySuspect_140 : decode cX5_trySuspect 140 = .ok (.ifCond .ne 8, 3) := by decide +kernel
theorem dX5_trySuspect_143 : decode cX5_trySuspect 143 = .ok (.iload 7, 2) := by decide +kernel
theorem dX5_trySuspect_145 : decode cX5_trySuspect 145 = .ok (.goto 7, 3) := by decide +kernel
theorem dX5_trySuspect_148 : decode cX5_trySuspect 148 = .ok (.aload_n 0, 1) := by decide +kernel
theorem dX5_trySuspect_149 : decode cX5_trySuspect 149 = .ok (.getfield 32, 3) := by decide +kernel
theorem dX5_trySuspect_152 : decode cX5_trySuspect 152 = .ok (.putfield 32, 3) := by decide +kernel
theorem dX5_trySuspect_155 : decode cX5_trySuspect 155 = .ok (.aload_n 0, 1) := by decide +kernel
theorem dX5_trySuspect_156 : decode cX5_trySuspect 156 = .ok (.iload 7, 2) := by decide +kernel
theorem dX5_trySuspect_158 : decode cX5_trySuspect 158 = .ok (.putfield 35, 3) := by decide +kernel
theorem dX5_trySuspect_161 : decode cX5_trySuspect 161 = .ok (.aload_n 0, 1) := by decide +kernel
theorem dX5_trySuspect_162 : decode cX5_trySuspect 162 = .ok (.dup, 1) := by decide +kernel
theorem dX5_trySuspect_163 : decode cX5_trySuspect 163 = .ok (.getfield 29, 3) := by decide +kernel
theorem dX5_trySuspect_166 : decode cX5_trySuspect 166 = .ok (.iconst 1, 1) := by decide +kernel
theorem dX5_trySuspect_167 : decode cX5_trySuspect 167 = .ok (.iadd, 1) := by decide +kernel
theorem dX5_trySuspect_168 : decode cX5_trySuspect 168 = .ok (.putfield 29, 3) := by decide +kernel
theorem dX5_trySuspect_171 : decode cX5_trySuspect 171 = .ok (.return_, 1) := by decide +kernel
theorem dX5_lastSeenTick_0 : decode cX5_lastSeenTick 0 = .ok (.iconst 0, 1) := by decide +kernel
theorem dX5_lastSeenTick_1 : decode cX5_lastSeenTick 1 = .ok (.istore_n 1, 1) := by decide +kernel
theorem dX5_lastSeenTick_2 : decode cX5_lastSeenTick 2 = .ok (.iconst 0, 1) := by decide +kernel
theorem dX5_lastSeenTick_3 : decode cX5_lastSeenTick 3 = .ok (.istore_n 2, 1) := by decide +kernel
theorem dX5_lastSeenTick_4 : decode cX5_lastSeenTick 4 = .ok (.iload_n 2, 1) := by decide +kernel
theorem dX5_lastSeenTick_5 : decode cX5_lastSeenTick 5 = .ok (.aload_n 0, 1) := by decide +kernel
theorem dX5_lastSeenTick_6 : decode cX5_lastSeenTick 6 = .ok (.getfield 25, 3) := by decide +kernel
theorem dX5_lastSeenTick_9 : decode cX5_lastSeenTick 9 = .ok (.if_icmp .ge 26, 3) := by decide +kernel
theorem dX5_lastSeenTick_12 : decode cX5_lastSeenTick 12 = .ok (.iload_n 2, 1) := by decide +kernel
theorem dX5_lastSeenTick_13 : decode cX5_lastSeenTick 13 = .ok (.bipush 6, 2) := by decide +kernel
theorem dX5_lastSeenTick_15 : decode cX5_lastSeenTick 15 = .ok (.if_icmp .ge 20, 3) := by decide +kernel
theorem dX5_lastSeenTick_18 : decode cX5_lastSeenTick 18 = .ok (.iload_n 1, 1) := by decide +kernel
theorem dX5_lastSeenTick_19 : decode cX5_lastSeenTick 19 = .ok (.aload_n 0, 1) := by decide +kernel
theorem dX5_lastSeenTick_20 : decode cX5_lastSeenTick 20 = .ok (.getfield 9, 3) := by decide +kernel
theorem dX5_lastSeenTick_23 : decode cX5_lastSeenTick 23 = .ok (.iload_n 2, 1) := by decide +kernel
theorem dX5_lastSeenTick_24 : decode cX5_lastSeenTick 24 = .ok (.iaload, 1) := by decide +kernel
theorem dX5_lastSeenTick_25 : decode cX5_lastSeenTick 25 = .ok (.invokestatic 71, 3) := by decide +kernel
theorem dX5_lastSeenTick_28 : decode cX5_lastSeenTick 28 = .ok (.istore_n 1, 1) := by decide +kernel
theorem dX5_lastSeenTick_29 : decode cX5_lastSeenTick 29 = .ok (.iinc 2 1, 3) := by decide +kernel
theorem dX5_lastSeenTick_32 : decode cX5_lastSeenTick 32 = .ok (.goto (-28), 3) := by decide +kernel
theorem dX5_lastSeenTick_35 : decode cX5_lastSeenTick 35 = .ok (.iload_n 1, 1) := by decide +kernel
theorem dX5_lastSeenTick_36 : decode cX5_lastSeenTick 36 = .ok (.ireturn, 1) := by decide +kernel
theorem dX5_isAgainst_0 : decode cX5_isAgainst 0 = .ok (.iconst 0, 1) := by decide +kernel
theorem dX5_isAgainst_1 : decode cX5_isAgainst 1 = .ok (.istore_n 3, 1) := by decide +kernel
theorem dX5_isAgainst_2 : decode cX5_isAgainst 2 = .ok (.iload_n 3, 1) := by decide +kernel
theorem dX5_isAgainst_3 : decode cX5_isAgainst 3 = .ok (.aload_n 0, 1) := by decide +kernel
theorem dX5_isAgainst_4 : decode cX5_isAgainst 4 = .ok (.getfield 25, 3) := by decide +kernel
theorem dX5_isAgainst_7 : decode cX5_isAgainst 7 = .ok (.if_icmp .ge 51, 3) := by decide +kernel
theorem dX5_isAgainst_10 : decode cX5_isAgainst 10 = .ok (.iload_n 3, 1) := by decide +kernel
theorem dX5_isAgainst_11 : decode cX5_isAgainst 11 = .ok (.bipush 6, 2) := by decide +kernel
theorem dX5_isAgainst_13 : decode cX5_isAgainst 13 = .ok (.if_icmp .ge 45, 3) := by decide +kernel
theorem dX5_isAgainst_16 : decode cX5_isAgainst 16 = .ok (.aload_n 0, 1) := by decide +kernel
theorem dX5_isAgainst_17 : decode cX5_isAgainst 17 = .ok (.getfield 9, 3) := by decide +kernel
theorem dX5_isAgainst_20 : decode cX5_isAgainst 20 = .ok (.iload_n 3, 1) := by decide +kernel
theorem dX5_isAgainst_21 : decode cX5_isAgainst 21 = .ok (.iaload, 1) := by decide +kernel
theorem dX5_isAgainst_22 : decode cX5_isAgainst 22 = .ok (.iload_n 1, 1) := by decide +kernel
theorem dX5_isAgainst_23 : decode cX5_isAgainst 23 = .ok (.if_icmp .ne 29, 3) := by decide +kernel
theorem dX5_isAgainst_26 : decode cX5_isAgainst 26 = .ok (.iload_n 2, 1) := by decide +kernel
theorem dX5_isAgainst_27 : decode cX5_isAgainst 27 = .ok (.aload_n 0, 1) := by decide +kernel
theorem dX5_isAgainst_28 : decode cX5_isAgainst 28 = .ok (.getfield 15, 3) := by decide +kernel
theorem dX5_isAgainst_31 : decode cX5_isAgainst 31 = .ok (.iload_n 3, 1) := by decide +kernel
theorem dX5_isAgainst_32 : decode cX5_isAgainst 32 = .ok (.iaload, 1) := by decide +kernel
theorem dX5_isAgainst_33 : decode cX5_isAgainst 33 = .ok (.if_icmp .lt 7, 3) := by decide +kernel
theorem dX5_isAgainst_36 : decode cX5_isAgainst 36 = .ok (.iconst 1, 1) := by decide +kernel
theorem dX5_isAgainst_37 : decode cX5_isAgainst 37 = .ok (.goto 4, 3) := by decide +kernel
theorem dX5_isAgainst_40 : decode cX5_isAgainst 40 = .ok (.iconst 0, 1) := by decide +kernel
theorem dX5_isAgainst_41 : decode cX5_isAgainst 41 = .ok (.aload_n 0, 1) := by decide +kernel
theorem dX5_isAgainst_42 : decode cX5_isAgainst 42 = .ok (.getfield 18, 3) := by decide +kernel
theorem dX5_isAgainst_45 : decode cX5_isAgainst 45 = .ok (.iload_n 3, 1) := by decide +kernel
theorem dX5_isAgainst_46 : decode cX5_isAgainst 46 = .ok (.baload, 1) := by decide +kernel
theorem dX5_isAgainst_47 : decode cX5_isAgainst 47 = .ok (.if_icmp .eq 5, 3) := by decide +kernel
theorem dX5_isAgainst_50 : decode cX5_isAgainst 50 = .ok (.iconst 1, 1) := by decide +kernel
theorem dX5_isAgainst_51 : decode cX5_isAgainst 51 = .ok (.ireturn, 1) := by decide +kernel
theorem dX5_isAgainst_52 : decode cX5_isAgainst 52 = .ok (.iinc 3 1, 3) := by decide +kernel
theorem dX5_isAgainst_55 : decode cX5_isAgainst 55 = .ok (.goto (-53), 3) := by decide +kernel
theorem dX5_isAgainst_58 : decode cX5_isAgainst 58 = .ok (.iconst 0, 1) := by decide +kernel
theorem dX5_isAgainst_59 : decode cX5_isAgainst 59 = .ok (.ireturn, 1) := by decide +kernel
theorem dX5_trace_0 : decode cX5_trace 0 = .ok (.iload_n 1, 1) := by decide +kernel
theorem dX5_trace_1 : decode cX5_trace 1 = .ok (.iconst 1, 1) := by decide +kernel
theorem dX5_trace_2 : decode cX5_trace 2 = .ok (.isub, 1) := by decide +kernel
theorem dX5_trace_3 : decode cX5_trace 3 = .ok (.sipush 142, 3) := by decide +kernel
theorem dX5_trace_6 : decode cX5_trace 6 = .ok (.imul, 1) := by decide +kernel
theorem dX5_trace_7 : decode cX5_trace 7 = .ok (.aload_n 0, 1) := by decide +kernel
theorem dX5_trace_8 : decode cX5_trace 8 = .ok (.getfield 29, 3) := by decide +kernel
theorem dX5_trace_11 : decode cX5_trace 11 = .ok (.iadd, 1) := by decide +kernel
theorem dX5_trace_12 : decode cX5_trace 12 = .ok (.istore_n 3, 1) := by decide +kernel
theorem dX5_trace_13 : decode cX5_trace 13 = .ok (.iload_n 1, 1) := by decide +kernel
theorem dX5_trace_14 : decode cX5_trace 14 = .ok (.iconst 1, 1) := by decide +kernel
theorem dX5_trace_15 : decode cX5_trace 15 = .ok (.if_icmp .lt 29, 3) := by decide +kernel
theorem dX5_trace_18 : decode cX5_trace 18 = .ok (.iload_n 1, 1) := by decide +kernel
theorem dX5_trace_19 : decode cX5_trace 19 = .ok (.bipush 60, 2) := by decide +kernel
theorem dX5_trace_21 : decode cX5_trace 21 = .ok (.if_icmp .gt 23, 3) := by decide +kernel
theorem dX5_trace_24 : decode cX5_trace 24 = .ok (.iload_n 3, 1) := by decide +kernel
theorem dX5_trace_25 : decode cX5_trace 25 = .ok (.ifCond .lt 19, 3) := by decide +kernel
theorem dX5_trace_28 : decode cX5_trace 28 = .ok (.iload_n 3, 1) := by decide +kernel
theorem dX5_trace_29 : decode cX5_trace 29 = .ok (.aload_n 0, 1) := by decide +kernel
theorem dX5_trace_30 : decode cX5_trace 30 = .ok (.getfield 22, 3) := by decide +kernel
theorem dX5_trace_33 : decode cX5_trace 33 = .ok (.arraylength, 1) := by decide +kernel
theorem dX5_trace_34 : decode cX5_trace 34 = .ok (.if_icmp .ge 10, 3) := by decide +kernel
theorem dX5_trace_37 : decode cX5_trace 37 = .ok (.aload_n 0, 1) := by decide +kernel
theorem dX5_trace_38 : decode cX5_trace 38 = .ok (.getfield 22, 3) := by decide +kernel
theorem dX5_trace_41 : decode cX5_trace 41 = .ok (.iload_n 3, 1) := by decide +kernel
theorem dX5_trace_42 : decode cX5_trace 42 = .ok (.iload_n 2, 1) := by decide +kernel
theorem dX5_trace_43 : decode cX5_trace 43 = .ok (.iastore, 1) := by decide +kernel
theorem dX5_trace_44 : decode cX5_trace 44 = .ok (.return_, 1) := by decide +kernel
set_option maxRecDepth 20000 in
theorem dX5_bestLook_0 : decode cX5_bestLook 0 = .ok (.iconst (-1), 1) := by decide +kernel
theorem dX5_bestLook_1 : decode cX5_bestLook 1 = .ok (.istore_n 1, 1) := by decide +kernel
theorem dX5_bestLook_2 : decode cX5_bestLook 2 = .ok (.aload_n 0, 1) := by decide +kernel
theorem dX5_bestLook_3 : decode cX5_bestLook 3 = .ok (.getfield 29, 3) := by decide +kernel
theorem dX5_bestLook_6 : decode cX5_bestLook 6 = .ok (.istore_n 2, 1) := by decide +kernel
theorem dX5_bestLook_7 : decode cX5_bestLook 7 = .ok (.iconst 1, 1) := by decide +kernel
theorem dX5_bestLook_8 : decode cX5_bestLook 8 = .ok (.istore_n 3, 1) := by decide +kernel
theorem dX5_bestLook_9 : decode cX5_bestLook 9 = .ok (.iload_n 3, 1) := by decide +kernel
theorem dX5_bestLook_10 : decode cX5_bestLook 10 = .ok (.bipush 60, 2) := by decide +kernel
theorem dX5_bestLook_12 : decode cX5_bestLook 12 = .ok (.if_icmp .gt 27, 3) := by decide +kernel
theorem dX5_bestLook_15 : decode cX5_bestLook 15 = .ok (.aload_n 0, 1) := by decide +kernel
theorem dX5_bestLook_16 : decode cX5_bestLook 16 = .ok (.iload_n 3, 1) := by decide +kernel
theorem dX5_bestLook_17 : decode cX5_bestLook 17 = .ok (.invokevirtual 92, 3) := by decide +kernel
theorem dX5_bestLook_20 : decode cX5_bestLook 20 = .ok (.istore 4, 2) := by decide +kernel
theorem dX5_bestLook_22 : decode cX5_bestLook 22 = .ok (.iload 4, 2) := by decide +kernel
theorem dX5_bestLook_24 : decode cX5_bestLook 24 = .ok (.iload_n 2, 1) := by decide +kernel
theorem dX5_bestLook_25 : decode cX5_bestLook 25 = .ok (.if_icmp .ge 8, 3) := by decide +kernel
theorem dX5_bestLook_28 : decode cX5_bestLook 28 = .ok (.iload 4, 2) := by decide +kernel
theorem dX5_bestLook_30 : decode cX5_bestLook 30 = .ok (.istore_n 2, 1) := by decide +kernel
theorem dX5_bestLook_31 : decode cX5_bestLook 31 = .ok (.iload_n 3, 1) := by decide +kernel
theorem dX5_bestLook_32 : decode cX5_bestLook 32 = .ok (.istore_n 1, 1) := by decide +kernel
theorem dX5_bestLook_33 : decode cX5_bestLook 33 = .ok (.iinc 3 1, 3) := by decide +kernel
theorem dX5_bestLook_36 : decode cX5_bestLook 36 = .ok (.goto (-27), 3) := by decide +kernel
theorem dX5_bestLook_39 : decode cX5_bestLook 39 = .ok (.iload_n 1, 1) := by decide +kernel
theorem dX5_bestLook_40 : decode cX5_bestLook 40 = .ok (.ireturn, 1) := by decide +kernel
theorem dX5_mostAlike_0 : decode cX5_mostAlike 0 = .ok (.iload_n 1, 1) := by decide +kernel
theorem dX5_mostAlike_1 : decode cX5_mostAlike 1 = .ok (.iconst 1, 1) := by decide +kernel
theorem dX5_mostAlike_2 : decode cX5_mostAlike 2 = .ok (.isub, 1) := by decide +kernel
theorem dX5_mostAlike_3 : decode cX5_mostAlike 3 = .ok (.sipush 142, 3) := by decide +kernel
theorem dX5_mostAlike_6 : decode cX5_mostAlike 6 = .ok (.imul, 1) := by decide +kernel
theorem dX5_mostAlike_7 : decode cX5_mostAlike 7 = .ok (.istore_n 2, 1) := by decide +kernel
theorem dX5_mostAlike_8 : decode cX5_mostAlike 8 = .ok (.iload_n 2, 1) := by decide +kernel
theorem dX5_mostAlike_9 : decode cX5_mostAlike 9 = .ok (.aload_n 0, 1) := by decide +kernel
theorem dX5_mostAlike_10 : decode cX5_mostAlike 10 = .ok (.getfield 29, 3) := by decide +kernel
theorem dX5_mostAlike_13 : decode cX5_mostAlike 13 = .ok (.iadd, 1) := by decide +kernel
theorem dX5_mostAlike_14 : decode cX5_mostAlike 14 = .ok (.istore_n 3, 1) := by decide +kernel
theorem dX5_mostAlike_15 : decode cX5_mostAlike 15 = .ok (.iload_n 2, 1) := by decide +kernel
theorem dX5_mostAlike_16 : decode cX5_mostAlike 16 = .ok (.ifCond .lt 12, 3) := by decide +kernel
theorem dX5_mostAlike_19 : decode cX5_mostAlike 19 = .ok (.iload_n 3, 1) := by decide +kernel
theorem dX5_mostAlike_20 : decode cX5_mostAlike 20 = .ok (.aload_n 0, 1) := by decide +kernel
theorem dX5_mostAlike_21 : decode cX5_mostAlike 21 = .ok (.getfield 22, 3) := by decide +kernel
theorem dX5_mostAlike_24 : decode cX5_mostAlike 24 = .ok (.arraylength, 1) := by decide +kernel
theorem dX5_mostAlike_25 : decode cX5_mostAlike 25 = .ok (.if_icmp .le 8, 3) := by decide +kernel
theorem dX5_mostAlike_28 : decode cX5_mostAlike 28 = .ok (.aload_n 0, 1) := by decide +kernel
theorem dX5_mostAlike_29 : decode cX5_mostAlike 29 = .ok (.getfield 29, 3) := by decide +kernel
theorem dX5_mostAlike_32 : decode cX5_mostAlike 32 = .ok (.ireturn, 1) := by decide +kernel
theorem dX5_mostAlike_33 : decode cX5_mostAlike 33 = .ok (.iconst 0, 1) := by decide +kernel
theorem dX5_mostAlike_34 : decode cX5_mostAlike 34 = .ok (.istore 4, 2) := by decide +kernel
theorem dX5_mostAlike_36 : decode cX5_mostAlike 36 = .ok (.iload_n 2, 1) := by decide +kernel
theorem dX5_mostAlike_37 : decode cX5_mostAlike 37 = .ok (.istore 5, 2) := by decide +kernel
theorem dX5_mostAlike_39 : decode cX5_mostAlike 39 = .ok (.iload 5, 2) := by decide +kernel
theorem dX5_mostAlike_41 : decode cX5_mostAlike 41 = .ok (.iload_n 3, 1) := by decide +kernel
theorem dX5_mostAlike_42 : decode cX5_mostAlike 42 = .ok (.if_icmp .ge 73, 3) := by decide +kernel
theorem dX5_mostAlike_45 : decode cX5_mostAlike 45 = .ok (.iload_n 3, 1) := by decide +kernel
theorem dX5_mostAlike_46 : decode cX5_mostAlike 46 = .ok (.iload 5, 2) := by decide +kernel
theorem dX5_mostAlike_48 : decode cX5_mostAlike 48 = .ok (.isub, 1) := by decide +kernel
theorem dX5_mostAlike_49 : decode cX5_mostAlike 49 = .ok (.iload 4, 2) := by decide +kernel
theorem dX5_mostAlike_51 : decode cX5_mostAlike 51 = .ok (.if_icmp .le 64, 3) := by decide +kernel
theorem dX5_mostAlike_54 : decode cX5_mostAlike 54 = .ok (.iconst 0, 1) := by decide +kernel
theorem dX5_mostAlike_55 : decode cX5_mostAlike 55 = .ok (.istore 6, 2) := by decide +kernel
theorem dX5_mostAlike_57 : decode cX5_mostAlike 57 = .ok (.iload 5, 2) := by decide +kernel
theorem dX5_mostAlike_59 : decode cX5_mostAlike 59 = .ok (.istore 7, 2) := by decide +kernel
theorem dX5_mostAlike_61 : decode cX5_mostAlike 61 = .ok (.iload 7, 2) := by decide +kernel
theorem dX5_mostAlike_63 : decode cX5_mostAlike 63 = .ok (.iload_n 3, 1) := by decide +kernel
theorem dX5_mostAlike_64 : decode cX5_mostAlike 64 = .ok (.if_icmp .ge 36, 3) := by decide +kernel
theorem dX5_mostAlike_67 : decode cX5_mostAlike 67 = .ok (.iload 6, 2) := by decide +kernel
theorem dX5_mostAlike_69 : decode cX5_mostAlike 69 = .ok (.aload_n 0, 1) := by decide +kernel
theorem dX5_mostAlike_70 : decode cX5_mostAlike 70 = .ok (.getfield 22, 3) := by decide +kernel
theorem dX5_mostAlike_73 : decode cX5_mostAlike 73 = .ok (.iload 7, 2) := by decide +kernel
theorem dX5_mostAlike_75 : decode cX5_mostAlike 75 = .ok (.iaload, 1) := by decide +kernel
theorem dX5_mostAlike_76 : decode cX5_mostAlike 76 = .ok (.aload_n 0, 1) := by decide +kernel
theorem dX5_mostAlike_77 : decode cX5_mostAlike 77 = .ok (.getfield 22, 3) := by decide +kernel
theorem dX5_mostAlike_80 : decode cX5_mostAlike 80 = .ok (.iload 5, 2) := by decide +kernel
theorem dX5_mostAlike_82 : decode cX5_mostAlike 82 = .ok (.iaload, 1) := by decide +kernel
theorem dX5_mostAlike_83 : decode cX5_mostAlike 83 = .ok (.if_icmp .ne 7, 3) := by decide +kernel
theorem dX5_mostAlike_86 : decode cX5_mostAlike 86 = .ok (.iconst 1, 1) := by decide +kernel
theorem dX5_mostAlike_87 : decode cX5_mostAlike 87 = .ok (.goto 4, 3) := by decide +kernel
theorem dX5_mostAlike_90 : decode cX5_mostAlike 90 = .ok (.iconst 0, 1) := by decide +kernel
theorem dX5_mostAlike_91 : decode cX5_mostAlike 91 = .ok (.iadd, 1) := by decide +kernel
theorem dX5_mostAlike_92 : decode cX5_mostAlike 92 = .ok (.istore 6, 2) := by decide +kernel
theorem dX5_mostAlike_94 : decode cX5_mostAlike 94 = .ok (.iinc 7 1, 3) := by decide +kernel
theorem dX5_mostAlike_97 : decode cX5_mostAlike 97 = .ok (.goto (-36), 3) := by decide +kernel
theorem dX5_mostAlike_100 : decode cX5_mostAlike 100 = .ok (.iload 4, 2) := by decide +kernel
theorem dX5_mostAlike_102 : decode cX5_mostAlike 102 = .ok (.iload 6, 2) := by decide +kernel
theorem dX5_mostAlike_104 : decode cX5_mostAlike 104 = .ok (.invokestatic 71, 3) := by decide +kernel
theorem dX5_mostAlike_107 : decode cX5_mostAlike 107 = .ok (.istore 4, 2) := by decide +kernel
theorem dX5_mostAlike_109 : decode cX5_mostAlike 109 = .ok (.iinc 5 1, 3) := by decide +kernel
theorem dX5_mostAlike_112 : decode cX5_mostAlike 112 = .ok (.goto (-73), 3) := by decide +kernel
theorem dX5_mostAlike_115 : decode cX5_mostAlike 115 = .ok (.iload 4, 2) := by decide +kernel
theorem dX5_mostAlike_117 : decode cX5_mostAlike 117 = .ok (.ireturn, 1) := by decide +kernel
theorem dX6_init_0 : decode cX6_init 0 = .ok (.aload_n 0, 1) := by decide +kernel
theorem dX6_init_1 : decode cX6_init 1 = .ok (.invokespecial 3, 3) := by decide +kernel
theorem dX6_init_4 : decode cX6_init 4 = .ok (.aload_n 0, 1) := by decide +kernel
theorem dX6_init_5 : decode cX6_init 5 = .ok (.sipush 240, 3) := by decide +kernel
theorem dX6_init_8 : decode cX6_init 8 = .ok (.newarray .int, 2) := by decide +kernel
theorem dX6_init_10 : decode cX6_init 10 = .ok (.putfield 9, 3) := by decide +kernel
theorem dX6_init_13 : decode cX6_init 13 = .ok (.aload_n 0, 1) := by decide +kernel
theorem dX6_init_14 : decode cX6_init 14 = .ok (.iconst 3, 1) := by decide +kernel
theorem dX6_init_15 : decode cX6_init 15 = .ok (.newarray .int, 2) := by decide +kernel
theorem dX6_init_17 : decode cX6_init 17 = .ok (.putfield 15, 3) := by decide +kernel
theorem dX6_init_20 : decode cX6_init 20 = .ok (.return_, 1) := by decide +kernel
theorem dX6_append_0 : decode cX6_append 0 = .ok (.aload_n 0, 1) := by decide +kernel
theorem dX6_append_1 : decode cX6_append 1 = .ok (.getfield 18, 3) := by decide +kernel
theorem dX6_append_4 : decode cX6_append 4 = .ok (.ifCond .lt 13, 3) := by decide +kernel
theorem dX6_append_7 : decode cX6_append 7 = .ok (.aload_n 0, 1) := by decide +kernel
theorem dX6_append_8 : decode cX6_append 8 = .ok (.getfield 18, 3) := by decide +kernel
theorem dX6_append_11 : decode cX6_append 11 = .ok (.sipush 240, 3) := by decide +kernel
theorem dX6_append_14 : decode cX6_append 14 = .ok (.if_icmp .lt 5, 3) := by decide +kernel
theorem dX6_append_17 : decode cX6_append 17 = .ok (.iconst 0, 1) := by decide +kernel
theorem dX6_append_18 : decode cX6_append 18 = .ok (.ireturn, 1) := by decide +kernel
theorem dX6_append_19 : decode cX6_append 19 = .ok (.aload_n 0, 1) := by decide +kernel
theorem dX6_append_20 : decode cX6_append 20 = .ok (.getfield 9, 3) := by decide +kernel
theorem dX6_append_23 : decode cX6_append 23 = .ok (.aload_n 0, 1) := by decide +kernel
theorem dX6_append_24 : decode cX6_append 24 = .ok (.getfield 18, 3) := by decide +kernel
theorem dX6_append_27 : decode cX6_append 27 = .ok (.iload_n 1, 1) := by decide +kernel
theorem dX6_append_28 : decode cX6_append 28 = .ok (.iastore, 1) := by decide +kernel
theorem dX6_append_29 : decode cX6_append 29 = .ok (.aload_n 0, 1) := by decide +kernel
theorem dX6_append_30 : decode cX6_append 30 = .ok (.dup, 1) := by decide +kernel
theorem dX6_append_31 : decode cX6_append 31 = .ok (.getfield 18, 3) := by decide +kernel
theorem dX6_append_34 : decode cX6_append 34 = .ok (.iconst 1, 1) := by decide +kernel
theorem dX6_append_35 : decode cX6_append 35 = .ok (.iadd, 1) := by decide +kernel
theorem dX6_append_36 : decode cX6_append 36 = .ok (.putfield 18, 3) := by decide +kernel
theorem dX6_append_39 : decode cX6_append 39 = .ok (.iconst 1, 1) := by decide +kernel
theorem dX6_append_40 : decode cX6_append 40 = .ok (.ireturn, 1) := by decide +kernel
set_option maxRecDepth 20000 in
theorem dX6_readInto_0 : decode cX6_readInto 0 = .ok (.aload_n 1, 1) := by decide +kernel
theorem dX6_readInto_1 : decode cX6_readInto 1 = .ok (.invokevirtual 22, 3) := by decide +kernel
theorem dX6_readInto_4 : decode cX6_readInto 4 = .ok (.aload_n 0, 1) := by decide +kernel
theorem dX6_readInto_5 : decode cX6_readInto 5 = .ok (.iconst 0, 1) := by decide +kernel
theorem dX6_readInto_6 : decode cX6_readInto 6 = .ok (.putfield 27, 3) := by decide +kernel
theorem dX6_readInto_9 : decode cX6_readInto 9 = .ok (.aload_n 0, 1) := by decide +kernel
theorem dX6_readInto_10 : decode cX6_readInto 10 = .ok (.iconst 0, 1) := by decide +kernel
theorem dX6_readInto_11 : decode cX6_readInto 11 = .ok (.putfield 30, 3) := by decide +kernel
theorem dX6_readInto_14 : decode cX6_readInto 14 = .ok (.aload_n 0, 1) := by decide +kernel
theorem dX6_readInto_15 : decode cX6_readInto 15 = .ok (.invokevirtual 34, 3) := by decide +kernel
theorem dX6_readInto_18 : decode cX6_readInto 18 = .ok (.iconst 0, 1) := by decide +kernel
theorem dX6_readInto_19 : decode cX6_readInto 19 = .ok (.istore_n 2, 1) := by decide +kernel
theorem dX6_readInto_20 : decode cX6_readInto 20 = .ok (.iload_n 2, 1) := by decide +kernel
theorem dX6_readInto_21 : decode cX6_readInto 21 = .ok (.sipush 240, 3) := by decide +kernel
theorem dX6_readInto_24 : decode cX6_readInto 24 = .ok (.if_icmp .ge 36, 3) := by decide +kernel
theorem dX6_readInto_27 : decode cX6_readInto 27 = .ok (.aload_n 0, 1) := by decide +kernel
theorem dX6_readInto_28 : decode cX6_readInto 28 = .ok (.getfield 27, 3) := by decide +kernel
theorem dX6_readInto_31 : decode cX6_readInto 31 = .ok (.aload_n 0, 1) := by decide +kernel
theorem dX6_readInto_32 : decode cX6_readInto 32 = .ok (.getfield 18, 3) := by decide +kernel
theorem dX6_readInto_35 : decode cX6_readInto 35 = .ok (.if_icmp .ge 25, 3) := by decide +kernel
theorem dX6_readInto_38 : decode cX6_readInto 38 = .ok (.aload_n 0, 1) := by decide +kernel
theorem dX6_readInto_39 : decode cX6_readInto 39 = .ok (.aload_n 1, 1) := by decide +kernel
theorem dX6_readInto_40 : decode cX6_readInto 40 = .ok (.invokevirtual 37, 3) := by decide +kernel
theorem dX6_readInto_43 : decode cX6_readInto 43 = .ok (.istore_n 3, 1) := by decide +kernel
theorem dX6_readInto_44 : decode cX6_readInto 44 = .ok (.iload_n 3, 1) := by decide +kernel
theorem dX6_readInto_45 : decode cX6_readInto 45 = .ok (.ifCond .eq 5, 3) := by decide +kernel
theorem dX6_readInto_48 : decode cX6_readInto 48 = .ok (.iload_n 3, 1) := by decide +kernel
theorem dX6_readInto_49 : decode cX6_readInto 49 = .ok (.ireturn, 1) := by decide +kernel
theorem dX6_readInto_50 : decode cX6_readInto 50 = .ok (.aload_n 0, 1) := by decide +kernel
theorem dX6_readInto_51 : decode cX6_readInto 51 = .ok (.invokevirtual 34, 3) := by decide +kernel
theorem dX6_readInto_54 : decode cX6_readInto 54 = .ok (.iinc 2 1, 3) := by decide +kernel
theorem dX6_readInto_57 : decode cX6_readInto 57 = .ok (.goto (-37), 3) := by decide +kernel
theorem dX6_readInto_60 : decode cX6_readInto 60 = .ok (.iconst 0, 1) := by decide +kernel
theorem dX6_readInto_61 : decode cX6_readInto 61 = .ok (.ireturn, 1) := by decide +kernel
set_option maxRecDepth 20000 in
theorem dX6_readClause_0 : decode cX6_readClause 0 = .ok (.aload_n 0, 1) := by decide +kernel
theorem dX6_readClause_1 : decode cX6_readClause 1 = .ok (.invokevirtual 41, 3) := by decide +kernel
theorem dX6_readClause_4 : decode cX6_readClause 4 = .ok (.istore_n 2, 1) := by decide +kernel
theorem dX6_readClause_5 : decode cX6_readClause 5 = .ok (.iload_n 2, 1) := by decide +kernel
theorem dX6_readClause_6 : decode cX6_readClause 6 = .ok (.ifCond .lt 22, 3) := by decide +kernel
theorem dX6_readClause_9 : decode cX6_readClause 9 = .ok (.iload_n 2, 1) := by decide +kernel
theorem dX6_readClause_10 : decode cX6_readClause 10 = .ok (.getstatic 45, 3) := by decide +kernel
theorem dX6_readClause_13 : decode cX6_readClause 13 = .ok (.arraylength, 1) := by decide +kernel
theorem dX6_readClause_14 : decode cX6_readClause 14 = .ok (.if_icmp .ge 14, 3) := by decide +kernel
theorem dX6_readClause_17 : decode cX6_readClause 17 = .ok (.aload_n 1, 1) := by decide +kernel
theorem dX6_readClause_18 : decode cX6_readClause 18 = .ok (.getfield 48, 3) := by decide +kernel
theorem dX6_readClause_21 : decode cX6_readClause 21 = .ok (.ifCond .ne 9, 3) := by decide +kernel
theorem dX6_readClause_24 : decode cX6_readClause 24 = .ok (.iload_n 2, 1) := by decide +kernel
theorem dX6_readClause_25 : decode cX6_readClause 25 = .ok (.ifCond .eq 5, 3) := by decide +kernel
theorem dX6_readClause_28 : decode cX6_readClause 28 = .ok (.iconst 1, 1) := by decide +kernel
theorem dX6_readClause_29 : decode cX6_readClause 29 = .ok (.ireturn, 1) := by decide +kernel
theorem dX6_readClause_30 : decode cX6_readClause 30 = .ok (.aload_n 0, 1) := by decide +kernel
theorem dX6_readClause_31 : decode cX6_readClause 31 = .ok (.iload_n 2, 1) := by decide +kernel
theorem dX6_readClause_32 : decode cX6_readClause 32 = .ok (.aload_n 1, 1) := by decide +kernel
theorem dX6_readClause_33 : decode cX6_readClause 33 = .ok (.invokevirtual 51, 3) := by decide +kernel
theorem dX6_readClause_36 : decode cX6_readClause 36 = .ok (.ifCond .eq 5, 3) := by decide +kernel
theorem dX6_readClause_39 : decode cX6_readClause 39 = .ok (.iconst 3, 1) := by decide +kernel
theorem dX6_readClause_40 : decode cX6_readClause 40 = .ok (.ireturn, 1) := by decide +kernel
theorem dX6_readClause_41 : decode cX6_readClause 41 = .ok (.aload_n 0, 1) := by decide +kernel
theorem dX6_readClause_42 : decode cX6_readClause 42 = .ok (.dup, 1) := by decide +kernel
theorem dX6_readClause_43 : decode cX6_readClause 43 = .ok (.getfield 27, 3) := by decide +kernel
theorem dX6_readClause_46 : decode cX6_readClause 46 = .ok (.iconst 1, 1) := by decide +kernel
theorem dX6_readClause_47 : decode cX6_readClause 47 = .ok (.iadd, 1) := by decide +kernel
theorem dX6_readClause_48 : decode cX6_readClause 48 = .ok (.putfield 27, 3) := by decide +kernel
theorem dX6_readClause_51 : decode cX6_readClause 51 = .ok (.iconst 0, 1) := by decide +kernel
theorem dX6_readClause_52 : decode cX6_readClause 52 = .ok (.istore_n 3, 1) := by decide +kernel
theorem dX6_readClause_53 : decode cX6_readClause 53 = .ok (.iload_n 3, 1) := by decide +kernel
theorem dX6_readClause_54 : decode cX6_readClause 54 = .ok (.getstatic 45, 3) := by decide +kernel
theorem dX6_readClause_57 : decode cX6_readClause 57 = .ok (.iload_n 2, 1) := by decide +kernel
theorem dX6_readClause_58 : decode cX6_readClause 58 = .ok (.iaload, 1) := by decide +kernel
theorem dX6_readClause_59 : decode cX6_readClause 59 = .ok (.if_icmp .ge 30, 3) := by decide +kernel
theorem dX6_readClause_62 : decode cX6_readClause 62 = .ok (.iload_n 3, 1) := by decide +kernel
theorem dX6_readClause_63 : decode cX6_readClause 63 = .ok (.iconst 3, 1) := by decide +kernel
theorem dX6_readClause_64 : decode cX6_readClause 64 = .ok (.if_icmp .ge 25, 3) := by decide +kernel
theorem dX6_readClause_67 : decode cX6_readClause 67 = .ok (.aload_n 0, 1) := by decide +kernel
theorem dX6_readClause_68 : decode cX6_readClause 68 = .ok (.iload_n 2, 1) := by decide +kernel
theorem dX6_readClause_69 : decode cX6_readClause 69 = .ok (.iload_n 3, 1) := by decide +kernel
theorem dX6_readClause_70 : decode cX6_readClause 70 = .ok (.invokevirtual 55, 3) := by decide +kernel
theorem dX6_readClause_73 : decode cX6_readClause 73 = .ok (.istore 4, 2) := by decide +kernel
theorem dX6_readClause_75 : decode cX6_readClause 75 = .ok (.iload 4, 2) := by decide +kernel
theorem dX6_readClause_77 : decode cX6_readClause 77 = .ok (.ifCond .eq 6, 3) := by decide +kernel
theorem dX6_readClause_80 : decode cX6_readClause 80 = .ok (.iload 4, 2) := by decide +kernel
theorem dX6_readClause_82 : decode cX6_readClause 82 = .ok (.ireturn, 1) := by decide +kernel
theorem dX6_readClause_83 : decode cX6_readClause 83 = .ok (.iinc 3 1, 3) := by decide +kernel
theorem dX6_readClause_86 : decode cX6_readClause 86 = .ok (.goto (-33), 3) := by decide +kernel
theorem dX6_readClause_89 : decode cX6_readClause 89 = .ok (.aload_n 0, 1) := by decide +kernel
theorem dX6_readClause_90 : decode cX6_readClause 90 = .ok (.invokevirtual 34, 3) := by decide +kernel
theorem dX6_readClause_93 : decode cX6_readClause 93 = .ok (.aload_n 0, 1) := by decide +kernel
theorem dX6_readClause_94 : decode cX6_readClause 94 = .ok (.invokevirtual 59, 3) := by decide +kernel
theorem dX6_readClause_97 : decode cX6_readClause 97 = .ok (.bipush 59, 2) := by decide +kernel
theorem dX6_readClause_99 : decode cX6_readClause 99 = .ok (.if_icmp .eq 5, 3) := by decide +kernel
theorem dX6_readClause_102 : decode cX6_readClause 102 = .ok (.iconst 1, 1) := by decide +kernel
theorem dX6_readClause_103 : decode cX6_readClause 103 = .ok (.ireturn, 1) := by decide +kernel
theorem dX6_readClause_104 : decode cX6_readClause 104 = .ok (.aload_n 0, 1) := by decide +kernel
theorem dX6_readClause_105 : decode cX6_readClause 105 = .ok (.dup, 1) := by decide +kernel
theorem dX6_readClause_106 : decode cX6_readClause 106 = .ok (.getfield 27, 3) := by decide +kernel
theorem dX6_readClause_109 : decode cX6_readClause 109 = .ok (.iconst 1, 1) := by decide +kernel
theorem dX6_readClause_110 : decode cX6_readClause 110 = .ok (.iadd, 1) := by decide +kernel
theorem dX6_readClause_111 : decode cX6_readClause 111 = .ok (.putfield 27, 3) := by decide +kernel
theorem dX6_readClause_114 : decode cX6_readClause 114 = .ok (.aload_n 0, 1) := by decide +kernel
theorem dX6_readClause_115 : decode cX6_readClause 115 = .ok (.iload_n 2, 1) := by decide +kernel
theorem dX6_readClause_116 : decode cX6_readClause 116 = .ok (.aload_n 1, 1) := by decide +kernel
theorem dX6_readClause_117 : decode cX6_readClause 117 = .ok (.invokevirtual 62, 3) := by decide +kernel
theorem dX6_readClause_120 : decode cX6_readClause 120 = .ok (.iconst 0, 1) := by decide +kernel
theorem dX6_readClause_121 : decode cX6_readClause 121 = .ok (.ireturn, 1) := by decide +kernel
set_option maxRecDepth 20000 in
theorem dX6_wordHere_0 : decode cX6_wordHere 0 = .ok (.aload_n 0, 1) := by decide +kernel
theorem dX6_wordHere_1 : decode cX6_wordHere 1 = .ok (.invokevirtual 59, 3) := by decide +kernel
theorem dX6_wordHere_4 : decode cX6_wordHere 4 = .ok (.istore_n 1, 1) := by decide +kernel
theorem dX6_wordHere_5 : decode cX6_wordHere 5 = .ok (.iload_n 1, 1) := by decide +kernel
theorem dX6_wordHere_6 : decode cX6_wordHere 6 = .ok (.ifCond .ge 7, 3) := by decide +kernel
theorem dX6_wordHere_9 : decode cX6_wordHere 9 = .ok (.iconst (-1), 1) := by decide +kernel
theorem dX6_wordHere_10 : decode cX6_wordHere 10 = .ok (.goto 10, 3) := by decide +kernel
theorem dX6_wordHere_13 : decode cX6_wordHere 13 = .ok (.ldc 66, 2) := by decide +kernel
theorem dX6_wordHere_15 : decode cX6_wordHere 15 = .ok (.iload_n 1, 1) := by decide +kernel
theorem dX6_wordHere_16 : decode cX6_wordHere 16 = .ok (.i2c, 1) := by decide +kernel
theorem dX6_wordHere_17 : decode cX6_wordHere 17 = .ok (.invokevirtual 68, 3) := by decide +kernel
theorem dX6_wordHere_20 : decode cX6_wordHere 20 = .ok (.ireturn, 1) := by decide +kernel
theorem dX6_isTooMany_0 : decode cX6_isTooMany 0 = .ok (.iload_n 1, 1) := by decide +kernel
theorem dX6_isTooMany_1 : decode cX6_isTooMany 1 = .ok (.tableswitch 55 0 2 #[27, 32, 50], 27) := by decide +kernel
theorem dX6_isTooMany_28 : decode cX6_isTooMany 28 = .ok (.aload_n 2, 1) := by decide +kernel
theorem dX6_isTooMany_29 : decode cX6_isTooMany 29 = .ok (.getfield 48, 3) := by decide +kernel
theorem dX6_isTooMany_32 : decode cX6_isTooMany 32 = .ok (.ireturn, 1) := by decide +kernel
theorem dX6_isTooMany_33 : decode cX6_isTooMany 33 = .ok (.aload_n 2, 1) := by decide +kernel
theorem dX6_isTooMany_34 : decode cX6_isTooMany 34 = .ok (.getfield 74, 3) := by decide +kernel
theorem dX6_isTooMany_37 : decode cX6_isTooMany 37 = .ok (.getfield 78, 3) := by decide +kernel
theorem dX6_isTooMany_40 : decode cX6_isTooMany 40 = .ok (.bipush 8, 2) := by decide +kernel
theorem dX6_isTooMany_42 : decode cX6_isTooMany 42 = .ok (.if_icmp .lt 7, 3) := by decide +kernel
theorem dX6_isTooMany_45 : decode cX6_isTooMany 45 = .ok (.iconst 1, 1) := by decide +kernel
theorem dX6_isTooMany_46 : decode cX6_isTooMany 46 = .ok (.goto 4, 3) := by decide +kernel
theorem dX6_isTooMany_49 : decode cX6_isTooMany 49 = .ok (.iconst 0, 1) := by decide +kernel
theorem dX6_isTooMany_50 : decode cX6_isTooMany 50 = .ok (.ireturn, 1) := by decide +kernel
theorem dX6_isTooMany_51 : decode cX6_isTooMany 51 = .ok (.aload_n 0, 1) := by decide +kernel
theorem dX6_isTooMany_52 : decode cX6_isTooMany 52 = .ok (.getfield 30, 3) := by decide +kernel
theorem dX6_isTooMany_55 : decode cX6_isTooMany 55 = .ok (.ireturn, 1) := by decide +kernel
theorem dX6_isTooMany_56 : decode cX6_isTooMany 56 = .ok (.aload_n 2, 1) := by decide +kernel
theorem dX6_isTooMany_57 : decode cX6_isTooMany 57 = .ok (.getfield 83, 3) := by decide +kernel
theorem dX6_isTooMany_60 : decode cX6_isTooMany 60 = .ok (.getfield 87, 3) := by decide +kernel
theorem dX6_isTooMany_63 : decode cX6_isTooMany 63 = .ok (.bipush 6, 2) := by decide +kernel
theorem dX6_isTooMany_65 : decode cX6_isTooMany 65 = .ok (.if_icmp .lt 7, 3) := by decide +kernel
theorem dX6_isTooMany_68 : decode cX6_isTooMany 68 = .ok (.iconst 1, 1) := by decide +kernel
theorem dX6_isTooMany_69 : decode cX6_isTooMany 69 = .ok (.goto 4, 3) := by decide +kernel
theorem dX6_isTooMany_72 : decode cX6_isTooMany 72 = .ok (.iconst 0, 1) := by decide +kernel
theorem dX6_isTooMany_73 : decode cX6_isTooMany 73 = .ok (.ireturn, 1) := by decide +kernel
set_option maxRecDepth 20000 in
theorem dX6_readNumber_0 : decode cX6_readNumber 0 = .ok (.aload_n 0, 1) := by decide +kernel
theorem dX6_readNumber_1 : decode cX6_readNumber 1 = .ok (.invokevirtual 34, 3) := by decide +kernel
theorem dX6_readNumber_4 : decode cX6_readNumber 4 = .ok (.aload_n 0, 1) := by decide +kernel
theorem dX6_readNumber_5 : decode cX6_readNumber 5 = .ok (.getfield 27, 3) := by decide +kernel
theorem dX6_readNumber_8 : decode cX6_readNumber 8 = .ok (.istore_n 3, 1) := by decide +kernel
theorem dX6_readNumber_9 : decode cX6_readNumber 9 = .ok (.iconst 0, 1) := by decide +kernel
theorem dX6_readNumber_10 : decode cX6_readNumber 10 = .ok (.istore 4, 2) := by decide +kernel
theorem dX6_readNumber_12 : decode cX6_readNumber 12 = .ok (.iconst 0, 1) := by decide +kernel
theorem dX6_readNumber_13 : decode cX6_readNumber 13 = .ok (.istore 5, 2) := by decide +kernel
theorem dX6_readNumber_15 : decode cX6_readNumber 15 = .ok (.aload_n 0, 1) := by decide +kernel
theorem dX6_readNumber_16 : decode cX6_readNumber 16 = .ok (.getfield 27, 3) := by decide +kernel
theorem dX6_readNumber_19 : decode cX6_readNumber 19 = .ok (.aload_n 0, 1) := by decide +kernel
theorem dX6_readNumber_20 : decode cX6_readNumber 20 = .ok (.getfield 18, 3) := by decide +kernel
theorem dX6_readNumber_23 : decode cX6_readNumber 23 = .ok (.if_icmp .ge 50, 3) := by decide +kernel
theorem dX6_readNumber_26 : decode cX6_readNumber 26 = .ok (.aload_n 0, 1) := by decide +kernel
theorem dX6_readNumber_27 : decode cX6_readNumber 27 = .ok (.invokevirtual 59, 3) := by decide +kernel
theorem dX6_readNumber_30 : decode cX6_readNumber 30 = .ok (.invokestatic 90, 3) := by decide +kernel
theorem dX6_readNumber_33 : decode cX6_readNumber 33 = .ok (.ifCond .eq 40, 3) := by decide +kernel
theorem dX6_readNumber_36 : decode cX6_readNumber 36 = .ok (.iinc 4 1, 3) := by decide +kernel
theorem dX6_readNumber_39 : decode cX6_readNumber 39 = .ok (.iload 4, 2) := by decide +kernel
theorem dX6_readNumber_41 : decode cX6_readNumber 41 = .ok (.iconst 3, 1) := by decide +kernel
theorem dX6_readNumber_42 : decode cX6_readNumber 42 = .ok (.if_icmp .gt 18, 3) := by decide +kernel
theorem dX6_readNumber_45 : decode cX6_readNumber 45 = .ok (.iload 5, 2) := by decide +kernel
theorem dX6_readNumber_47 : decode cX6_readNumber 47 = .ok (.bipush 10, 2) := by decide +kernel
theorem dX6_readNumber_49 : decode cX6_readNumber 49 = .ok (.imul, 1) := by decide +kernel
theorem dX6_readNumber_50 : decode cX6_readNumber 50 = .ok (.aload_n 0, 1) := by decide +kernel
theorem dX6_readNumber_51 : decode cX6_readNumber 51 = .ok (.invokevirtual 59, 3) := by decide +kernel
theorem dX6_readNumber_54 : decode cX6_readNumber 54 = .ok (.iadd, 1) := by decide +kernel
theorem dX6_readNumber_55 : decode cX6_readNumber 55 = .ok (.bipush 48, 2) := by decide +kernel
theorem dX6_readNumber_57 : decode cX6_readNumber 57 = .ok (.isub, 1) := by decide +kernel
theorem dX6_readNumber_58 : decode cX6_readNumber 58 = .ok (.istore 5, 2) := by decide +kernel
theorem dX6_readNumber_60 : decode cX6_readNumber 60 = .ok (.aload_n 0, 1) := by decide +kernel
theorem dX6_readNumber_61 : decode cX6_readNumber 61 = .ok (.dup, 1) := by decide +kernel
theorem dX6_readNumber_62 : decode cX6_readNumber 62 = .ok (.getfield 27, 3) := by decide +kernel
theorem dX6_readNumber_65 : decode cX6_readNumber 65 = .ok (.iconst 1, 1) := by decide +kernel
theorem dX6_readNumber_66 : decode cX6_readNumber 66 = .ok (.iadd, 1) := by decide +kernel
theorem dX6_readNumber_67 : decode cX6_readNumber 67 = .ok (.putfield 27, 3) := by decide +kernel
theorem dX6_readNumber_70 : decode cX6_readNumber 70 = .ok (.goto (-55), 3) := by decide +kernel
theorem dX6_readNumber_73 : decode cX6_readNumber 73 = .ok (.iload 4, 2) := by decide +kernel
theorem dX6_readNumber_75 : decode cX6_readNumber 75 = .ok (.ifCond .ne 5, 3) := by decide +kernel
theorem dX6_readNumber_78 : decode cX6_readNumber 78 = .ok (.iconst 1, 1) := by decide +kernel
theorem dX6_readNumber_79 : decode cX6_readNumber 79 = .ok (.ireturn, 1) := by decide +kernel
theorem dX6_readNumber_80 : decode cX6_readNumber 80 = .ok (.iload_n 1, 1) := by decide +kernel
theorem dX6_readNumber_81 : decode cX6_readNumber 81 = .ok (.iconst 3, 1) := by decide +kernel
theorem dX6_readNumber_82 : decode cX6_readNumber 82 = .ok (.imul, 1) := by decide +kernel
theorem dX6_readNumber_83 : decode cX6_readNumber 83 = .ok (.iload_n 2, 1) := by decide +kernel
theorem dX6_readNumber_84 : decode cX6_readNumber 84 = .ok (.iadd, 1) := by decide +kernel
theorem dX6_readNumber_85 : decode cX6_readNumber 85 = .ok (.istore 6, 2) := by decide +kernel
theorem dX6_readNumber_87 : decode cX6_readNumber 87 = .ok (.iload 4, 2) := by decide +kernel
theorem dX6_readNumber_89 : decode cX6_readNumber 89 = .ok (.iconst 3, 1) := by decide +kernel
theorem dX6_readNumber_90 : decode cX6_readNumber 90 = .ok (.if_icmp .gt 13, 3) := by decide +kernel
theorem dX6_readNumber_93 : decode cX6_readNumber 93 = .ok (.iload 6, 2) := by decide +kernel
theorem dX6_readNumber_95 : decode cX6_readNumber 95 = .ok (.iload 5, 2) := by decide +kernel
theorem dX6_readNumber_97 : decode cX6_readNumber 97 = .ok (.invokestatic 94, 3) := by decide +kernel
theorem dX6_readNumber_100 : decode cX6_readNumber 100 = .ok (.ifCond .ne 10, 3) := by decide +kernel
theorem dX6_readNumber_103 : decode cX6_readNumber 103 = .ok (.aload_n 0, 1) := by decide +kernel
theorem dX6_readNumber_104 : decode cX6_readNumber 104 = .ok (.iload_n 3, 1) := by decide +kernel
theorem dX6_readNumber_105 : decode cX6_readNumber 105 = .ok (.putfield 27, 3) := by decide +kernel
theorem dX6_readNumber_108 : decode cX6_readNumber 108 = .ok (.iconst 2, 1) := by decide +kernel
theorem dX6_readNumber_109 : decode cX6_readNumber 109 = .ok (.ireturn, 1) := by decide +kernel
theorem dX6_readNumber_110 : decode cX6_readNumber 110 = .ok (.iload_n 2, 1) := by decide +kernel
theorem dX6_readNumber_111 : decode cX6_readNumber 111 = .ok (.ifCond .lt 16, 3) := by decide +kernel
theorem dX6_readNumber_114 : decode cX6_readNumber 114 = .ok (.iload_n 2, 1) := by decide +kernel
theorem dX6_readNumber_115 : decode cX6_readNumber 115 = .ok (.iconst 3, 1) := by decide +kernel
theorem dX6_readNumber_116 : decode cX6_readNumber 116 = .ok (.if_icmp .ge 11, 3) := by decide +kernel
theorem dX6_readNumber_119 : decode cX6_readNumber 119 = .ok (.aload_n 0, 1) := by decide +kernel
theorem dX6_readNumber_120 : decode cX6_readNumber 120 = .ok (.getfield 15, 3) := by decide +kernel
theorem dX6_readNumber_123 : decode cX6_readNumber 123 = .ok (.iload_n 2, 1) := by decide +kernel
theorem dX6_readNumber_124 : decode cX6_readNumber 124 = .ok (.iload 5, 2) := by decide +kernel
theorem dX6_readNumber_126 : decode cX6_readNumber 126 = .ok (.iastore, 1) := by decide +kernel
theorem dX6_readNumber_127 : decode cX6_readNumber 127 = .ok (.iconst 0, 1) := by decide +kernel
theorem dX6_readNumber_128 : decode cX6_readNumber 128 = .ok (.ireturn, 1) := by decide +kernel
theorem dX6_isWithin_0 : decode cX6_isWithin 0 = .ok (.iload_n 0, 1) := by decide +kernel
theorem dX6_isWithin_1 : decode cX6_isWithin 1 = .ok (.ifCond .lt 41, 3) := by decide +kernel
theorem dX6_isWithin_4 : decode cX6_isWithin 4 = .ok (.iload_n 0, 1) := by decide +kernel
theorem dX6_isWithin_5 : decode cX6_isWithin 5 = .ok (.getstatic 98, 3) := by decide +kernel
theorem dX6_isWithin_8 : decode cX6_isWithin 8 = .ok (.arraylength, 1) := by decide +kernel
theorem dX6_isWithin_9 : decode cX6_isWithin 9 = .ok (.if_icmp .ge 33, 3) := by decide +kernel
theorem dX6_isWithin_12 : decode cX6_isWithin 12 = .ok (.iload_n 0, 1) := by decide +kernel
theorem dX6_isWithin_13 : decode cX6_isWithin 13 = .ok (.getstatic 101, 3) := by decide +kernel
theorem dX6_isWithin_16 : decode cX6_isWithin 16 = .ok (.arraylength, 1) := by decide +kernel
theorem dX6_isWithin_17 : decode cX6_isWithin 17 = .ok (.if_icmp .ge 25, 3) := by decide +kernel
theorem dX6_isWithin_20 : decode cX6_isWithin 20 = .ok (.iload_n 1, 1) := by decide +kernel
theorem dX6_isWithin_21 : decode cX6_isWithin 21 = .ok (.getstatic 98, 3) := by decide +kernel
theorem dX6_isWithin_24 : decode cX6_isWithin 24 = .ok (.iload_n 0, 1) := by decide +kernel
theorem dX6_isWithin_25 : decode cX6_isWithin 25 = .ok (.iaload, 1) := by decide +kernel
theorem dX6_isWithin_26 : decode cX6_isWithin 26 = .ok (.if_icmp .lt 16, 3) := by decide +kernel
theorem dX6_isWithin_29 : decode cX6_isWithin 29 = .ok (.iload_n 1, 1) := by decide +kernel
theorem dX6_isWithin_30 : decode cX6_isWithin 30 = .ok (.getstatic 101, 3) := by decide +kernel
theorem dX6_isWithin_33 : decode cX6_isWithin 33 = .ok (.iload_n 0, 1) := by decide +kernel
theorem dX6_isWithin_34 : decode cX6_isWithin 34 = .ok (.iaload, 1) := by decide +kernel
theorem dX6_isWithin_35 : decode cX6_isWithin 35 = .ok (.if_icmp .gt 7, 3) := by decide +kernel
theorem dX6_isWithin_38 : decode cX6_isWithin 38 = .ok (.iconst 1, 1) := by decide +kernel
theorem dX6_isWithin_39 : decode cX6_isWithin 39 = .ok (.goto 4, 3) := by decide +kernel
theorem dX6_isWithin_42 : decode cX6_isWithin 42 = .ok (.iconst 0, 1) := by decide +kernel
theorem dX6_isWithin_43 : decode cX6_isWithin 43 = .ok (.ireturn, 1) := by decide +kernel
theorem dX6_isFigure_0 : decode cX6_isFigure 0 = .ok (.iload_n 0, 1) := by decide +kernel
theorem dX6_isFigure_1 : decode cX6_isFigure 1 = .ok (.bipush 48, 2) := by decide +kernel
theorem dX6_isFigure_3 : decode cX6_isFigure 3 = .ok (.if_icmp .lt 13, 3) := by decide +kernel
theorem dX6_isFigure_6 : decode cX6_isFigure 6 = .ok (.iload_n 0, 1) := by decide +kernel
theorem dX6_isFigure_7 : decode cX6_isFigure 7 = .ok (.bipush 57, 2) := by decide +kernel
theorem dX6_isFigure_9 : decode cX6_isFigure 9 = .ok (.if_icmp .gt 7, 3) := by decide +kernel
theorem dX6_isFigure_12 : decode cX6_isFigure 12 = .ok (.iconst 1, 1) := by decide +kernel
theorem dX6_isFigure_13 : decode cX6_isFigure 13 = .ok (.goto 4, 3) := by decide +kernel
theorem dX6_isFigure_16 : decode cX6_isFigure 16 = .ok (.iconst 0, 1) := by decide +kernel
theorem dX6_isFigure_17 : decode cX6_isFigure 17 = .ok (.ireturn, 1) := by decide +kernel
set_option maxRecDepth 20000 in
theorem dX6_takeClause_0 : decode cX6_takeClause 0 = .ok (.iload_n 1, 1) := by decide +kernel
theorem dX6_takeClause_1 : decode cX6_takeClause 1 = .ok (.tableswitch 110 0 2 #[27, 61, 83], 27) := by decide +kernel
theorem dX6_takeClause_28 : decode cX6_takeClause 28 = .ok (.aload_n 2, 1) := by decide +kernel
theorem dX6_takeClause_29 : decode cX6_takeClause 29 = .ok (.iconst 1, 1) := by decide +kernel
theorem dX6_takeClause_30 : decode cX6_takeClause 30 = .ok (.putfield 48, 3) := by decide +kernel
theorem dX6_takeClause_33 : decode cX6_takeClause 33 = .ok (.aload_n 2, 1) := by decide +kernel
theorem dX6_takeClause_34 : decode cX6_takeClause 34 = .ok (.getfield 74, 3) := by decide +kernel
theorem dX6_takeClause_37 : decode cX6_takeClause 37 = .ok (.aload_n 0, 1) := by decide +kernel
theorem dX6_takeClause_38 : decode cX6_takeClause 38 = .ok (.getfield 15, 3) := by decide +kernel
theorem dX6_takeClause_41 : decode cX6_takeClause 41 = .ok (.iconst 0, 1) := by decide +kernel
theorem dX6_takeClause_42 : decode cX6_takeClause 42 = .ok (.iaload, 1) := by decide +kernel
theorem dX6_takeClause_43 : decode cX6_takeClause 43 = .ok (.putfield 104, 3) := by decide +kernel
theorem dX6_takeClause_46 : decode cX6_takeClause 46 = .ok (.aload_n 2, 1) := by decide +kernel
theorem dX6_takeClause_47 : decode cX6_takeClause 47 = .ok (.getfield 74, 3) := by decide +kernel
theorem dX6_takeClause_50 : decode cX6_takeClause 50 = .ok (.aload_n 0, 1) := by decide +kernel
theorem dX6_takeClause_51 : decode cX6_takeClause 51 = .ok (.getfield 15, 3) := by decide +kernel
theorem dX6_takeClause_54 : decode cX6_takeClause 54 = .ok (.iconst 1, 1) := by decide +kernel
theorem dX6_takeClause_55 : decode cX6_takeClause 55 = .ok (.iaload, 1) := by decide +kernel
theorem dX6_takeClause_56 : decode cX6_takeClause 56 = .ok (.putfield 107, 3) := by decide +kernel
theorem dX6_takeClause_59 : decode cX6_takeClause 59 = .ok (.goto 77, 3) := by decide +kernel
theorem dX6_takeClause_62 : decode cX6_takeClause 62 = .ok (.aload_n 2, 1) := by decide +kernel
theorem dX6_takeClause_63 : decode cX6_takeClause 63 = .ok (.getfield 74, 3) := by decide +kernel
theorem dX6_takeClause_66 : decode cX6_takeClause 66 = .ok (.aload_n 0, 1) := by decide +kernel
theorem dX6_takeClause_67 : decode cX6_takeClause 67 = .ok (.getfield 15, 3) := by decide +kernel
theorem dX6_takeClause_70 : decode cX6_takeClause 70 = .ok (.iconst 0, 1) := by decide +kernel
theorem dX6_takeClause_71 : decode cX6_takeClause 71 = .ok (.iaload, 1) := by decide +kernel
theorem dX6_takeClause_72 : decode cX6_takeClause 72 = .ok (.aload_n 0, 1) := by decide +kernel
theorem dX6_takeClause_73 : decode cX6_takeClause 73 = .ok (.getfield 15, 3) := by decide +kernel
theorem dX6_takeClause_76 : decode cX6_takeClause 76 = .ok (.iconst 1, 1) := by decide +kernel
theorem dX6_takeClause_77 : decode cX6_takeClause 77 = .ok (.iaload, 1) := by decide +kernel
theorem dX6_takeClause_78 : decode cX6_takeClause 78 = .ok (.invokevirtual 110, 3) := by decide +kernel
theorem dX6_takeClause_81 : decode cX6_takeClause 81 = .ok (.goto 55, 3) := by decide +kernel
theorem dX6_takeClause_84 : decode cX6_takeClause 84 = .ok (.aload_n 0, 1) := by decide +kernel
theorem dX6_takeClause_85 : decode cX6_takeClause 85 = .ok (.iconst 1, 1) := by decide +kernel
theorem dX6_takeClause_86 : decode cX6_takeClause 86 = .ok (.putfield 30, 3) := by decide +kernel
theorem dX6_takeClause_89 : decode cX6_takeClause 89 = .ok (.aload_n 2, 1) := by decide +kernel
theorem dX6_takeClause_90 : decode cX6_takeClause 90 = .ok (.getfield 74, 3) := by decide +kernel
theorem dX6_takeClause_93 : decode cX6_takeClause 93 = .ok (.aload_n 0, 1) := by decide +kernel
theorem dX6_takeClause_94 : decode cX6_takeClause 94 = .ok (.getfield 15, 3) := by decide +kernel
theorem dX6_takeClause_97 : decode cX6_takeClause 97 = .ok (.iconst 0, 1) := by decide +kernel
theorem dX6_takeClause_98 : decode cX6_takeClause 98 = .ok (.iaload, 1) := by decide +kernel
theorem dX6_takeClause_99 : decode cX6_takeClause 99 = .ok (.aload_n 0, 1) := by decide +kernel
theorem dX6_takeClause_100 : decode cX6_takeClause 100 = .ok (.getfield 15, 3) := by decide +kernel
theorem dX6_takeClause_103 : decode cX6_takeClause 103 = .ok (.iconst 1, 1) := by decide +kernel
theorem dX6_takeClause_104 : decode cX6_takeClause 104 = .ok (.iaload, 1) := by decide +kernel
theorem dX6_takeClause_105 : decode cX6_takeClause 105 = .ok (.invokevirtual 114, 3) := by decide +kernel
theorem dX6_takeClause_108 : decode cX6_takeClause 108 = .ok (.goto 28, 3) := by decide +kernel
theorem dX6_takeClause_111 : decode cX6_takeClause 111 = .ok (.aload_n 2, 1) := by decide +kernel
theorem dX6_takeClause_112 : decode cX6_takeClause 112 = .ok (.getfield 83, 3) := by decide +kernel
theorem dX6_takeClause_115 : decode cX6_takeClause 115 = .ok (.aload_n 0, 1) := by decide +kernel
theorem dX6_takeClause_116 : decode cX6_takeClause 116 = .ok (.getfield 15, 3) := by decide +kernel
theorem dX6_takeClause_119 : decode cX6_takeClause 119 = .ok (.iconst 0, 1) := by decide +kernel
theorem dX6_takeClause_120 : decode cX6_takeClause 120 = .ok (.iaload, 1) := by decide +kernel
theorem dX6_takeClause_121 : decode cX6_takeClause 121 = .ok (.aload_n 0, 1) := by decide +kernel
theorem dX6_takeClause_122 : decode cX6_takeClause 122 = .ok (.getfield 15, 3) := by decide +kernel
theorem dX6_takeClause_125 : decode cX6_takeClause 125 = .ok (.iconst 1, 1) := by decide +kernel
theorem dX6_takeClause_126 : decode cX6_takeClause 126 = .ok (.iaload, 1) := by decide +kernel
theorem dX6_takeClause_127 : decode cX6_takeClause 127 = .ok (.aload_n 0, 1) := by decide +kernel
theorem dX6_takeClause_128 : decode cX6_takeClause 128 = .ok (.getfield 15, 3) := by decide +kernel
theorem dX6_takeClause_131 : decode cX6_takeClause 131 = .ok (.iconst 2, 1) := by decide +kernel
theorem dX6_takeClause_132 : decode cX6_takeClause 132 = .ok (.iaload, 1) := by decide +kernel
theorem dX6_takeClause_133 : decode cX6_takeClause 133 = .ok (.invokevirtual 117, 3) := by decide +kernel
theorem dX6_takeClause_136 : decode cX6_takeClause 136 = .ok (.return_, 1) := by decide +kernel
set_option maxRecDepth 20000 in
theorem dX6_skipBlanks_0 : decode cX6_skipBlanks 0 = .ok (.aload_n 0, 1) := by decide +kernel
theorem dX6_skipBlanks_1 : decode cX6_skipBlanks 1 = .ok (.getfield 27, 3) := by decide +kernel
theorem dX6_skipBlanks_4 : decode cX6_skipBlanks 4 = .ok (.aload_n 0, 1) := by decide +kernel
theorem dX6_skipBlanks_5 : decode cX6_skipBlanks 5 = .ok (.getfield 18, 3) := by decide +kernel
theorem dX6_skipBlanks_8 : decode cX6_skipBlanks 8 = .ok (.if_icmp .ge 25, 3) := by decide +kernel
theorem dX6_skipBlanks_11 : decode cX6_skipBlanks 11 = .ok (.aload_n 0, 1) := by decide +kernel
theorem dX6_skipBlanks_12 : decode cX6_skipBlanks 12 = .ok (.invokevirtual 59, 3) := by decide +kernel
theorem dX6_skipBlanks_15 : decode cX6_skipBlanks 15 = .ok (.bipush 32, 2) := by decide +kernel
theorem dX6_skipBlanks_17 : decode cX6_skipBlanks 17 = .ok (.if_icmp .ne 16, 3) := by decide +kernel
theorem dX6_skipBlanks_20 : decode cX6_skipBlanks 20 = .ok (.aload_n 0, 1) := by decide +kernel
theorem dX6_skipBlanks_21 : decode cX6_skipBlanks 21 = .ok (.dup, 1) := by decide +kernel
theorem dX6_skipBlanks_22 : decode cX6_skipBlanks 22 = .ok (.getfield 27, 3) := by decide +kernel
theorem dX6_skipBlanks_25 : decode cX6_skipBlanks 25 = .ok (.iconst 1, 1) := by decide +kernel
theorem dX6_skipBlanks_26 : decode cX6_skipBlanks 26 = .ok (.iadd, 1) := by decide +kernel
theorem dX6_skipBlanks_27 : decode cX6_skipBlanks 27 = .ok (.putfield 27, 3) := by decide +kernel
theorem dX6_skipBlanks_30 : decode cX6_skipBlanks 30 = .ok (.goto (-30), 3) := by decide +kernel
theorem dX6_skipBlanks_33 : decode cX6_skipBlanks 33 = .ok (.return_, 1) := by decide +kernel
theorem dX6_letterHere_0 : decode cX6_letterHere 0 = .ok (.aload_n 0, 1) := by decide +kernel
theorem dX6_letterHere_1 : decode cX6_letterHere 1 = .ok (.getfield 27, 3) := by decide +kernel
theorem dX6_letterHere_4 : decode cX6_letterHere 4 = .ok (.ifCond .lt 36, 3) := by decide +kernel
theorem dX6_letterHere_7 : decode cX6_letterHere 7 = .ok (.aload_n 0, 1) := by decide +kernel
theorem dX6_letterHere_8 : decode cX6_letterHere 8 = .ok (.getfield 27, 3) := by decide +kernel
theorem dX6_letterHere_11 : decode cX6_letterHere 11 = .ok (.aload_n 0, 1) := by decide +kernel
theorem dX6_letterHere_12 : decode cX6_letterHere 12 = .ok (.getfield 18, 3) := by decide +kernel
theorem dX6_letterHere_15 : decode cX6_letterHere 15 = .ok (.if_icmp .ge 25, 3) := by decide +kernel
theorem dX6_letterHere_18 : decode cX6_letterHere 18 = .ok (.aload_n 0, 1) := by decide +kernel
theorem dX6_letterHere_19 : decode cX6_letterHere 19 = .ok (.getfield 27, 3) := by decide +kernel
theorem dX6_letterHere_22 : decode cX6_letterHere 22 = .ok (.sipush 240, 3) := by decide +kernel
theorem dX6_letterHere_25 : decode cX6_letterHere 25 = .ok (.if_icmp .ge 15, 3) := by decide +kernel
theorem dX6_letterHere_28 : decode cX6_letterHere 28 = .ok (.aload_n 0, 1) := by decide +kernel
theorem dX6_letterHere_29 : decode cX6_letterHere 29 = .ok (.getfield 9, 3) := by decide +kernel
theorem dX6_letterHere_32 : decode cX6_letterHere 32 = .ok (.aload_n 0, 1) := by decide +kernel
theorem dX6_letterHere_33 : decode cX6_letterHere 33 = .ok (.getfield 27, 3) := by decide +kernel
theorem dX6_letterHere_36 : decode cX6_letterHere 36 = .ok (.iaload, 1) := by decide +kernel
theorem dX6_letterHere_37 : decode cX6_letterHere 37 = .ok (.goto 4, 3) := by decide +kernel
theorem dX6_letterHere_40 : decode cX6_letterHere 40 = .ok (.iconst (-1), 1) := by decide +kernel
theorem dX6_letterHere_41 : decode cX6_letterHere 41 = .ok (.ireturn, 1) := by decide +kernel
set_option maxRecDepth 20000 in
theorem dX7_init_0 : decode cX7_init 0 = .ok (.aload_n 0, 1) := by decide +kernel
theorem dX7_init_1 : decode cX7_init 1 = .ok (.invokespecial 3, 3) := by decide +kernel
theorem dX7_init_4 : decode cX7_init 4 = .ok (.aload_n 0, 1) := by decide +kernel
theorem dX7_init_5 : decode cX7_init 5 = .ok (.new 9, 3) := by decide +kernel
theorem dX7_init_8 : decode cX7_init 8 = .ok (.dup, 1) := by decide +kernel
theorem dX7_init_9 : decode cX7_init 9 = .ok (.invokespecial 11, 3) := by decide +kernel
theorem dX7_init_12 : decode cX7_init 12 = .ok (.putfield 12, 3) := by decide +kernel
theorem dX7_init_15 : decode cX7_init 15 = .ok (.aload_n 0, 1) := by decide +kernel
theorem dX7_init_16 : decode cX7_init 16 = .ok (.sipush 201, 3) := by decide +kernel
theorem dX7_init_19 : decode cX7_init 19 = .ok (.newarray .int, 2) := by decide +kernel
theorem dX7_init_21 : decode cX7_init 21 = .ok (.putfield 18, 3) := by decide +kernel
theorem dX7_init_24 : decode cX7_init 24 = .ok (.return_, 1) := by decide +kernel
set_option maxRecDepth 20000 in
theorem dX7_goOn_0 : decode cX7_goOn 0 = .ok (.aload_n 0, 1) := by decide +kernel
theorem dX7_goOn_1 : decode cX7_goOn 1 = .ok (.getfield 12, 3) := by decide +kernel
theorem dX7_goOn_4 : decode cX7_goOn 4 = .ok (.aload_n 1, 1) := by decide +kernel
theorem dX7_goOn_5 : decode cX7_goOn 5 = .ok (.invokevirtual 22, 3) := by decide +kernel
theorem dX7_goOn_8 : decode cX7_goOn 8 = .ok (.iconst 0, 1) := by decide +kernel
theorem dX7_goOn_9 : decode cX7_goOn 9 = .ok (.istore_n 3, 1) := by decide +kernel
theorem dX7_goOn_10 : decode cX7_goOn 10 = .ok (.iload_n 3, 1) := by decide +kernel
theorem dX7_goOn_11 : decode cX7_goOn 11 = .ok (.iload_n 2, 1) := by decide +kernel
theorem dX7_goOn_12 : decode cX7_goOn 12 = .ok (.if_icmp .ge 16, 3) := by decide +kernel
theorem dX7_goOn_15 : decode cX7_goOn 15 = .ok (.aload_n 0, 1) := by decide +kernel
theorem dX7_goOn_16 : decode cX7_goOn 16 = .ok (.getfield 12, 3) := by decide +kernel
theorem dX7_goOn_19 : decode cX7_goOn 19 = .ok (.invokevirtual 26, 3) := by decide +kernel
theorem dX7_goOn_22 : decode cX7_goOn 22 = .ok (.iinc 3 1, 3) := by decide +kernel
theorem dX7_goOn_25 : decode cX7_goOn 25 = .ok (.goto (-15), 3) := by decide +kernel
theorem dX7_goOn_28 : decode cX7_goOn 28 = .ok (.return_, 1) := by decide +kernel
set_option maxRecDepth 20000 in
theorem dX7_startQuiet_0 : decode cX7_startQuiet 0 = .ok (.aload_n 0, 1) := by decide +kernel
theorem dX7_startQuiet_1 : decode cX7_startQuiet 1 = .ok (.getfield 12, 3) := by decide +kernel
theorem dX7_startQuiet_4 : decode cX7_startQuiet 4 = .ok (.aload_n 1, 1) := by decide +kernel
theorem dX7_startQuiet_5 : decode cX7_startQuiet 5 = .ok (.invokevirtual 22, 3) := by decide +kernel
theorem dX7_startQuiet_8 : decode cX7_startQuiet 8 = .ok (.aload_n 0, 1) := by decide +kernel
theorem dX7_startQuiet_9 : decode cX7_startQuiet 9 = .ok (.getfield 12, 3) := by decide +kernel
theorem dX7_startQuiet_12 : decode cX7_startQuiet 12 = .ok (.invokevirtual 29, 3) := by decide +kernel
theorem dX7_startQuiet_15 : decode cX7_startQuiet 15 = .ok (.aload_n 0, 1) := by decide +kernel
theorem dX7_startQuiet_16 : decode cX7_startQuiet 16 = .ok (.getfield 12, 3) := by decide +kernel
theorem dX7_startQuiet_19 : decode cX7_startQuiet 19 = .ok (.getfield 32, 3) := by decide +kernel
theorem dX7_startQuiet_22 : decode cX7_startQuiet 22 = .ok (.iconst 1, 1) := by decide +kernel
theorem dX7_startQuiet_23 : decode cX7_startQuiet 23 = .ok (.putfield 36, 3) := by decide +kernel
theorem dX7_startQuiet_26 : decode cX7_startQuiet 26 = .ok (.return_, 1) := by decide +kernel
set_option maxRecDepth 20000 in
theorem dX7_voltsBehind_0 : decode cX7_voltsBehind 0 = .ok (.aload_n 0, 1) := by decide +kernel
theorem dX7_voltsBehind_1 : decode cX7_voltsBehind 1 = .ok (.getfield 12, 3) := by decide +kernel
theorem dX7_voltsBehind_4 : decode cX7_voltsBehind 4 = .ok (.aload_n 1, 1) := by decide +kernel
theorem dX7_voltsBehind_5 : decode cX7_voltsBehind 5 = .ok (.invokevirtual 22, 3) := by decide +kernel
theorem dX7_voltsBehind_8 : decode cX7_voltsBehind 8 = .ok (.iconst 0, 1) := by decide +kernel
theorem dX7_voltsBehind_9 : decode cX7_voltsBehind 9 = .ok (.istore 4, 2) := by decide +kernel
theorem dX7_voltsBehind_11 : decode cX7_voltsBehind 11 = .ok (.iload 4, 2) := by decide +kernel
theorem dX7_voltsBehind_13 : decode cX7_voltsBehind 13 = .ok (.iload_n 3, 1) := by decide +kernel
theorem dX7_voltsBehind_14 : decode cX7_voltsBehind 14 = .ok (.if_icmp .ge 19, 3) := by decide +kernel
theorem dX7_voltsBehind_17 : decode cX7_voltsBehind 17 = .ok (.aload_n 0, 1) := by decide +kernel
theorem dX7_voltsBehind_18 : decode cX7_voltsBehind 18 = .ok (.getfield 12, 3) := by decide +kernel
theorem dX7_voltsBehind_21 : decode cX7_voltsBehind 21 = .ok (.getfield 32, 3) := by decide +kernel
theorem dX7_voltsBehind_24 : decode cX7_voltsBehind 24 = .ok (.invokevirtual 42, 3) := by decide +kernel
theorem dX7_voltsBehind_27 : decode cX7_voltsBehind 27 = .ok (.iinc 4 1, 3) := by decide +kernel
theorem dX7_voltsBehind_30 : decode cX7_voltsBehind 30 = .ok (.goto (-19), 3) := by decide +kernel
theorem dX7_voltsBehind_33 : decode cX7_voltsBehind 33 = .ok (.aload_n 0, 1) := by decide +kernel
theorem dX7_voltsBehind_34 : decode cX7_voltsBehind 34 = .ok (.getfield 12, 3) := by decide +kernel
theorem dX7_voltsBehind_37 : decode cX7_voltsBehind 37 = .ok (.getfield 32, 3) := by decide +kernel
theorem dX7_voltsBehind_40 : decode cX7_voltsBehind 40 = .ok (.iload_n 2, 1) := by decide +kernel
theorem dX7_voltsBehind_41 : decode cX7_voltsBehind 41 = .ok (.invokevirtual 45, 3) := by decide +kernel
theorem dX7_voltsBehind_44 : decode cX7_voltsBehind 44 = .ok (.ireturn, 1) := by decide +kernel
set_option maxRecDepth 20000 in
theorem dX7_peakUpTo_0 : decode cX7_peakUpTo 0 = .ok (.aload_n 0, 1) := by decide +kernel
theorem dX7_peakUpTo_1 : decode cX7_peakUpTo 1 = .ok (.getfield 12, 3) := by decide +kernel
theorem dX7_peakUpTo_4 : decode cX7_peakUpTo 4 = .ok (.aload_n 1, 1) := by decide +kernel
theorem dX7_peakUpTo_5 : decode cX7_peakUpTo 5 = .ok (.invokevirtual 22, 3) := by decide +kernel
theorem dX7_peakUpTo_8 : decode cX7_peakUpTo 8 = .ok (.aload_n 0, 1) := by decide +kernel
theorem dX7_peakUpTo_9 : decode cX7_peakUpTo 9 = .ok (.getfield 12, 3) := by decide +kernel
theorem dX7_peakUpTo_12 : decode cX7_peakUpTo 12 = .ok (.getfield 32, 3) := by decide +kernel
theorem dX7_peakUpTo_15 : decode cX7_peakUpTo 15 = .ok (.iload_n 2, 1) := by decide +kernel
theorem dX7_peakUpTo_16 : decode cX7_peakUpTo 16 = .ok (.invokevirtual 45, 3) := by decide +kernel
theorem dX7_peakUpTo_19 : decode cX7_peakUpTo 19 = .ok (.istore 4, 2) := by decide +kernel
theorem dX7_peakUpTo_21 : decode cX7_peakUpTo 21 = .ok (.iconst 0, 1) := by decide +kernel
theorem dX7_peakUpTo_22 : decode cX7_peakUpTo 22 = .ok (.istore 5, 2) := by decide +kernel
theorem dX7_peakUpTo_24 : decode cX7_peakUpTo 24 = .ok (.iload 5, 2) := by decide +kernel
theorem dX7_peakUpTo_26 : decode cX7_peakUpTo 26 = .ok (.iload_n 3, 1) := by decide +kernel
theorem dX7_peakUpTo_27 : decode cX7_peakUpTo 27 = .ok (.if_icmp .ge 37, 3) := by decide +kernel
theorem dX7_peakUpTo_30 : decode cX7_peakUpTo 30 = .ok (.aload_n 0, 1) := by decide +kernel
theorem dX7_peakUpTo_31 : decode cX7_peakUpTo 31 = .ok (.getfield 12, 3) := by decide +kernel
theorem dX7_peakUpTo_34 : decode cX7_peakUpTo 34 = .ok (.getfield 32, 3) := by decide +kernel
theorem dX7_peakUpTo_37 : decode cX7_peakUpTo 37 = .ok (.invokevirtual 42, 3) := by decide +kernel
theorem dX7_peakUpTo_40 : decode cX7_peakUpTo 40 = .ok (.iload 4, 2) := by decide +kernel
theorem dX7_peakUpTo_42 : decode cX7_peakUpTo 42 = .ok (.aload_n 0, 1) := by decide +kernel
theorem dX7_peakUpTo_43 : decode cX7_peakUpTo 43 = .ok (.getfield 12, 3) := by decide +kernel
theorem dX7_peakUpTo_46 : decode cX7_peakUpTo 46 = .ok (.getfield 32, 3) := by decide +kernel
theorem dX7_peakUpTo_49 : decode cX7_peakUpTo 49 = .ok (.iload_n 2, 1) := by decide +kernel
theorem dX7_peakUpTo_50 : decode cX7_peakUpTo 50 = .ok (.invokevirtual 45, 3) := by decide +kernel
theorem dX7_peakUpTo_53 : decode cX7_peakUpTo 53 = .ok (.invokestatic 49, 3) := by decide +kernel
theorem dX7_peakUpTo_56 : decode cX7_peakUpTo 56 = .ok (.istore 4, 2) := by decide +kernel
theorem dX7_peakUpTo_58 : decode cX7_peakUpTo 58 = .ok (.iinc 5 1, 3) := by decide +kernel
theorem dX7_peakUpTo_61 : decode cX7_peakUpTo 61 = .ok (.goto (-37), 3) := by decide +kernel
theorem dX7_peakUpTo_64 : decode cX7_peakUpTo 64 = .ok (.iload 4, 2) := by decide +kernel
theorem dX7_peakUpTo_66 : decode cX7_peakUpTo 66 = .ok (.ireturn, 1) := by decide +kernel
set_option maxRecDepth 20000 in
theorem dX7_leastUpTo_0 : decode cX7_leastUpTo 0 = .ok (.aload_n 0, 1) := by decide +kernel
theorem dX7_leastUpTo_1 : decode cX7_leastUpTo 1 = .ok (.getfield 12, 3) := by decide +kernel
theorem dX7_leastUpTo_4 : decode cX7_leastUpTo 4 = .ok (.aload_n 1, 1) := by decide +kernel
theorem dX7_leastUpTo_5 : decode cX7_leastUpTo 5 = .ok (.invokevirtual 22, 3) := by decide +kernel
theorem dX7_leastUpTo_8 : decode cX7_leastUpTo 8 = .ok (.aload_n 0, 1) := by decide +kernel
theorem dX7_leastUpTo_9 : decode cX7_leastUpTo 9 = .ok (.getfield 12, 3) := by decide +kernel
theorem dX7_leastUpTo_12 : decode cX7_leastUpTo 12 = .ok (.getfield 32, 3) := by decide +kernel
theorem dX7_leastUpTo_15 : decode cX7_leastUpTo 15 = .ok (.iload_n 2, 1) := by decide +kernel
theorem dX7_leastUpTo_16 : decode cX7_leastUpTo 16 = .ok (.invokevirtual 45, 3) := by decide +kernel
theorem dX7_leastUpTo_19 : decode cX7_leastUpTo 19 = .ok (.istore 4, 2) := by decide +kernel
theorem dX7_leastUpTo_21 : decode cX7_leastUpTo 21 = .ok (.iconst 0, 1) := by decide +kernel
theorem dX7_leastUpTo_22 : decode cX7_leastUpTo 22 = .ok (.istore 5, 2) := by decide +kernel
theorem dX7_leastUpTo_24 : decode cX7_leastUpTo 24 = .ok (.iload 5, 2) := by decide +kernel
theorem dX7_leastUpTo_26 : decode cX7_leastUpTo 26 = .ok (.iload_n 3, 1) := by decide +kernel
theorem dX7_leastUpTo_27 : decode cX7_leastUpTo 27 = .ok (.if_icmp .ge 37, 3) := by decide +kernel
theorem dX7_leastUpTo_30 : decode cX7_leastUpTo 30 = .ok (.aload_n 0, 1) := by decide +kernel
theorem dX7_leastUpTo_31 : decode cX7_leastUpTo 31 = .ok (.getfield 12, 3) := by decide +kernel
theorem dX7_leastUpTo_34 : decode cX7_leastUpTo 34 = .ok (.getfield 32, 3) := by decide +kernel
theorem dX7_leastUpTo_37 : decode cX7_leastUpTo 37 = .ok (.invokevirtual 42, 3) := by decide +kernel
theorem dX7_leastUpTo_40 : decode cX7_leastUpTo 40 = .ok (.iload 4, 2) := by decide +kernel
theorem dX7_leastUpTo_42 : decode cX7_leastUpTo 42 = .ok (.aload_n 0, 1) := by decide +kernel
theorem dX7_leastUpTo_43 : decode cX7_leastUpTo 43 = .ok (.getfield 12, 3) := by decide +kernel
theorem dX7_leastUpTo_46 : decode cX7_leastUpTo 46 = .ok (.getfield 32, 3) := by decide +kernel
theorem dX7_leastUpTo_49 : decode cX7_leastUpTo 49 = .ok (.iload_n 2, 1) := by decide +kernel
theorem dX7_leastUpTo_50 : decode cX7_leastUpTo 50 = .ok (.invokevirtual 45, 3) := by decide +kernel
theorem dX7_leastUpTo_53 : decode cX7_leastUpTo 53 = .ok (.invokestatic 55, 3) := by decide +kernel
theorem dX7_leastUpTo_56 : decode cX7_leastUpTo 56 = .ok (.istore 4, 2) := by decide +kernel
theorem dX7_leastUpTo_58 : decode cX7_leastUpTo 58 = .ok (.iinc 5 1, 3) := by decide +kernel
theorem dX7_leastUpTo_61 : decode cX7_leastUpTo 61 = .ok (.goto (-37), 3) := by decide +kernel
theorem dX7_leastUpTo_64 : decode cX7_leastUpTo 64 = .ok (.iload 4, 2) := by decide +kernel
theorem dX7_leastUpTo_66 : decode cX7_leastUpTo 66 = .ok (.ireturn, 1) := by decide +kernel
set_option maxRecDepth 20000 in
theorem dX7_restOf_0 : decode cX7_restOf 0 = .ok (.aload_n 0, 1) := by decide +kernel
theorem dX7_restOf_1 : decode cX7_restOf 1 = .ok (.getfield 12, 3) := by decide +kernel
theorem dX7_restOf_4 : decode cX7_restOf 4 = .ok (.aload_n 1, 1) := by decide +kernel
theorem dX7_restOf_5 : decode cX7_restOf 5 = .ok (.invokevirtual 22, 3) := by decide +kernel
theorem dX7_restOf_8 : decode cX7_restOf 8 = .ok (.aload_n 0, 1) := by decide +kernel
theorem dX7_restOf_9 : decode cX7_restOf 9 = .ok (.getfield 18, 3) := by decide +kernel
theorem dX7_restOf_12 : decode cX7_restOf 12 = .ok (.iconst 0, 1) := by decide +kernel
theorem dX7_restOf_13 : decode cX7_restOf 13 = .ok (.aload_n 0, 1) := by decide +kernel
theorem dX7_restOf_14 : decode cX7_restOf 14 = .ok (.getfield 12, 3) := by decide +kernel
theorem dX7_restOf_17 : decode cX7_restOf 17 = .ok (.getfield 32, 3) := by decide +kernel
theorem dX7_restOf_20 : decode cX7_restOf 20 = .ok (.iload_n 2, 1) := by decide +kernel
theorem dX7_restOf_21 : decode cX7_restOf 21 = .ok (.invokevirtual 45, 3) := by decide +kernel
theorem dX7_restOf_24 : decode cX7_restOf 24 = .ok (.iastore, 1) := by decide +kernel
theorem dX7_restOf_25 : decode cX7_restOf 25 = .ok (.iconst 1, 1) := by decide +kernel
theorem dX7_restOf_26 : decode cX7_restOf 26 = .ok (.istore_n 3, 1) := by decide +kernel
theorem dX7_restOf_27 : decode cX7_restOf 27 = .ok (.iload_n 3, 1) := by decide +kernel
theorem dX7_restOf_28 : decode cX7_restOf 28 = .ok (.sipush 200, 3) := by decide +kernel
theorem dX7_restOf_31 : decode cX7_restOf 31 = .ok (.if_icmp .gt 36, 3) := by decide +kernel
theorem dX7_restOf_34 : decode cX7_restOf 34 = .ok (.aload_n 0, 1) := by decide +kernel
theorem dX7_restOf_35 : decode cX7_restOf 35 = .ok (.getfield 12, 3) := by decide +kernel
theorem dX7_restOf_38 : decode cX7_restOf 38 = .ok (.getfield 32, 3) := by decide +kernel
theorem dX7_restOf_41 : decode cX7_restOf 41 = .ok (.invokevirtual 42, 3) := by decide +kernel
theorem dX7_restOf_44 : decode cX7_restOf 44 = .ok (.aload_n 0, 1) := by decide +kernel
theorem dX7_restOf_45 : decode cX7_restOf 45 = .ok (.getfield 18, 3) := by decide +kernel
theorem dX7_restOf_48 : decode cX7_restOf 48 = .ok (.iload_n 3, 1) := by decide +kernel
theorem dX7_restOf_49 : decode cX7_restOf 49 = .ok (.aload_n 0, 1) := by decide +kernel
theorem dX7_restOf_50 : decode cX7_restOf 50 = .ok (.getfield 12, 3) := by decide +kernel
theorem dX7_restOf_53 : decode cX7_restOf 53 = .ok (.getfield 32, 3) := by decide +kernel
theorem dX7_restOf_56 : decode cX7_restOf 56 = .ok (.iload_n 2, 1) := by decide +kernel
theorem dX7_restOf_57 : decode cX7_restOf 57 = .ok (.invokevirtual 45, 3) := by decide +kernel
theorem dX7_restOf_60 : decode cX7_restOf 60 = .ok (.iastore, 1) := by decide +kernel
theorem dX7_restOf_61 : decode cX7_restOf 61 = .ok (.iinc 3 1, 3) := by decide +kernel
theorem dX7_restOf_64 : decode cX7_restOf 64 = .ok (.goto (-37), 3) := by decide +kernel
theorem dX7_restOf_67 : decode cX7_restOf 67 = .ok (.sipush 200, 3) := by decide +kernel
theorem dX7_restOf_70 : decode cX7_restOf 70 = .ok (.istore_n 3, 1) := by decide +kernel
theorem dX7_restOf_71 : decode cX7_restOf 71 = .ok (.sipush 200, 3) := by decide +kernel
theorem dX7_restOf_74 : decode cX7_restOf 74 = .ok (.istore 4, 2) := by decide +kernel
theorem dX7_restOf_76 : decode cX7_restOf 76 = .ok (.iload 4, 2) := by decide +kernel
theorem dX7_restOf_78 : decode cX7_restOf 78 = .ok (.ifCond .lt 39, 3) := by decide +kernel
theorem dX7_restOf_81 : decode cX7_restOf 81 = .ok (.aload_n 0, 1) := by decide +kernel
theorem dX7_restOf_82 : decode cX7_restOf 82 = .ok (.getfield 18, 3) := by decide +kernel
theorem dX7_restOf_85 : decode cX7_restOf 85 = .ok (.iload 4, 2) := by decide +kernel
theorem dX7_restOf_87 : decode cX7_restOf 87 = .ok (.iaload, 1) := by decide +kernel
theorem dX7_restOf_88 : decode cX7_restOf 88 = .ok (.aload_n 0, 1) := by decide +kernel
theorem dX7_restOf_89 : decode cX7_restOf 89 = .ok (.getfield 18, 3) := by decide +kernel
theorem dX7_restOf_92 : decode cX7_restOf 92 = .ok (.sipush 200, 3) := by decide +kernel
theorem dX7_restOf_95 : decode cX7_restOf 95 = .ok (.iaload, 1) := by decide +kernel
theorem dX7_restOf_96 : decode cX7_restOf 96 = .ok (.isub, 1) := by decide +kernel
theorem dX7_restOf_97 : decode cX7_restOf 97 = .ok (.invokestatic 58, 3) := by decide +kernel
theorem dX7_restOf_100 : decode cX7_restOf 100 = .ok (.bipush 20, 2) := by decide +kernel
theorem dX7_restOf_102 : decode cX7_restOf 102 = .ok (.if_icmp .le 6, 3) := by decide +kernel
