theorem dX7_restOf_105 : decode cX7_restOf 105 = .ok (.goto 12, 3) := by decide +kernel
theorem dX7_restOf_108 : decode cX7_restOf 108 = .ok (.iload 4, 2) := by decide +kernel
theorem dX7_restOf_110 : decode cX7_restOf 110 = .ok (.istore_n 3, 1) := by decide +kernel
theorem dX7_restOf_111 : decode cX7_restOf 111 = .ok (.iinc 4 (-1), 3) := by decide +kernel
theorem dX7_restOf_114 : decode cX7_restOf 114 = .ok (.goto (-38), 3) := by decide +kernel
theorem dX7_restOf_117 : decode cX7_restOf 117 = .ok (.iload_n 3, 1) := by decide +kernel
theorem dX7_restOf_118 : decode cX7_restOf 118 = .ok (.ireturn, 1) := by decide +kernel
set_option maxRecDepth 20000 in
theorem dX7_firstOneOf_0 : decode cX7_firstOneOf 0 = .ok (.aload_n 1, 1) := by decide +kernel
theorem dX7_firstOneOf_1 : decode cX7_firstOneOf 1 = .ok (.getfield 61, 3) := by decide +kernel
theorem dX7_firstOneOf_4 : decode cX7_firstOneOf 4 = .ok (.iload_n 2, 1) := by decide +kernel
theorem dX7_firstOneOf_5 : decode cX7_firstOneOf 5 = .ok (.invokevirtual 65, 3) := by decide +kernel
theorem dX7_firstOneOf_8 : decode cX7_firstOneOf 8 = .ok (.ifCond .ne 5, 3) := by decide +kernel
theorem dX7_firstOneOf_11 : decode cX7_firstOneOf 11 = .ok (.iconst (-1), 1) := by decide +kernel
theorem dX7_firstOneOf_12 : decode cX7_firstOneOf 12 = .ok (.ireturn, 1) := by decide +kernel
theorem dX7_firstOneOf_13 : decode cX7_firstOneOf 13 = .ok (.aload_n 0, 1) := by decide +kernel
theorem dX7_firstOneOf_14 : decode cX7_firstOneOf 14 = .ok (.getfield 12, 3) := by decide +kernel
theorem dX7_firstOneOf_17 : decode cX7_firstOneOf 17 = .ok (.aload_n 1, 1) := by decide +kernel
theorem dX7_firstOneOf_18 : decode cX7_firstOneOf 18 = .ok (.invokevirtual 22, 3) := by decide +kernel
theorem dX7_firstOneOf_21 : decode cX7_firstOneOf 21 = .ok (.iconst 0, 1) := by decide +kernel
theorem dX7_firstOneOf_22 : decode cX7_firstOneOf 22 = .ok (.istore_n 3, 1) := by decide +kernel
theorem dX7_firstOneOf_23 : decode cX7_firstOneOf 23 = .ok (.iload_n 3, 1) := by decide +kernel
theorem dX7_firstOneOf_24 : decode cX7_firstOneOf 24 = .ok (.sipush 200, 3) := by decide +kernel
theorem dX7_firstOneOf_27 : decode cX7_firstOneOf 27 = .ok (.if_icmp .gt 34, 3) := by decide +kernel
theorem dX7_firstOneOf_30 : decode cX7_firstOneOf 30 = .ok (.aload_n 0, 1) := by decide +kernel
theorem dX7_firstOneOf_31 : decode cX7_firstOneOf 31 = .ok (.getfield 12, 3) := by decide +kernel
theorem dX7_firstOneOf_34 : decode cX7_firstOneOf 34 = .ok (.getfield 61, 3) := by decide +kernel
theorem dX7_firstOneOf_37 : decode cX7_firstOneOf 37 = .ok (.getfield 71, 3) := by decide +kernel
theorem dX7_firstOneOf_40 : decode cX7_firstOneOf 40 = .ok (.iload_n 2, 1) := by decide +kernel
theorem dX7_firstOneOf_41 : decode cX7_firstOneOf 41 = .ok (.iaload, 1) := by decide +kernel
theorem dX7_firstOneOf_42 : decode cX7_firstOneOf 42 = .ok (.iconst 1, 1) := by decide +kernel
theorem dX7_firstOneOf_43 : decode cX7_firstOneOf 43 = .ok (.if_icmp .ne 5, 3) := by decide +kernel
theorem dX7_firstOneOf_46 : decode cX7_firstOneOf 46 = .ok (.iload_n 3, 1) := by decide +kernel
theorem dX7_firstOneOf_47 : decode cX7_firstOneOf 47 = .ok (.ireturn, 1) := by decide +kernel
theorem dX7_firstOneOf_48 : decode cX7_firstOneOf 48 = .ok (.aload_n 0, 1) := by decide +kernel
theorem dX7_firstOneOf_49 : decode cX7_firstOneOf 49 = .ok (.getfield 12, 3) := by decide +kernel
theorem dX7_firstOneOf_52 : decode cX7_firstOneOf 52 = .ok (.invokevirtual 26, 3) := by decide +kernel
theorem dX7_firstOneOf_55 : decode cX7_firstOneOf 55 = .ok (.iinc 3 1, 3) := by decide +kernel
theorem dX7_firstOneOf_58 : decode cX7_firstOneOf 58 = .ok (.goto (-35), 3) := by decide +kernel
theorem dX7_firstOneOf_61 : decode cX7_firstOneOf 61 = .ok (.iconst (-1), 1) := by decide +kernel
theorem dX7_firstOneOf_62 : decode cX7_firstOneOf 62 = .ok (.ireturn, 1) := by decide +kernel
set_option maxRecDepth 20000 in
theorem dX7_overOf_0 : decode cX7_overOf 0 = .ok (.aload_n 0, 1) := by decide +kernel
theorem dX7_overOf_1 : decode cX7_overOf 1 = .ok (.aload_n 1, 1) := by decide +kernel
theorem dX7_overOf_2 : decode cX7_overOf 2 = .ok (.invokevirtual 74, 3) := by decide +kernel
theorem dX7_overOf_5 : decode cX7_overOf 5 = .ok (.aload_n 0, 1) := by decide +kernel
theorem dX7_overOf_6 : decode cX7_overOf 6 = .ok (.getfield 12, 3) := by decide +kernel
theorem dX7_overOf_9 : decode cX7_overOf 9 = .ok (.getfield 32, 3) := by decide +kernel
theorem dX7_overOf_12 : decode cX7_overOf 12 = .ok (.iload_n 2, 1) := by decide +kernel
theorem dX7_overOf_13 : decode cX7_overOf 13 = .ok (.putfield 77, 3) := by decide +kernel
theorem dX7_overOf_16 : decode cX7_overOf 16 = .ok (.aload_n 0, 1) := by decide +kernel
theorem dX7_overOf_17 : decode cX7_overOf 17 = .ok (.getfield 12, 3) := by decide +kernel
theorem dX7_overOf_20 : decode cX7_overOf 20 = .ok (.getfield 32, 3) := by decide +kernel
theorem dX7_overOf_23 : decode cX7_overOf 23 = .ok (.getfield 81, 3) := by decide +kernel
theorem dX7_overOf_26 : decode cX7_overOf 26 = .ok (.iconst 1, 1) := by decide +kernel
theorem dX7_overOf_27 : decode cX7_overOf 27 = .ok (.isub, 1) := by decide +kernel
theorem dX7_overOf_28 : decode cX7_overOf 28 = .ok (.istore 4, 2) := by decide +kernel
theorem dX7_overOf_30 : decode cX7_overOf 30 = .ok (.iconst 0, 1) := by decide +kernel
theorem dX7_overOf_31 : decode cX7_overOf 31 = .ok (.istore 5, 2) := by decide +kernel
theorem dX7_overOf_33 : decode cX7_overOf 33 = .ok (.iload 4, 2) := by decide +kernel
theorem dX7_overOf_35 : decode cX7_overOf 35 = .ok (.ifCond .ge 6, 3) := by decide +kernel
theorem dX7_overOf_38 : decode cX7_overOf 38 = .ok (.iload 5, 2) := by decide +kernel
theorem dX7_overOf_40 : decode cX7_overOf 40 = .ok (.ireturn, 1) := by decide +kernel
theorem dX7_overOf_41 : decode cX7_overOf 41 = .ok (.iconst 0, 1) := by decide +kernel
theorem dX7_overOf_42 : decode cX7_overOf 42 = .ok (.istore 6, 2) := by decide +kernel
theorem dX7_overOf_44 : decode cX7_overOf 44 = .ok (.iload 6, 2) := by decide +kernel
theorem dX7_overOf_46 : decode cX7_overOf 46 = .ok (.sipush 200, 3) := by decide +kernel
theorem dX7_overOf_49 : decode cX7_overOf 49 = .ok (.if_icmp .ge 55, 3) := by decide +kernel
theorem dX7_overOf_52 : decode cX7_overOf 52 = .ok (.iload 5, 2) := by decide +kernel
theorem dX7_overOf_54 : decode cX7_overOf 54 = .ok (.iload_n 3, 1) := by decide +kernel
theorem dX7_overOf_55 : decode cX7_overOf 55 = .ok (.if_icmp .ge 49, 3) := by decide +kernel
theorem dX7_overOf_58 : decode cX7_overOf 58 = .ok (.aload_n 0, 1) := by decide +kernel
theorem dX7_overOf_59 : decode cX7_overOf 59 = .ok (.getfield 12, 3) := by decide +kernel
theorem dX7_overOf_62 : decode cX7_overOf 62 = .ok (.getfield 32, 3) := by decide +kernel
theorem dX7_overOf_65 : decode cX7_overOf 65 = .ok (.invokevirtual 42, 3) := by decide +kernel
theorem dX7_overOf_68 : decode cX7_overOf 68 = .ok (.iload 5, 2) := by decide +kernel
theorem dX7_overOf_70 : decode cX7_overOf 70 = .ok (.aload_n 0, 1) := by decide +kernel
theorem dX7_overOf_71 : decode cX7_overOf 71 = .ok (.getfield 12, 3) := by decide +kernel
theorem dX7_overOf_74 : decode cX7_overOf 74 = .ok (.getfield 32, 3) := by decide +kernel
theorem dX7_overOf_77 : decode cX7_overOf 77 = .ok (.iload 4, 2) := by decide +kernel
theorem dX7_overOf_79 : decode cX7_overOf 79 = .ok (.invokevirtual 45, 3) := by decide +kernel
theorem dX7_overOf_82 : decode cX7_overOf 82 = .ok (.aload_n 0, 1) := by decide +kernel
theorem dX7_overOf_83 : decode cX7_overOf 83 = .ok (.getfield 12, 3) := by decide +kernel
theorem dX7_overOf_86 : decode cX7_overOf 86 = .ok (.getfield 32, 3) := by decide +kernel
theorem dX7_overOf_89 : decode cX7_overOf 89 = .ok (.invokevirtual 84, 3) := by decide +kernel
theorem dX7_overOf_92 : decode cX7_overOf 92 = .ok (.isub, 1) := by decide +kernel
theorem dX7_overOf_93 : decode cX7_overOf 93 = .ok (.invokestatic 49, 3) := by decide +kernel
theorem dX7_overOf_96 : decode cX7_overOf 96 = .ok (.istore 5, 2) := by decide +kernel
theorem dX7_overOf_98 : decode cX7_overOf 98 = .ok (.iinc 6 1, 3) := by decide +kernel
theorem dX7_overOf_101 : decode cX7_overOf 101 = .ok (.goto (-57), 3) := by decide +kernel
theorem dX7_overOf_104 : decode cX7_overOf 104 = .ok (.iload 5, 2) := by decide +kernel
theorem dX7_overOf_106 : decode cX7_overOf 106 = .ok (.ireturn, 1) := by decide +kernel
set_option maxRecDepth 20000 in
theorem dX7_bestDriverOf_0 : decode cX7_bestDriverOf 0 = .ok (.iconst 0, 1) := by decide +kernel
theorem dX7_bestDriverOf_1 : decode cX7_bestDriverOf 1 = .ok (.istore_n 2, 1) := by decide +kernel
theorem dX7_bestDriverOf_2 : decode cX7_bestDriverOf 2 = .ok (.ldc 88, 2) := by decide +kernel
theorem dX7_bestDriverOf_4 : decode cX7_bestDriverOf 4 = .ok (.istore_n 3, 1) := by decide +kernel
theorem dX7_bestDriverOf_5 : decode cX7_bestDriverOf 5 = .ok (.iconst 0, 1) := by decide +kernel
theorem dX7_bestDriverOf_6 : decode cX7_bestDriverOf 6 = .ok (.istore 4, 2) := by decide +kernel
theorem dX7_bestDriverOf_8 : decode cX7_bestDriverOf 8 = .ok (.iload 4, 2) := by decide +kernel
theorem dX7_bestDriverOf_10 : decode cX7_bestDriverOf 10 = .ok (.bipush 99, 2) := by decide +kernel
theorem dX7_bestDriverOf_12 : decode cX7_bestDriverOf 12 = .ok (.if_icmp .gt 35, 3) := by decide +kernel
theorem dX7_bestDriverOf_15 : decode cX7_bestDriverOf 15 = .ok (.iload_n 3, 1) := by decide +kernel
theorem dX7_bestDriverOf_16 : decode cX7_bestDriverOf 16 = .ok (.ifCond .le 31, 3) := by decide +kernel
theorem dX7_bestDriverOf_19 : decode cX7_bestDriverOf 19 = .ok (.aload_n 0, 1) := by decide +kernel
theorem dX7_bestDriverOf_20 : decode cX7_bestDriverOf 20 = .ok (.aload_n 1, 1) := by decide +kernel
theorem dX7_bestDriverOf_21 : decode cX7_bestDriverOf 21 = .ok (.iload 4, 2) := by decide +kernel
theorem dX7_bestDriverOf_23 : decode cX7_bestDriverOf 23 = .ok (.iload_n 3, 1) := by decide +kernel
theorem dX7_bestDriverOf_24 : decode cX7_bestDriverOf 24 = .ok (.invokevirtual 89, 3) := by decide +kernel
theorem dX7_bestDriverOf_27 : decode cX7_bestDriverOf 27 = .ok (.istore 5, 2) := by decide +kernel
theorem dX7_bestDriverOf_29 : decode cX7_bestDriverOf 29 = .ok (.iload 5, 2) := by decide +kernel
theorem dX7_bestDriverOf_31 : decode cX7_bestDriverOf 31 = .ok (.iload_n 3, 1) := by decide +kernel
theorem dX7_bestDriverOf_32 : decode cX7_bestDriverOf 32 = .ok (.if_icmp .ge 9, 3) := by decide +kernel
theorem dX7_bestDriverOf_35 : decode cX7_bestDriverOf 35 = .ok (.iload 5, 2) := by decide +kernel
theorem dX7_bestDriverOf_37 : decode cX7_bestDriverOf 37 = .ok (.istore_n 3, 1) := by decide +kernel
theorem dX7_bestDriverOf_38 : decode cX7_bestDriverOf 38 = .ok (.iload 4, 2) := by decide +kernel
theorem dX7_bestDriverOf_40 : decode cX7_bestDriverOf 40 = .ok (.istore_n 2, 1) := by decide +kernel
theorem dX7_bestDriverOf_41 : decode cX7_bestDriverOf 41 = .ok (.iinc 4 1, 3) := by decide +kernel
theorem dX7_bestDriverOf_44 : decode cX7_bestDriverOf 44 = .ok (.goto (-36), 3) := by decide +kernel
theorem dX7_bestDriverOf_47 : decode cX7_bestDriverOf 47 = .ok (.iload_n 2, 1) := by decide +kernel
theorem dX7_bestDriverOf_48 : decode cX7_bestDriverOf 48 = .ok (.ireturn, 1) := by decide +kernel
set_option maxRecDepth 20000 in
theorem dX7_firstBackOf_0 : decode cX7_firstBackOf 0 = .ok (.aload_n 0, 1) := by decide +kernel
theorem dX7_firstBackOf_1 : decode cX7_firstBackOf 1 = .ok (.aload_n 1, 1) := by decide +kernel
theorem dX7_firstBackOf_2 : decode cX7_firstBackOf 2 = .ok (.invokevirtual 74, 3) := by decide +kernel
theorem dX7_firstBackOf_5 : decode cX7_firstBackOf 5 = .ok (.iconst 1, 1) := by decide +kernel
theorem dX7_firstBackOf_6 : decode cX7_firstBackOf 6 = .ok (.istore_n 2, 1) := by decide +kernel
theorem dX7_firstBackOf_7 : decode cX7_firstBackOf 7 = .ok (.iload_n 2, 1) := by decide +kernel
theorem dX7_firstBackOf_8 : decode cX7_firstBackOf 8 = .ok (.sipush 200, 3) := by decide +kernel
theorem dX7_firstBackOf_11 : decode cX7_firstBackOf 11 = .ok (.if_icmp .gt 36, 3) := by decide +kernel
theorem dX7_firstBackOf_14 : decode cX7_firstBackOf 14 = .ok (.aload_n 0, 1) := by decide +kernel
theorem dX7_firstBackOf_15 : decode cX7_firstBackOf 15 = .ok (.getfield 12, 3) := by decide +kernel
theorem dX7_firstBackOf_18 : decode cX7_firstBackOf 18 = .ok (.getfield 32, 3) := by decide +kernel
theorem dX7_firstBackOf_21 : decode cX7_firstBackOf 21 = .ok (.invokevirtual 42, 3) := by decide +kernel
theorem dX7_firstBackOf_24 : decode cX7_firstBackOf 24 = .ok (.aload_n 0, 1) := by decide +kernel
theorem dX7_firstBackOf_25 : decode cX7_firstBackOf 25 = .ok (.getfield 12, 3) := by decide +kernel
theorem dX7_firstBackOf_28 : decode cX7_firstBackOf 28 = .ok (.getfield 32, 3) := by decide +kernel
theorem dX7_firstBackOf_31 : decode cX7_firstBackOf 31 = .ok (.getfield 93, 3) := by decide +kernel
theorem dX7_firstBackOf_34 : decode cX7_firstBackOf 34 = .ok (.iconst 0, 1) := by decide +kernel
theorem dX7_firstBackOf_35 : decode cX7_firstBackOf 35 = .ok (.iaload, 1) := by decide +kernel
theorem dX7_firstBackOf_36 : decode cX7_firstBackOf 36 = .ok (.ifCond .eq 5, 3) := by decide +kernel
theorem dX7_firstBackOf_39 : decode cX7_firstBackOf 39 = .ok (.iload_n 2, 1) := by decide +kernel
theorem dX7_firstBackOf_40 : decode cX7_firstBackOf 40 = .ok (.ireturn, 1) := by decide +kernel
theorem dX7_firstBackOf_41 : decode cX7_firstBackOf 41 = .ok (.iinc 2 1, 3) := by decide +kernel
theorem dX7_firstBackOf_44 : decode cX7_firstBackOf 44 = .ok (.goto (-37), 3) := by decide +kernel
theorem dX7_firstBackOf_47 : decode cX7_firstBackOf 47 = .ok (.iconst (-1), 1) := by decide +kernel
theorem dX7_firstBackOf_48 : decode cX7_firstBackOf 48 = .ok (.ireturn, 1) := by decide +kernel
theorem dX8_init_0 : decode cX8_init 0 = .ok (.aload_n 0, 1) := by decide +kernel
theorem dX8_init_1 : decode cX8_init 1 = .ok (.invokespecial 3, 3) := by decide +kernel
theorem dX8_init_4 : decode cX8_init 4 = .ok (.aload_n 0, 1) := by decide +kernel
theorem dX8_init_5 : decode cX8_init 5 = .ok (.bipush 8, 2) := by decide +kernel
theorem dX8_init_7 : decode cX8_init 7 = .ok (.newarray .int, 2) := by decide +kernel
theorem dX8_init_9 : decode cX8_init 9 = .ok (.putfield 9, 3) := by decide +kernel
theorem dX8_init_12 : decode cX8_init 12 = .ok (.aload_n 0, 1) := by decide +kernel
theorem dX8_init_13 : decode cX8_init 13 = .ok (.bipush 8, 2) := by decide +kernel
theorem dX8_init_15 : decode cX8_init 15 = .ok (.newarray .int, 2) := by decide +kernel
theorem dX8_init_17 : decode cX8_init 17 = .ok (.putfield 15, 3) := by decide +kernel
theorem dX8_init_20 : decode cX8_init 20 = .ok (.aload_n 0, 1) := by decide +kernel
theorem dX8_init_21 : decode cX8_init 21 = .ok (.bipush 72, 2) := by decide +kernel
theorem dX8_init_23 : decode cX8_init 23 = .ok (.newarray .int, 2) := by decide +kernel
theorem dX8_init_25 : decode cX8_init 25 = .ok (.putfield 18, 3) := by decide +kernel
theorem dX8_init_28 : decode cX8_init 28 = .ok (.aload_n 0, 1) := by decide +kernel
theorem dX8_init_29 : decode cX8_init 29 = .ok (.bipush 72, 2) := by decide +kernel
theorem dX8_init_31 : decode cX8_init 31 = .ok (.newarray .int, 2) := by decide +kernel
theorem dX8_init_33 : decode cX8_init 33 = .ok (.putfield 21, 3) := by decide +kernel
theorem dX8_init_36 : decode cX8_init 36 = .ok (.aload_n 0, 1) := by decide +kernel
theorem dX8_init_37 : decode cX8_init 37 = .ok (.bipush 72, 2) := by decide +kernel
theorem dX8_init_39 : decode cX8_init 39 = .ok (.newarray .int, 2) := by decide +kernel
theorem dX8_init_41 : decode cX8_init 41 = .ok (.putfield 24, 3) := by decide +kernel
theorem dX8_init_44 : decode cX8_init 44 = .ok (.aload_n 0, 1) := by decide +kernel
theorem dX8_init_45 : decode cX8_init 45 = .ok (.bipush 72, 2) := by decide +kernel
theorem dX8_init_47 : decode cX8_init 47 = .ok (.newarray .int, 2) := by decide +kernel
theorem dX8_init_49 : decode cX8_init 49 = .ok (.putfield 27, 3) := by decide +kernel
theorem dX8_init_52 : decode cX8_init 52 = .ok (.return_, 1) := by decide +kernel
set_option maxRecDepth 20000 in
theorem dX8_clear_0 : decode cX8_clear 0 = .ok (.aload_n 0, 1) := by decide +kernel
theorem dX8_clear_1 : decode cX8_clear 1 = .ok (.getfield 9, 3) := by decide +kernel
theorem dX8_clear_4 : decode cX8_clear 4 = .ok (.iconst 0, 1) := by decide +kernel
theorem dX8_clear_5 : decode cX8_clear 5 = .ok (.invokestatic 30, 3) := by decide +kernel
theorem dX8_clear_8 : decode cX8_clear 8 = .ok (.aload_n 0, 1) := by decide +kernel
theorem dX8_clear_9 : decode cX8_clear 9 = .ok (.getfield 15, 3) := by decide +kernel
theorem dX8_clear_12 : decode cX8_clear 12 = .ok (.iconst 0, 1) := by decide +kernel
theorem dX8_clear_13 : decode cX8_clear 13 = .ok (.invokestatic 30, 3) := by decide +kernel
theorem dX8_clear_16 : decode cX8_clear 16 = .ok (.aload_n 0, 1) := by decide +kernel
theorem dX8_clear_17 : decode cX8_clear 17 = .ok (.getfield 18, 3) := by decide +kernel
theorem dX8_clear_20 : decode cX8_clear 20 = .ok (.iconst 0, 1) := by decide +kernel
theorem dX8_clear_21 : decode cX8_clear 21 = .ok (.invokestatic 30, 3) := by decide +kernel
theorem dX8_clear_24 : decode cX8_clear 24 = .ok (.aload_n 0, 1) := by decide +kernel
theorem dX8_clear_25 : decode cX8_clear 25 = .ok (.getfield 27, 3) := by decide +kernel
theorem dX8_clear_28 : decode cX8_clear 28 = .ok (.iconst 0, 1) := by decide +kernel
theorem dX8_clear_29 : decode cX8_clear 29 = .ok (.invokestatic 30, 3) := by decide +kernel
theorem dX8_clear_32 : decode cX8_clear 32 = .ok (.aload_n 0, 1) := by decide +kernel
theorem dX8_clear_33 : decode cX8_clear 33 = .ok (.invokevirtual 36, 3) := by decide +kernel
theorem dX8_clear_36 : decode cX8_clear 36 = .ok (.aload_n 0, 1) := by decide +kernel
theorem dX8_clear_37 : decode cX8_clear 37 = .ok (.iconst 0, 1) := by decide +kernel
theorem dX8_clear_38 : decode cX8_clear 38 = .ok (.putfield 39, 3) := by decide +kernel
theorem dX8_clear_41 : decode cX8_clear 41 = .ok (.aload_n 0, 1) := by decide +kernel
theorem dX8_clear_42 : decode cX8_clear 42 = .ok (.iconst 0, 1) := by decide +kernel
theorem dX8_clear_43 : decode cX8_clear 43 = .ok (.putfield 43, 3) := by decide +kernel
theorem dX8_clear_46 : decode cX8_clear 46 = .ok (.aload_n 0, 1) := by decide +kernel
theorem dX8_clear_47 : decode cX8_clear 47 = .ok (.iconst 0, 1) := by decide +kernel
theorem dX8_clear_48 : decode cX8_clear 48 = .ok (.putfield 46, 3) := by decide +kernel
theorem dX8_clear_51 : decode cX8_clear 51 = .ok (.aload_n 0, 1) := by decide +kernel
theorem dX8_clear_52 : decode cX8_clear 52 = .ok (.iconst 0, 1) := by decide +kernel
theorem dX8_clear_53 : decode cX8_clear 53 = .ok (.putfield 49, 3) := by decide +kernel
theorem dX8_clear_56 : decode cX8_clear 56 = .ok (.aload_n 0, 1) := by decide +kernel
theorem dX8_clear_57 : decode cX8_clear 57 = .ok (.iconst 0, 1) := by decide +kernel
theorem dX8_clear_58 : decode cX8_clear 58 = .ok (.putfield 52, 3) := by decide +kernel
theorem dX8_clear_61 : decode cX8_clear 61 = .ok (.aload_n 0, 1) := by decide +kernel
theorem dX8_clear_62 : decode cX8_clear 62 = .ok (.iconst 0, 1) := by decide +kernel
theorem dX8_clear_63 : decode cX8_clear 63 = .ok (.putfield 55, 3) := by decide +kernel
theorem dX8_clear_66 : decode cX8_clear 66 = .ok (.aload_n 0, 1) := by decide +kernel
theorem dX8_clear_67 : decode cX8_clear 67 = .ok (.iconst 0, 1) := by decide +kernel
theorem dX8_clear_68 : decode cX8_clear 68 = .ok (.putfield 58, 3) := by decide +kernel
theorem dX8_clear_71 : decode cX8_clear 71 = .ok (.return_, 1) := by decide +kernel
theorem dX8_copyFrom_0 : decode cX8_copyFrom 0 = .ok (.aload_n 1, 1) := by decide +kernel
theorem dX8_copyFrom_1 : decode cX8_copyFrom 1 = .ok (.getfield 9, 3) := by decide +kernel
theorem dX8_copyFrom_4 : decode cX8_copyFrom 4 = .ok (.iconst 0, 1) := by decide +kernel
theorem dX8_copyFrom_5 : decode cX8_copyFrom 5 = .ok (.aload_n 0, 1) := by decide +kernel
theorem dX8_copyFrom_6 : decode cX8_copyFrom 6 = .ok (.getfield 9, 3) := by decide +kernel
theorem dX8_copyFrom_9 : decode cX8_copyFrom 9 = .ok (.iconst 0, 1) := by decide +kernel
theorem dX8_copyFrom_10 : decode cX8_copyFrom 10 = .ok (.bipush 8, 2) := by decide +kernel
theorem dX8_copyFrom_12 : decode cX8_copyFrom 12 = .ok (.invokestatic 62, 3) := by decide +kernel
theorem dX8_copyFrom_15 : decode cX8_copyFrom 15 = .ok (.aload_n 1, 1) := by decide +kernel
theorem dX8_copyFrom_16 : decode cX8_copyFrom 16 = .ok (.getfield 15, 3) := by decide +kernel
theorem dX8_copyFrom_19 : decode cX8_copyFrom 19 = .ok (.iconst 0, 1) := by decide +kernel
theorem dX8_copyFrom_20 : decode cX8_copyFrom 20 = .ok (.aload_n 0, 1) := by decide +kernel
theorem dX8_copyFrom_21 : decode cX8_copyFrom 21 = .ok (.getfield 15, 3) := by decide +kernel
theorem dX8_copyFrom_24 : decode cX8_copyFrom 24 = .ok (.iconst 0, 1) := by decide +kernel
theorem dX8_copyFrom_25 : decode cX8_copyFrom 25 = .ok (.bipush 8, 2) := by decide +kernel
theorem dX8_copyFrom_27 : decode cX8_copyFrom 27 = .ok (.invokestatic 62, 3) := by decide +kernel
theorem dX8_copyFrom_30 : decode cX8_copyFrom 30 = .ok (.aload_n 1, 1) := by decide +kernel
theorem dX8_copyFrom_31 : decode cX8_copyFrom 31 = .ok (.getfield 18, 3) := by decide +kernel
theorem dX8_copyFrom_34 : decode cX8_copyFrom 34 = .ok (.iconst 0, 1) := by decide +kernel
theorem dX8_copyFrom_35 : decode cX8_copyFrom 35 = .ok (.aload_n 0, 1) := by decide +kernel
theorem dX8_copyFrom_36 : decode cX8_copyFrom 36 = .ok (.getfield 18, 3) := by decide +kernel
theorem dX8_copyFrom_39 : decode cX8_copyFrom 39 = .ok (.iconst 0, 1) := by decide +kernel
theorem dX8_copyFrom_40 : decode cX8_copyFrom 40 = .ok (.bipush 72, 2) := by decide +kernel
theorem dX8_copyFrom_42 : decode cX8_copyFrom 42 = .ok (.invokestatic 62, 3) := by decide +kernel
theorem dX8_copyFrom_45 : decode cX8_copyFrom 45 = .ok (.aload_n 1, 1) := by decide +kernel
theorem dX8_copyFrom_46 : decode cX8_copyFrom 46 = .ok (.getfield 21, 3) := by decide +kernel
theorem dX8_copyFrom_49 : decode cX8_copyFrom 49 = .ok (.iconst 0, 1) := by decide +kernel
theorem dX8_copyFrom_50 : decode cX8_copyFrom 50 = .ok (.aload_n 0, 1) := by decide +kernel
theorem dX8_copyFrom_51 : decode cX8_copyFrom 51 = .ok (.getfield 21, 3) := by decide +kernel
theorem dX8_copyFrom_54 : decode cX8_copyFrom 54 = .ok (.iconst 0, 1) := by decide +kernel
theorem dX8_copyFrom_55 : decode cX8_copyFrom 55 = .ok (.bipush 72, 2) := by decide +kernel
theorem dX8_copyFrom_57 : decode cX8_copyFrom 57 = .ok (.invokestatic 62, 3) := by decide +kernel
theorem dX8_copyFrom_60 : decode cX8_copyFrom 60 = .ok (.aload_n 1, 1) := by decide +kernel
theorem dX8_copyFrom_61 : decode cX8_copyFrom 61 = .ok (.getfield 24, 3) := by decide +kernel
theorem dX8_copyFrom_64 : decode cX8_copyFrom 64 = .ok (.iconst 0, 1) := by decide +kernel
theorem dX8_copyFrom_65 : decode cX8_copyFrom 65 = .ok (.aload_n 0, 1) := by decide +kernel
theorem dX8_copyFrom_66 : decode cX8_copyFrom 66 = .ok (.getfield 24, 3) := by decide +kernel
theorem dX8_copyFrom_69 : decode cX8_copyFrom 69 = .ok (.iconst 0, 1) := by decide +kernel
theorem dX8_copyFrom_70 : decode cX8_copyFrom 70 = .ok (.bipush 72, 2) := by decide +kernel
theorem dX8_copyFrom_72 : decode cX8_copyFrom 72 = .ok (.invokestatic 62, 3) := by decide +kernel
theorem dX8_copyFrom_75 : decode cX8_copyFrom 75 = .ok (.aload_n 1, 1) := by decide +kernel
theorem dX8_copyFrom_76 : decode cX8_copyFrom 76 = .ok (.getfield 27, 3) := by decide +kernel
theorem dX8_copyFrom_79 : decode cX8_copyFrom 79 = .ok (.iconst 0, 1) := by decide +kernel
theorem dX8_copyFrom_80 : decode cX8_copyFrom 80 = .ok (.aload_n 0, 1) := by decide +kernel
theorem dX8_copyFrom_81 : decode cX8_copyFrom 81 = .ok (.getfield 27, 3) := by decide +kernel
theorem dX8_copyFrom_84 : decode cX8_copyFrom 84 = .ok (.iconst 0, 1) := by decide +kernel
theorem dX8_copyFrom_85 : decode cX8_copyFrom 85 = .ok (.bipush 72, 2) := by decide +kernel
theorem dX8_copyFrom_87 : decode cX8_copyFrom 87 = .ok (.invokestatic 62, 3) := by decide +kernel
theorem dX8_copyFrom_90 : decode cX8_copyFrom 90 = .ok (.aload_n 0, 1) := by decide +kernel
theorem dX8_copyFrom_91 : decode cX8_copyFrom 91 = .ok (.aload_n 1, 1) := by decide +kernel
theorem dX8_copyFrom_92 : decode cX8_copyFrom 92 = .ok (.getfield 39, 3) := by decide +kernel
theorem dX8_copyFrom_95 : decode cX8_copyFrom 95 = .ok (.putfield 39, 3) := by decide +kernel
theorem dX8_copyFrom_98 : decode cX8_copyFrom 98 = .ok (.aload_n 0, 1) := by decide +kernel
theorem dX8_copyFrom_99 : decode cX8_copyFrom 99 = .ok (.aload_n 1, 1) := by decide +kernel
theorem dX8_copyFrom_100 : decode cX8_copyFrom 100 = .ok (.getfield 43, 3) := by decide +kernel
theorem dX8_copyFrom_103 : decode cX8_copyFrom 103 = .ok (.putfield 43, 3) := by decide +kernel
theorem dX8_copyFrom_106 : decode cX8_copyFrom 106 = .ok (.aload_n 0, 1) := by decide +kernel
theorem dX8_copyFrom_107 : decode cX8_copyFrom 107 = .ok (.aload_n 1, 1) := by decide +kernel
theorem dX8_copyFrom_108 : decode cX8_copyFrom 108 = .ok (.getfield 46, 3) := by decide +kernel
theorem dX8_copyFrom_111 : decode cX8_copyFrom 111 = .ok (.putfield 46, 3) := by decide +kernel
theorem dX8_copyFrom_114 : decode cX8_copyFrom 114 = .ok (.aload_n 0, 1) := by decide +kernel
theorem dX8_copyFrom_115 : decode cX8_copyFrom 115 = .ok (.aload_n 1, 1) := by decide +kernel
theorem dX8_copyFrom_116 : decode cX8_copyFrom 116 = .ok (.getfield 49, 3) := by decide +kernel
theorem dX8_copyFrom_119 : decode cX8_copyFrom 119 = .ok (.putfield 49, 3) := by decide +kernel
theorem dX8_copyFrom_122 : decode cX8_copyFrom 122 = .ok (.aload_n 0, 1) := by decide +kernel
theorem dX8_copyFrom_123 : decode cX8_copyFrom 123 = .ok (.aload_n 1, 1) := by decide +kernel
theorem dX8_copyFrom_124 : decode cX8_copyFrom 124 = .ok (.getfield 52, 3) := by decide +kernel
theorem dX8_copyFrom_127 : decode cX8_copyFrom 127 = .ok (.putfield 52, 3) := by decide +kernel
theorem dX8_copyFrom_130 : decode cX8_copyFrom 130 = .ok (.aload_n 0, 1) := by decide +kernel
theorem dX8_copyFrom_131 : decode cX8_copyFrom 131 = .ok (.aload_n 1, 1) := by decide +kernel
theorem dX8_copyFrom_132 : decode cX8_copyFrom 132 = .ok (.getfield 55, 3) := by decide +kernel
theorem dX8_copyFrom_135 : decode cX8_copyFrom 135 = .ok (.putfield 55, 3) := by decide +kernel
theorem dX8_copyFrom_138 : decode cX8_copyFrom 138 = .ok (.aload_n 0, 1) := by decide +kernel
theorem dX8_copyFrom_139 : decode cX8_copyFrom 139 = .ok (.aload_n 1, 1) := by decide +kernel
theorem dX8_copyFrom_140 : decode cX8_copyFrom 140 = .ok (.getfield 58, 3) := by decide +kernel
theorem dX8_copyFrom_143 : decode cX8_copyFrom 143 = .ok (.putfield 58, 3) := by decide +kernel
theorem dX8_copyFrom_146 : decode cX8_copyFrom 146 = .ok (.return_, 1) := by decide +kernel
set_option maxRecDepth 20000 in
theorem dX8_calmWaves_0 : decode cX8_calmWaves 0 = .ok (.aload_n 0, 1) := by decide +kernel
theorem dX8_calmWaves_1 : decode cX8_calmWaves 1 = .ok (.getfield 21, 3) := by decide +kernel
theorem dX8_calmWaves_4 : decode cX8_calmWaves 4 = .ok (.iconst 0, 1) := by decide +kernel
theorem dX8_calmWaves_5 : decode cX8_calmWaves 5 = .ok (.invokestatic 30, 3) := by decide +kernel
theorem dX8_calmWaves_8 : decode cX8_calmWaves 8 = .ok (.aload_n 0, 1) := by decide +kernel
theorem dX8_calmWaves_9 : decode cX8_calmWaves 9 = .ok (.getfield 24, 3) := by decide +kernel
theorem dX8_calmWaves_12 : decode cX8_calmWaves 12 = .ok (.iconst 0, 1) := by decide +kernel
theorem dX8_calmWaves_13 : decode cX8_calmWaves 13 = .ok (.invokestatic 30, 3) := by decide +kernel
theorem dX8_calmWaves_16 : decode cX8_calmWaves 16 = .ok (.return_, 1) := by decide +kernel
theorem dX8_hasPiece_0 : decode cX8_hasPiece 0 = .ok (.iload_n 1, 1) := by decide +kernel
theorem dX8_hasPiece_1 : decode cX8_hasPiece 1 = .ok (.ifCond .lt 21, 3) := by decide +kernel
theorem dX8_hasPiece_4 : decode cX8_hasPiece 4 = .ok (.iload_n 1, 1) := by decide +kernel
theorem dX8_hasPiece_5 : decode cX8_hasPiece 5 = .ok (.aload_n 0, 1) := by decide +kernel
theorem dX8_hasPiece_6 : decode cX8_hasPiece 6 = .ok (.getfield 39, 3) := by decide +kernel
theorem dX8_hasPiece_9 : decode cX8_hasPiece 9 = .ok (.if_icmp .ge 13, 3) := by decide +kernel
theorem dX8_hasPiece_12 : decode cX8_hasPiece 12 = .ok (.iload_n 1, 1) := by decide +kernel
theorem dX8_hasPiece_13 : decode cX8_hasPiece 13 = .ok (.bipush 8, 2) := by decide +kernel
theorem dX8_hasPiece_15 : decode cX8_hasPiece 15 = .ok (.if_icmp .ge 7, 3) := by decide +kernel
theorem dX8_hasPiece_18 : decode cX8_hasPiece 18 = .ok (.iconst 1, 1) := by decide +kernel
theorem dX8_hasPiece_19 : decode cX8_hasPiece 19 = .ok (.goto 4, 3) := by decide +kernel
theorem dX8_hasPiece_22 : decode cX8_hasPiece 22 = .ok (.iconst 0, 1) := by decide +kernel
theorem dX8_hasPiece_23 : decode cX8_hasPiece 23 = .ok (.ireturn, 1) := by decide +kernel
theorem dX8_hasPlace_0 : decode cX8_hasPlace 0 = .ok (.iload_n 1, 1) := by decide +kernel
theorem dX8_hasPlace_1 : decode cX8_hasPlace 1 = .ok (.iconst 1, 1) := by decide +kernel
theorem dX8_hasPlace_2 : decode cX8_hasPlace 2 = .ok (.if_icmp .lt 21, 3) := by decide +kernel
theorem dX8_hasPlace_5 : decode cX8_hasPlace 5 = .ok (.iload_n 1, 1) := by decide +kernel
theorem dX8_hasPlace_6 : decode cX8_hasPlace 6 = .ok (.aload_n 0, 1) := by decide +kernel
theorem dX8_hasPlace_7 : decode cX8_hasPlace 7 = .ok (.getfield 43, 3) := by decide +kernel
theorem dX8_hasPlace_10 : decode cX8_hasPlace 10 = .ok (.if_icmp .ge 13, 3) := by decide +kernel
theorem dX8_hasPlace_13 : decode cX8_hasPlace 13 = .ok (.iload_n 1, 1) := by decide +kernel
theorem dX8_hasPlace_14 : decode cX8_hasPlace 14 = .ok (.bipush 72, 2) := by decide +kernel
theorem dX8_hasPlace_16 : decode cX8_hasPlace 16 = .ok (.if_icmp .ge 7, 3) := by decide +kernel
theorem dX8_hasPlace_19 : decode cX8_hasPlace 19 = .ok (.iconst 1, 1) := by decide +kernel
theorem dX8_hasPlace_20 : decode cX8_hasPlace 20 = .ok (.goto 4, 3) := by decide +kernel
theorem dX8_hasPlace_23 : decode cX8_hasPlace 23 = .ok (.iconst 0, 1) := by decide +kernel
theorem dX8_hasPlace_24 : decode cX8_hasPlace 24 = .ok (.ireturn, 1) := by decide +kernel
set_option maxRecDepth 20000 in
theorem dX8_addPiece_0 : decode cX8_addPiece 0 = .ok (.aload_n 0, 1) := by decide +kernel
theorem dX8_addPiece_1 : decode cX8_addPiece 1 = .ok (.getfield 39, 3) := by decide +kernel
theorem dX8_addPiece_4 : decode cX8_addPiece 4 = .ok (.bipush 8, 2) := by decide +kernel
theorem dX8_addPiece_6 : decode cX8_addPiece 6 = .ok (.if_icmp .ge 18, 3) := by decide +kernel
theorem dX8_addPiece_9 : decode cX8_addPiece 9 = .ok (.iload_n 2, 1) := by decide +kernel
theorem dX8_addPiece_10 : decode cX8_addPiece 10 = .ok (.ifCond .lt 14, 3) := by decide +kernel
theorem dX8_addPiece_13 : decode cX8_addPiece 13 = .ok (.iload_n 2, 1) := by decide +kernel
theorem dX8_addPiece_14 : decode cX8_addPiece 14 = .ok (.bipush 72, 2) := by decide +kernel
theorem dX8_addPiece_16 : decode cX8_addPiece 16 = .ok (.aload_n 0, 1) := by decide +kernel
theorem dX8_addPiece_17 : decode cX8_addPiece 17 = .ok (.getfield 43, 3) := by decide +kernel
theorem dX8_addPiece_20 : decode cX8_addPiece 20 = .ok (.isub, 1) := by decide +kernel
theorem dX8_addPiece_21 : decode cX8_addPiece 21 = .ok (.if_icmp .le 4, 3) := by decide +kernel
theorem dX8_addPiece_24 : decode cX8_addPiece 24 = .ok (.return_, 1) := by decide +kernel
theorem dX8_addPiece_25 : decode cX8_addPiece 25 = .ok (.aload_n 0, 1) := by decide +kernel
theorem dX8_addPiece_26 : decode cX8_addPiece 26 = .ok (.getfield 15, 3) := by decide +kernel
theorem dX8_addPiece_29 : decode cX8_addPiece 29 = .ok (.aload_n 0, 1) := by decide +kernel
theorem dX8_addPiece_30 : decode cX8_addPiece 30 = .ok (.getfield 39, 3) := by decide +kernel
theorem dX8_addPiece_33 : decode cX8_addPiece 33 = .ok (.iload_n 2, 1) := by decide +kernel
theorem dX8_addPiece_34 : decode cX8_addPiece 34 = .ok (.iastore, 1) := by decide +kernel
theorem dX8_addPiece_35 : decode cX8_addPiece 35 = .ok (.aload_n 0, 1) := by decide +kernel
theorem dX8_addPiece_36 : decode cX8_addPiece 36 = .ok (.dup, 1) := by decide +kernel
theorem dX8_addPiece_37 : decode cX8_addPiece 37 = .ok (.getfield 39, 3) := by decide +kernel
theorem dX8_addPiece_40 : decode cX8_addPiece 40 = .ok (.iconst 1, 1) := by decide +kernel
theorem dX8_addPiece_41 : decode cX8_addPiece 41 = .ok (.iadd, 1) := by decide +kernel
theorem dX8_addPiece_42 : decode cX8_addPiece 42 = .ok (.putfield 39, 3) := by decide +kernel
theorem dX8_addPiece_45 : decode cX8_addPiece 45 = .ok (.aload_n 0, 1) := by decide +kernel
theorem dX8_addPiece_46 : decode cX8_addPiece 46 = .ok (.dup, 1) := by decide +kernel
theorem dX8_addPiece_47 : decode cX8_addPiece 47 = .ok (.getfield 43, 3) := by decide +kernel
theorem dX8_addPiece_50 : decode cX8_addPiece 50 = .ok (.iload_n 2, 1) := by decide +kernel
theorem dX8_addPiece_51 : decode cX8_addPiece 51 = .ok (.iadd, 1) := by decide +kernel
theorem dX8_addPiece_52 : decode cX8_addPiece 52 = .ok (.putfield 43, 3) := by decide +kernel
theorem dX8_addPiece_55 : decode cX8_addPiece 55 = .ok (.aload_n 0, 1) := by decide +kernel
theorem dX8_addPiece_56 : decode cX8_addPiece 56 = .ok (.aload_n 0, 1) := by decide +kernel
theorem dX8_addPiece_57 : decode cX8_addPiece 57 = .ok (.getfield 39, 3) := by decide +kernel
theorem dX8_addPiece_60 : decode cX8_addPiece 60 = .ok (.iconst 1, 1) := by decide +kernel
theorem dX8_addPiece_61 : decode cX8_addPiece 61 = .ok (.isub, 1) := by decide +kernel
theorem dX8_addPiece_62 : decode cX8_addPiece 62 = .ok (.iload_n 1, 1) := by decide +kernel
theorem dX8_addPiece_63 : decode cX8_addPiece 63 = .ok (.invokevirtual 68, 3) := by decide +kernel
theorem dX8_addPiece_66 : decode cX8_addPiece 66 = .ok (.return_, 1) := by decide +kernel
theorem dX8_firstCellOf_0 : decode cX8_firstCellOf 0 = .ok (.iconst 0, 1) := by decide +kernel
theorem dX8_firstCellOf_1 : decode cX8_firstCellOf 1 = .ok (.istore_n 2, 1) := by decide +kernel
theorem dX8_firstCellOf_2 : decode cX8_firstCellOf 2 = .ok (.iconst 0, 1) := by decide +kernel
theorem dX8_firstCellOf_3 : decode cX8_firstCellOf 3 = .ok (.istore_n 3, 1) := by decide +kernel
theorem dX8_firstCellOf_4 : decode cX8_firstCellOf 4 = .ok (.iload_n 3, 1) := by decide +kernel
theorem dX8_firstCellOf_5 : decode cX8_firstCellOf 5 = .ok (.iload_n 1, 1) := by decide +kernel
theorem dX8_firstCellOf_6 : decode cX8_firstCellOf 6 = .ok (.if_icmp .ge 24, 3) := by decide +kernel
theorem dX8_firstCellOf_9 : decode cX8_firstCellOf 9 = .ok (.iload_n 3, 1) := by decide +kernel
theorem dX8_firstCellOf_10 : decode cX8_firstCellOf 10 = .ok (.bipush 8, 2) := by decide +kernel
theorem dX8_firstCellOf_12 : decode cX8_firstCellOf 12 = .ok (.if_icmp .ge 18, 3) := by decide +kernel
theorem dX8_firstCellOf_15 : decode cX8_firstCellOf 15 = .ok (.iload_n 2, 1) := by decide +kernel
theorem dX8_firstCellOf_16 : decode cX8_firstCellOf 16 = .ok (.aload_n 0, 1) := by decide +kernel
theorem dX8_firstCellOf_17 : decode cX8_firstCellOf 17 = .ok (.getfield 15, 3) := by decide +kernel
theorem dX8_firstCellOf_20 : decode cX8_firstCellOf 20 = .ok (.iload_n 3, 1) := by decide +kernel
theorem dX8_firstCellOf_21 : decode cX8_firstCellOf 21 = .ok (.iaload, 1) := by decide +kernel
theorem dX8_firstCellOf_22 : decode cX8_firstCellOf 22 = .ok (.iadd, 1) := by decide +kernel
theorem dX8_firstCellOf_23 : decode cX8_firstCellOf 23 = .ok (.istore_n 2, 1) := by decide +kernel
theorem dX8_firstCellOf_24 : decode cX8_firstCellOf 24 = .ok (.iinc 3 1, 3) := by decide +kernel
theorem dX8_firstCellOf_27 : decode cX8_firstCellOf 27 = .ok (.goto (-23), 3) := by decide +kernel
theorem dX8_firstCellOf_30 : decode cX8_firstCellOf 30 = .ok (.iload_n 2, 1) := by decide +kernel
theorem dX8_firstCellOf_31 : decode cX8_firstCellOf 31 = .ok (.ireturn, 1) := by decide +kernel
set_option maxRecDepth 20000 in
theorem dX8_changePiece_0 : decode cX8_changePiece 0 = .ok (.aload_n 0, 1) := by decide +kernel
theorem dX8_changePiece_1 : decode cX8_changePiece 1 = .ok (.iload_n 1, 1) := by decide +kernel
theorem dX8_changePiece_2 : decode cX8_changePiece 2 = .ok (.invokevirtual 72, 3) := by decide +kernel
theorem dX8_changePiece_5 : decode cX8_changePiece 5 = .ok (.ifCond .ne 4, 3) := by decide +kernel
theorem dX8_changePiece_8 : decode cX8_changePiece 8 = .ok (.return_, 1) := by decide +kernel
theorem dX8_changePiece_9 : decode cX8_changePiece 9 = .ok (.aload_n 0, 1) := by decide +kernel
theorem dX8_changePiece_10 : decode cX8_changePiece 10 = .ok (.getfield 9, 3) := by decide +kernel
theorem dX8_changePiece_13 : decode cX8_changePiece 13 = .ok (.iload_n 1, 1) := by decide +kernel
theorem dX8_changePiece_14 : decode cX8_changePiece 14 = .ok (.iload_n 2, 1) := by decide +kernel
theorem dX8_changePiece_15 : decode cX8_changePiece 15 = .ok (.iastore, 1) := by decide +kernel
theorem dX8_changePiece_16 : decode cX8_changePiece 16 = .ok (.aload_n 0, 1) := by decide +kernel
theorem dX8_changePiece_17 : decode cX8_changePiece 17 = .ok (.iload_n 1, 1) := by decide +kernel
theorem dX8_changePiece_18 : decode cX8_changePiece 18 = .ok (.invokevirtual 76, 3) := by decide +kernel
theorem dX8_changePiece_21 : decode cX8_changePiece 21 = .ok (.istore_n 3, 1) := by decide +kernel
theorem dX8_changePiece_22 : decode cX8_changePiece 22 = .ok (.iload_n 3, 1) := by decide +kernel
theorem dX8_changePiece_23 : decode cX8_changePiece 23 = .ok (.istore 4, 2) := by decide +kernel
theorem dX8_changePiece_25 : decode cX8_changePiece 25 = .ok (.iload 4, 2) := by decide +kernel
theorem dX8_changePiece_27 : decode cX8_changePiece 27 = .ok (.iload_n 3, 1) := by decide +kernel
theorem dX8_changePiece_28 : decode cX8_changePiece 28 = .ok (.aload_n 0, 1) := by decide +kernel
theorem dX8_changePiece_29 : decode cX8_changePiece 29 = .ok (.getfield 15, 3) := by decide +kernel
theorem dX8_changePiece_32 : decode cX8_changePiece 32 = .ok (.iload_n 1, 1) := by decide +kernel
theorem dX8_changePiece_33 : decode cX8_changePiece 33 = .ok (.iaload, 1) := by decide +kernel
theorem dX8_changePiece_34 : decode cX8_changePiece 34 = .ok (.iadd, 1) := by decide +kernel
theorem dX8_changePiece_35 : decode cX8_changePiece 35 = .ok (.if_icmp .ge 24, 3) := by decide +kernel
theorem dX8_changePiece_38 : decode cX8_changePiece 38 = .ok (.iload 4, 2) := by decide +kernel
theorem dX8_changePiece_40 : decode cX8_changePiece 40 = .ok (.bipush 72, 2) := by decide +kernel
theorem dX8_changePiece_42 : decode cX8_changePiece 42 = .ok (.if_icmp .ge 17, 3) := by decide +kernel
theorem dX8_changePiece_45 : decode cX8_changePiece 45 = .ok (.aload_n 0, 1) := by decide +kernel
theorem dX8_changePiece_46 : decode cX8_changePiece 46 = .ok (.getfield 18, 3) := by decide +kernel
theorem dX8_changePiece_49 : decode cX8_changePiece 49 = .ok (.iload 4, 2) := by decide +kernel
theorem dX8_changePiece_51 : decode cX8_changePiece 51 = .ok (.iload_n 2, 1) := by decide +kernel
theorem dX8_changePiece_52 : decode cX8_changePiece 52 = .ok (.iastore, 1) := by decide +kernel
theorem dX8_changePiece_53 : decode cX8_changePiece 53 = .ok (.iinc 4 1, 3) := by decide +kernel
theorem dX8_changePiece_56 : decode cX8_changePiece 56 = .ok (.goto (-31), 3) := by decide +kernel
theorem dX8_changePiece_59 : decode cX8_changePiece 59 = .ok (.return_, 1) := by decide +kernel
theorem dX8_changeEnd_0 : decode cX8_changeEnd 0 = .ok (.aload_n 0, 1) := by decide +kernel
theorem dX8_changeEnd_1 : decode cX8_changeEnd 1 = .ok (.iload_n 1, 1) := by decide +kernel
theorem dX8_changeEnd_2 : decode cX8_changeEnd 2 = .ok (.putfield 52, 3) := by decide +kernel
theorem dX8_changeEnd_5 : decode cX8_changeEnd 5 = .ok (.aload_n 0, 1) := by decide +kernel
theorem dX8_changeEnd_6 : decode cX8_changeEnd 6 = .ok (.iload_n 1, 1) := by decide +kernel
theorem dX8_changeEnd_7 : decode cX8_changeEnd 7 = .ok (.iconst 2, 1) := by decide +kernel
theorem dX8_changeEnd_8 : decode cX8_changeEnd 8 = .ok (.if_icmp .ne 7, 3) := by decide +kernel
theorem dX8_changeEnd_11 : decode cX8_changeEnd 11 = .ok (.iload_n 2, 1) := by decide +kernel
theorem dX8_changeEnd_12 : decode cX8_changeEnd 12 = .ok (.goto 4, 3) := by decide +kernel
theorem dX8_changeEnd_15 : decode cX8_changeEnd 15 = .ok (.iconst 0, 1) := by decide +kernel
theorem dX8_changeEnd_16 : decode cX8_changeEnd 16 = .ok (.putfield 55, 3) := by decide +kernel
theorem dX8_changeEnd_19 : decode cX8_changeEnd 19 = .ok (.return_, 1) := by decide +kernel
theorem dX8_sourceVolts_0 : decode cX8_sourceVolts 0 = .ok (.aload_n 0, 1) := by decide +kernel
theorem dX8_sourceVolts_1 : decode cX8_sourceVolts 1 = .ok (.getfield 58, 3) := by decide +kernel
theorem dX8_sourceVolts_4 : decode cX8_sourceVolts 4 = .ok (.ifCond .eq 14, 3) := by decide +kernel
theorem dX8_sourceVolts_7 : decode cX8_sourceVolts 7 = .ok (.aload_n 0, 1) := by decide +kernel
theorem dX8_sourceVolts_8 : decode cX8_sourceVolts 8 = .ok (.getfield 49, 3) := by decide +kernel
theorem dX8_sourceVolts_11 : decode cX8_sourceVolts 11 = .ok (.sipush 1000, 3) := by decide +kernel
theorem dX8_sourceVolts_14 : decode cX8_sourceVolts 14 = .ok (.imul, 1) := by decide +kernel
theorem dX8_sourceVolts_15 : decode cX8_sourceVolts 15 = .ok (.goto 4, 3) := by decide +kernel
theorem dX8_sourceVolts_18 : decode cX8_sourceVolts 18 = .ok (.iconst 0, 1) := by decide +kernel
theorem dX8_sourceVolts_19 : decode cX8_sourceVolts 19 = .ok (.ireturn, 1) := by decide +kernel
theorem dX8_voltsAt_0 : decode cX8_voltsAt 0 = .ok (.iload_n 1, 1) := by decide +kernel
theorem dX8_voltsAt_1 : decode cX8_voltsAt 1 = .ok (.ifCond .lt 33, 3) := by decide +kernel
theorem dX8_voltsAt_4 : decode cX8_voltsAt 4 = .ok (.iload_n 1, 1) := by decide +kernel
theorem dX8_voltsAt_5 : decode cX8_voltsAt 5 = .ok (.aload_n 0, 1) := by decide +kernel
theorem dX8_voltsAt_6 : decode cX8_voltsAt 6 = .ok (.getfield 43, 3) := by decide +kernel
theorem dX8_voltsAt_9 : decode cX8_voltsAt 9 = .ok (.if_icmp .ge 25, 3) := by decide +kernel
theorem dX8_voltsAt_12 : decode cX8_voltsAt 12 = .ok (.iload_n 1, 1) := by decide +kernel
theorem dX8_voltsAt_13 : decode cX8_voltsAt 13 = .ok (.bipush 72, 2) := by decide +kernel
theorem dX8_voltsAt_15 : decode cX8_voltsAt 15 = .ok (.if_icmp .ge 19, 3) := by decide +kernel
theorem dX8_voltsAt_18 : decode cX8_voltsAt 18 = .ok (.aload_n 0, 1) := by decide +kernel
theorem dX8_voltsAt_19 : decode cX8_voltsAt 19 = .ok (.getfield 21, 3) := by decide +kernel
theorem dX8_voltsAt_22 : decode cX8_voltsAt 22 = .ok (.iload_n 1, 1) := by decide +kernel
theorem dX8_voltsAt_23 : decode cX8_voltsAt 23 = .ok (.iaload, 1) := by decide +kernel
theorem dX8_voltsAt_24 : decode cX8_voltsAt 24 = .ok (.aload_n 0, 1) := by decide +kernel
theorem dX8_voltsAt_25 : decode cX8_voltsAt 25 = .ok (.getfield 24, 3) := by decide +kernel
theorem dX8_voltsAt_28 : decode cX8_voltsAt 28 = .ok (.iload_n 1, 1) := by decide +kernel
theorem dX8_voltsAt_29 : decode cX8_voltsAt 29 = .ok (.iaload, 1) := by decide +kernel
theorem dX8_voltsAt_30 : decode cX8_voltsAt 30 = .ok (.iadd, 1) := by decide +kernel
theorem dX8_voltsAt_31 : decode cX8_voltsAt 31 = .ok (.goto 4, 3) := by decide +kernel
theorem dX8_voltsAt_34 : decode cX8_voltsAt 34 = .ok (.iconst 0, 1) := by decide +kernel
theorem dX8_voltsAt_35 : decode cX8_voltsAt 35 = .ok (.ireturn, 1) := by decide +kernel
set_option maxRecDepth 20000 in
theorem dX8_step_0 : decode cX8_step 0 = .ok (.aload_n 0, 1) := by decide +kernel
theorem dX8_step_1 : decode cX8_step 1 = .ok (.getfield 43, 3) := by decide +kernel
theorem dX8_step_4 : decode cX8_step 4 = .ok (.iconst 1, 1) := by decide +kernel
theorem dX8_step_5 : decode cX8_step 5 = .ok (.if_icmp .lt 12, 3) := by decide +kernel
theorem dX8_step_8 : decode cX8_step 8 = .ok (.aload_n 0, 1) := by decide +kernel
theorem dX8_step_9 : decode cX8_step 9 = .ok (.getfield 43, 3) := by decide +kernel
theorem dX8_step_12 : decode cX8_step 12 = .ok (.bipush 72, 2) := by decide +kernel
theorem dX8_step_14 : decode cX8_step 14 = .ok (.if_icmp .le 4, 3) := by decide +kernel
theorem dX8_step_17 : decode cX8_step 17 = .ok (.return_, 1) := by decide +kernel
theorem dX8_step_18 : decode cX8_step 18 = .ok (.aload_n 0, 1) := by decide +kernel
theorem dX8_step_19 : decode cX8_step 19 = .ok (.getfield 18, 3) := by decide +kernel
theorem dX8_step_22 : decode cX8_step 22 = .ok (.iconst 0, 1) := by decide +kernel
theorem dX8_step_23 : decode cX8_step 23 = .ok (.iaload, 1) := by decide +kernel
theorem dX8_step_24 : decode cX8_step 24 = .ok (.istore_n 1, 1) := by decide +kernel
theorem dX8_step_25 : decode cX8_step 25 = .ok (.aload_n 0, 1) := by decide +kernel
theorem dX8_step_26 : decode cX8_step 26 = .ok (.getfield 21, 3) := by decide +kernel
theorem dX8_step_29 : decode cX8_step 29 = .ok (.iconst 0, 1) := by decide +kernel
theorem dX8_step_30 : decode cX8_step 30 = .ok (.iaload, 1) := by decide +kernel
theorem dX8_step_31 : decode cX8_step 31 = .ok (.istore_n 2, 1) := by decide +kernel
theorem dX8_step_32 : decode cX8_step 32 = .ok (.aload_n 0, 1) := by decide +kernel
theorem dX8_step_33 : decode cX8_step 33 = .ok (.getfield 21, 3) := by decide +kernel
theorem dX8_step_36 : decode cX8_step 36 = .ok (.iconst 0, 1) := by decide +kernel
theorem dX8_step_37 : decode cX8_step 37 = .ok (.iload_n 1, 1) := by decide +kernel
theorem dX8_step_38 : decode cX8_step 38 = .ok (.aload_n 0, 1) := by decide +kernel
theorem dX8_step_39 : decode cX8_step 39 = .ok (.invokevirtual 80, 3) := by decide +kernel
theorem dX8_step_42 : decode cX8_step 42 = .ok (.imul, 1) := by decide +kernel
theorem dX8_step_43 : decode cX8_step 43 = .ok (.aload_n 0, 1) := by decide +kernel
theorem dX8_step_44 : decode cX8_step 44 = .ok (.getfield 46, 3) := by decide +kernel
theorem dX8_step_47 : decode cX8_step 47 = .ok (.iload_n 1, 1) := by decide +kernel
theorem dX8_step_48 : decode cX8_step 48 = .ok (.isub, 1) := by decide +kernel
theorem dX8_step_49 : decode cX8_step 49 = .ok (.aload_n 0, 1) := by decide +kernel
theorem dX8_step_50 : decode cX8_step 50 = .ok (.getfield 24, 3) := by decide +kernel
theorem dX8_step_53 : decode cX8_step 53 = .ok (.iconst 0, 1) := by decide +kernel
theorem dX8_step_54 : decode cX8_step 54 = .ok (.iaload, 1) := by decide +kernel
theorem dX8_step_55 : decode cX8_step 55 = .ok (.imul, 1) := by decide +kernel
theorem dX8_step_56 : decode cX8_step 56 = .ok (.iadd, 1) := by decide +kernel
theorem dX8_step_57 : decode cX8_step 57 = .ok (.aload_n 0, 1) := by decide +kernel
theorem dX8_step_58 : decode cX8_step 58 = .ok (.getfield 46, 3) := by decide +kernel
theorem dX8_step_61 : decode cX8_step 61 = .ok (.iload_n 1, 1) := by decide +kernel
theorem dX8_step_62 : decode cX8_step 62 = .ok (.iadd, 1) := by decide +kernel
theorem dX8_step_63 : decode cX8_step 63 = .ok (.invokestatic 84, 3) := by decide +kernel
theorem dX8_step_66 : decode cX8_step 66 = .ok (.iastore, 1) := by decide +kernel
theorem dX8_step_67 : decode cX8_step 67 = .ok (.iconst 1, 1) := by decide +kernel
theorem dX8_step_68 : decode cX8_step 68 = .ok (.istore_n 3, 1) := by decide +kernel
theorem dX8_step_69 : decode cX8_step 69 = .ok (.iload_n 3, 1) := by decide +kernel
theorem dX8_step_70 : decode cX8_step 70 = .ok (.aload_n 0, 1) := by decide +kernel
theorem dX8_step_71 : decode cX8_step 71 = .ok (.getfield 43, 3) := by decide +kernel
theorem dX8_step_74 : decode cX8_step 74 = .ok (.if_icmp .ge 83, 3) := by decide +kernel
theorem dX8_step_77 : decode cX8_step 77 = .ok (.iload_n 2, 1) := by decide +kernel
theorem dX8_step_78 : decode cX8_step 78 = .ok (.istore 4, 2) := by decide +kernel
theorem dX8_step_80 : decode cX8_step 80 = .ok (.aload_n 0, 1) := by decide +kernel
theorem dX8_step_81 : decode cX8_step 81 = .ok (.getfield 24, 3) := by decide +kernel
theorem dX8_step_84 : decode cX8_step 84 = .ok (.iload_n 3, 1) := by decide +kernel
theorem dX8_step_85 : decode cX8_step 85 = .ok (.iaload, 1) := by decide +kernel
theorem dX8_step_86 : decode cX8_step 86 = .ok (.istore 5, 2) := by decide +kernel
theorem dX8_step_88 : decode cX8_step 88 = .ok (.aload_n 0, 1) := by decide +kernel
theorem dX8_step_89 : decode cX8_step 89 = .ok (.getfield 21, 3) := by decide +kernel
theorem dX8_step_92 : decode cX8_step 92 = .ok (.iload_n 3, 1) := by decide +kernel
theorem dX8_step_93 : decode cX8_step 93 = .ok (.iaload, 1) := by decide +kernel
theorem dX8_step_94 : decode cX8_step 94 = .ok (.istore_n 2, 1) := by decide +kernel
theorem dX8_step_95 : decode cX8_step 95 = .ok (.aload_n 0, 1) := by decide +kernel
theorem dX8_step_96 : decode cX8_step 96 = .ok (.getfield 27, 3) := by decide +kernel
theorem dX8_step_99 : decode cX8_step 99 = .ok (.iload_n 3, 1) := by decide +kernel
theorem dX8_step_100 : decode cX8_step 100 = .ok (.iaload, 1) := by decide +kernel
theorem dX8_step_101 : decode cX8_step 101 = .ok (.ifCond .ne 41, 3) := by decide +kernel
theorem dX8_step_104 : decode cX8_step 104 = .ok (.aload_n 0, 1) := by decide +kernel
theorem dX8_step_105 : decode cX8_step 105 = .ok (.getfield 18, 3) := by decide +kernel
theorem dX8_step_108 : decode cX8_step 108 = .ok (.iload_n 3, 1) := by decide +kernel
theorem dX8_step_109 : decode cX8_step 109 = .ok (.iconst 1, 1) := by decide +kernel
theorem dX8_step_110 : decode cX8_step 110 = .ok (.isub, 1) := by decide +kernel
theorem dX8_step_111 : decode cX8_step 111 = .ok (.iaload, 1) := by decide +kernel
theorem dX8_step_112 : decode cX8_step 112 = .ok (.aload_n 0, 1) := by decide +kernel
theorem dX8_step_113 : decode cX8_step 113 = .ok (.getfield 18, 3) := by decide +kernel
theorem dX8_step_116 : decode cX8_step 116 = .ok (.iload_n 3, 1) := by decide +kernel
theorem dX8_step_117 : decode cX8_step 117 = .ok (.iaload, 1) := by decide +kernel
theorem dX8_step_118 : decode cX8_step 118 = .ok (.if_icmp .ne 24, 3) := by decide +kernel
theorem dX8_step_121 : decode cX8_step 121 = .ok (.aload_n 0, 1) := by decide +kernel
theorem dX8_step_122 : decode cX8_step 122 = .ok (.getfield 24, 3) := by decide +kernel
theorem dX8_step_125 : decode cX8_step 125 = .ok (.iload_n 3, 1) := by decide +kernel
theorem dX8_step_126 : decode cX8_step 126 = .ok (.iconst 1, 1) := by decide +kernel
theorem dX8_step_127 : decode cX8_step 127 = .ok (.isub, 1) := by decide +kernel
theorem dX8_step_128 : decode cX8_step 128 = .ok (.iload 5, 2) := by decide +kernel
theorem dX8_step_130 : decode cX8_step 130 = .ok (.iastore, 1) := by decide +kernel
theorem dX8_step_131 : decode cX8_step 131 = .ok (.aload_n 0, 1) := by decide +kernel
theorem dX8_step_132 : decode cX8_step 132 = .ok (.getfield 21, 3) := by decide +kernel
theorem dX8_step_135 : decode cX8_step 135 = .ok (.iload_n 3, 1) := by decide +kernel
theorem dX8_step_136 : decode cX8_step 136 = .ok (.iload 4, 2) := by decide +kernel
theorem dX8_step_138 : decode cX8_step 138 = .ok (.iastore, 1) := by decide +kernel
theorem dX8_step_139 : decode cX8_step 139 = .ok (.goto 12, 3) := by decide +kernel
theorem dX8_step_142 : decode cX8_step 142 = .ok (.aload_n 0, 1) := by decide +kernel
theorem dX8_step_143 : decode cX8_step 143 = .ok (.iload_n 3, 1) := by decide +kernel
theorem dX8_step_144 : decode cX8_step 144 = .ok (.iload 4, 2) := by decide +kernel
theorem dX8_step_146 : decode cX8_step 146 = .ok (.iload 5, 2) := by decide +kernel
theorem dX8_step_148 : decode cX8_step 148 = .ok (.invokevirtual 88, 3) := by decide +kernel
theorem dX8_step_151 : decode cX8_step 151 = .ok (.iinc 3 1, 3) := by decide +kernel
theorem dX8_step_154 : decode cX8_step 154 = .ok (.goto (-85), 3) := by decide +kernel
theorem dX8_step_157 : decode cX8_step 157 = .ok (.aload_n 0, 1) := by decide +kernel
theorem dX8_step_158 : decode cX8_step 158 = .ok (.getfield 24, 3) := by decide +kernel
theorem dX8_step_161 : decode cX8_step 161 = .ok (.aload_n 0, 1) := by decide +kernel
theorem dX8_step_162 : decode cX8_step 162 = .ok (.getfield 43, 3) := by decide +kernel
theorem dX8_step_165 : decode cX8_step 165 = .ok (.iconst 1, 1) := by decide +kernel
theorem dX8_step_166 : decode cX8_step 166 = .ok (.isub, 1) := by decide +kernel
theorem dX8_step_167 : decode cX8_step 167 = .ok (.aload_n 0, 1) := by decide +kernel
theorem dX8_step_168 : decode cX8_step 168 = .ok (.iload_n 2, 1) := by decide +kernel
theorem dX8_step_169 : decode cX8_step 169 = .ok (.invokevirtual 92, 3) := by decide +kernel
theorem dX8_step_172 : decode cX8_step 172 = .ok (.iastore, 1) := by decide +kernel
theorem dX8_step_173 : decode cX8_step 173 = .ok (.return_, 1) := by decide +kernel
set_option maxRecDepth 20000 in
theorem dX8_part_0 : decode cX8_part 0 = .ok (.aload_n 0, 1) := by decide +kernel
theorem dX8_part_1 : decode cX8_part 1 = .ok (.iload_n 1, 1) := by decide +kernel
theorem dX8_part_2 : decode cX8_part 2 = .ok (.invokevirtual 95, 3) := by decide +kernel
theorem dX8_part_5 : decode cX8_part 5 = .ok (.ifCond .ne 4, 3) := by decide +kernel
theorem dX8_part_8 : decode cX8_part 8 = .ok (.return_, 1) := by decide +kernel
theorem dX8_part_9 : decode cX8_part 9 = .ok (.aload_n 0, 1) := by decide +kernel
theorem dX8_part_10 : decode cX8_part 10 = .ok (.getfield 27, 3) := by decide +kernel
theorem dX8_part_13 : decode cX8_part 13 = .ok (.iload_n 1, 1) := by decide +kernel
theorem dX8_part_14 : decode cX8_part 14 = .ok (.iaload, 1) := by decide +kernel
theorem dX8_part_15 : decode cX8_part 15 = .ok (.iconst 1, 1) := by decide +kernel
theorem dX8_part_16 : decode cX8_part 16 = .ok (.if_icmp .ne 22, 3) := by decide +kernel
theorem dX8_part_19 : decode cX8_part 19 = .ok (.aload_n 0, 1) := by decide +kernel
theorem dX8_part_20 : decode cX8_part 20 = .ok (.getfield 24, 3) := by decide +kernel
theorem dX8_part_23 : decode cX8_part 23 = .ok (.iload_n 1, 1) := by decide +kernel
theorem dX8_part_24 : decode cX8_part 24 = .ok (.iconst 1, 1) := by decide +kernel
theorem dX8_part_25 : decode cX8_part 25 = .ok (.isub, 1) := by decide +kernel
theorem dX8_part_26 : decode cX8_part 26 = .ok (.iload_n 2, 1) := by decide +kernel
theorem dX8_part_27 : decode cX8_part 27 = .ok (.iastore, 1) := by decide +kernel
theorem dX8_part_28 : decode cX8_part 28 = .ok (.aload_n 0, 1) := by decide +kernel
theorem dX8_part_29 : decode cX8_part 29 = .ok (.getfield 21, 3) := by decide +kernel
theorem dX8_part_32 : decode cX8_part 32 = .ok (.iload_n 1, 1) := by decide +kernel
theorem dX8_part_33 : decode cX8_part 33 = .ok (.iload_n 3, 1) := by decide +kernel
theorem dX8_part_34 : decode cX8_part 34 = .ok (.iastore, 1) := by decide +kernel
theorem dX8_part_35 : decode cX8_part 35 = .ok (.goto 110, 3) := by decide +kernel
theorem dX8_part_38 : decode cX8_part 38 = .ok (.aload_n 0, 1) := by decide +kernel
theorem dX8_part_39 : decode cX8_part 39 = .ok (.getfield 27, 3) := by decide +kernel
theorem dX8_part_42 : decode cX8_part 42 = .ok (.iload_n 1, 1) := by decide +kernel
theorem dX8_part_43 : decode cX8_part 43 = .ok (.iaload, 1) := by decide +kernel
theorem dX8_part_44 : decode cX8_part 44 = .ok (.iconst 2, 1) := by decide +kernel
theorem dX8_part_45 : decode cX8_part 45 = .ok (.if_icmp .ne 24, 3) := by decide +kernel
theorem dX8_part_48 : decode cX8_part 48 = .ok (.aload_n 0, 1) := by decide +kernel
theorem dX8_part_49 : decode cX8_part 49 = .ok (.getfield 24, 3) := by decide +kernel
theorem dX8_part_52 : decode cX8_part 52 = .ok (.iload_n 1, 1) := by decide +kernel
theorem dX8_part_53 : decode cX8_part 53 = .ok (.iconst 1, 1) := by decide +kernel
theorem dX8_part_54 : decode cX8_part 54 = .ok (.isub, 1) := by decide +kernel
theorem dX8_part_55 : decode cX8_part 55 = .ok (.iload_n 2, 1) := by decide +kernel
theorem dX8_part_56 : decode cX8_part 56 = .ok (.ineg, 1) := by decide +kernel
theorem dX8_part_57 : decode cX8_part 57 = .ok (.iastore, 1) := by decide +kernel
theorem dX8_part_58 : decode cX8_part 58 = .ok (.aload_n 0, 1) := by decide +kernel
theorem dX8_part_59 : decode cX8_part 59 = .ok (.getfield 21, 3) := by decide +kernel
theorem dX8_part_62 : decode cX8_part 62 = .ok (.iload_n 1, 1) := by decide +kernel
theorem dX8_part_63 : decode cX8_part 63 = .ok (.iload_n 3, 1) := by decide +kernel
theorem dX8_part_64 : decode cX8_part 64 = .ok (.ineg, 1) := by decide +kernel
theorem dX8_part_65 : decode cX8_part 65 = .ok (.iastore, 1) := by decide +kernel
theorem dX8_part_66 : decode cX8_part 66 = .ok (.goto 79, 3) := by decide +kernel
theorem dX8_part_69 : decode cX8_part 69 = .ok (.aload_n 0, 1) := by decide +kernel
theorem dX8_part_70 : decode cX8_part 70 = .ok (.getfield 18, 3) := by decide +kernel
theorem dX8_part_73 : decode cX8_part 73 = .ok (.iload_n 1, 1) := by decide +kernel
theorem dX8_part_74 : decode cX8_part 74 = .ok (.iconst 1, 1) := by decide +kernel
theorem dX8_part_75 : decode cX8_part 75 = .ok (.isub, 1) := by decide +kernel
theorem dX8_part_76 : decode cX8_part 76 = .ok (.iaload, 1) := by decide +kernel
theorem dX8_part_77 : decode cX8_part 77 = .ok (.istore 4, 2) := by decide +kernel
theorem dX8_part_79 : decode cX8_part 79 = .ok (.aload_n 0, 1) := by decide +kernel
theorem dX8_part_80 : decode cX8_part 80 = .ok (.getfield 18, 3) := by decide +kernel
theorem dX8_part_83 : decode cX8_part 83 = .ok (.iload_n 1, 1) := by decide +kernel
theorem dX8_part_84 : decode cX8_part 84 = .ok (.iaload, 1) := by decide +kernel
theorem dX8_part_85 : decode cX8_part 85 = .ok (.istore 5, 2) := by decide +kernel
theorem dX8_part_87 : decode cX8_part 87 = .ok (.aload_n 0, 1) := by decide +kernel
theorem dX8_part_88 : decode cX8_part 88 = .ok (.getfield 24, 3) := by decide +kernel
theorem dX8_part_91 : decode cX8_part 91 = .ok (.iload_n 1, 1) := by decide +kernel
theorem dX8_part_92 : decode cX8_part 92 = .ok (.iconst 1, 1) := by decide +kernel
theorem dX8_part_93 : decode cX8_part 93 = .ok (.isub, 1) := by decide +kernel
theorem dX8_part_94 : decode cX8_part 94 = .ok (.iload_n 2, 1) := by decide +kernel
theorem dX8_part_95 : decode cX8_part 95 = .ok (.iload 5, 2) := by decide +kernel
theorem dX8_part_97 : decode cX8_part 97 = .ok (.iload 4, 2) := by decide +kernel
theorem dX8_part_99 : decode cX8_part 99 = .ok (.isub, 1) := by decide +kernel
theorem dX8_part_100 : decode cX8_part 100 = .ok (.imul, 1) := by decide +kernel
theorem dX8_part_101 : decode cX8_part 101 = .ok (.iconst 2, 1) := by decide +kernel
theorem dX8_part_102 : decode cX8_part 102 = .ok (.iload 4, 2) := by decide +kernel
theorem dX8_part_104 : decode cX8_part 104 = .ok (.imul, 1) := by decide +kernel
theorem dX8_part_105 : decode cX8_part 105 = .ok (.iload_n 3, 1) := by decide +kernel
theorem dX8_part_106 : decode cX8_part 106 = .ok (.imul, 1) := by decide +kernel
theorem dX8_part_107 : decode cX8_part 107 = .ok (.iadd, 1) := by decide +kernel
theorem dX8_part_108 : decode cX8_part 108 = .ok (.iload 4, 2) := by decide +kernel
theorem dX8_part_110 : decode cX8_part 110 = .ok (.iload 5, 2) := by decide +kernel
theorem dX8_part_112 : decode cX8_part 112 = .ok (.iadd, 1) := by decide +kernel
theorem dX8_part_113 : decode cX8_part 113 = .ok (.invokestatic 84, 3) := by decide +kernel
theorem dX8_part_116 : decode cX8_part 116 = .ok (.iastore, 1) := by decide +kernel
theorem dX8_part_117 : decode cX8_part 117 = .ok (.aload_n 0, 1) := by decide +kernel
theorem dX8_part_118 : decode cX8_part 118 = .ok (.getfield 21, 3) := by decide +kernel
theorem dX8_part_121 : decode cX8_part 121 = .ok (.iload_n 1, 1) := by decide +kernel
theorem dX8_part_122 : decode cX8_part 122 = .ok (.iconst 2, 1) := by decide +kernel
theorem dX8_part_123 : decode cX8_part 123 = .ok (.iload 5, 2) := by decide +kernel
theorem dX8_part_125 : decode cX8_part 125 = .ok (.imul, 1) := by decide +kernel
theorem dX8_part_126 : decode cX8_part 126 = .ok (.iload_n 2, 1) := by decide +kernel
theorem dX8_part_127 : decode cX8_part 127 = .ok (.imul, 1) := by decide +kernel
theorem dX8_part_128 : decode cX8_part 128 = .ok (.iload_n 3, 1) := by decide +kernel
theorem dX8_part_129 : decode cX8_part 129 = .ok (.iload 4, 2) := by decide +kernel
theorem dX8_part_131 : decode cX8_part 131 = .ok (.iload 5, 2) := by decide +kernel
theorem dX8_part_133 : decode cX8_part 133 = .ok (.isub, 1) := by decide +kernel
theorem dX8_part_134 : decode cX8_part 134 = .ok (.imul, 1) := by decide +kernel
theorem dX8_part_135 : decode cX8_part 135 = .ok (.iadd, 1) := by decide +kernel
theorem dX8_part_136 : decode cX8_part 136 = .ok (.iload 4, 2) := by decide +kernel
theorem dX8_part_138 : decode cX8_part 138 = .ok (.iload 5, 2) := by decide +kernel
theorem dX8_part_140 : decode cX8_part 140 = .ok (.iadd, 1) := by decide +kernel
theorem dX8_part_141 : decode cX8_part 141 = .ok (.invokestatic 84, 3) := by decide +kernel
theorem dX8_part_144 : decode cX8_part 144 = .ok (.iastore, 1) := by decide +kernel
theorem dX8_part_145 : decode cX8_part 145 = .ok (.return_, 1) := by decide +kernel
set_option maxRecDepth 20000 in
theorem dX8_thrownBack_0 : decode cX8_thrownBack 0 = .ok (.aload_n 0, 1) := by decide +kernel
theorem dX8_thrownBack_1 : decode cX8_thrownBack 1 = .ok (.getfield 52, 3) := by decide +kernel
theorem dX8_thrownBack_4 : decode cX8_thrownBack 4 = .ok (.ifCond .ne 5, 3) := by decide +kernel
theorem dX8_thrownBack_7 : decode cX8_thrownBack 7 = .ok (.iload_n 1, 1) := by decide +kernel
theorem dX8_thrownBack_8 : decode cX8_thrownBack 8 = .ok (.ireturn, 1) := by decide +kernel
theorem dX8_thrownBack_9 : decode cX8_thrownBack 9 = .ok (.aload_n 0, 1) := by decide +kernel
theorem dX8_thrownBack_10 : decode cX8_thrownBack 10 = .ok (.getfield 52, 3) := by decide +kernel
theorem dX8_thrownBack_13 : decode cX8_thrownBack 13 = .ok (.iconst 1, 1) := by decide +kernel
theorem dX8_thrownBack_14 : decode cX8_thrownBack 14 = .ok (.if_icmp .ne 6, 3) := by decide +kernel
theorem dX8_thrownBack_17 : decode cX8_thrownBack 17 = .ok (.iload_n 1, 1) := by decide +kernel
theorem dX8_thrownBack_18 : decode cX8_thrownBack 18 = .ok (.ineg, 1) := by decide +kernel
theorem dX8_thrownBack_19 : decode cX8_thrownBack 19 = .ok (.ireturn, 1) := by decide +kernel
theorem dX8_thrownBack_20 : decode cX8_thrownBack 20 = .ok (.aload_n 0, 1) := by decide +kernel
theorem dX8_thrownBack_21 : decode cX8_thrownBack 21 = .ok (.getfield 43, 3) := by decide +kernel
theorem dX8_thrownBack_24 : decode cX8_thrownBack 24 = .ok (.iconst 1, 1) := by decide +kernel
theorem dX8_thrownBack_25 : decode cX8_thrownBack 25 = .ok (.if_icmp .lt 26, 3) := by decide +kernel
theorem dX8_thrownBack_28 : decode cX8_thrownBack 28 = .ok (.aload_n 0, 1) := by decide +kernel
theorem dX8_thrownBack_29 : decode cX8_thrownBack 29 = .ok (.getfield 43, 3) := by decide +kernel
theorem dX8_thrownBack_32 : decode cX8_thrownBack 32 = .ok (.bipush 72, 2) := by decide +kernel
theorem dX8_thrownBack_34 : decode cX8_thrownBack 34 = .ok (.if_icmp .gt 17, 3) := by decide +kernel
theorem dX8_thrownBack_37 : decode cX8_thrownBack 37 = .ok (.aload_n 0, 1) := by decide +kernel
theorem dX8_thrownBack_38 : decode cX8_thrownBack 38 = .ok (.getfield 18, 3) := by decide +kernel
theorem dX8_thrownBack_41 : decode cX8_thrownBack 41 = .ok (.aload_n 0, 1) := by decide +kernel
theorem dX8_thrownBack_42 : decode cX8_thrownBack 42 = .ok (.getfield 43, 3) := by decide +kernel
theorem dX8_thrownBack_45 : decode cX8_thrownBack 45 = .ok (.iconst 1, 1) := by decide +kernel
theorem dX8_thrownBack_46 : decode cX8_thrownBack 46 = .ok (.isub, 1) := by decide +kernel
theorem dX8_thrownBack_47 : decode cX8_thrownBack 47 = .ok (.iaload, 1) := by decide +kernel
theorem dX8_thrownBack_48 : decode cX8_thrownBack 48 = .ok (.goto 4, 3) := by decide +kernel
theorem dX8_thrownBack_51 : decode cX8_thrownBack 51 = .ok (.iconst 0, 1) := by decide +kernel
theorem dX8_thrownBack_52 : decode cX8_thrownBack 52 = .ok (.istore_n 2, 1) := by decide +kernel
theorem dX8_thrownBack_53 : decode cX8_thrownBack 53 = .ok (.iload_n 1, 1) := by decide +kernel
theorem dX8_thrownBack_54 : decode cX8_thrownBack 54 = .ok (.aload_n 0, 1) := by decide +kernel
theorem dX8_thrownBack_55 : decode cX8_thrownBack 55 = .ok (.getfield 55, 3) := by decide +kernel
theorem dX8_thrownBack_58 : decode cX8_thrownBack 58 = .ok (.iload_n 2, 1) := by decide +kernel
theorem dX8_thrownBack_59 : decode cX8_thrownBack 59 = .ok (.isub, 1) := by decide +kernel
theorem dX8_thrownBack_60 : decode cX8_thrownBack 60 = .ok (.imul, 1) := by decide +kernel
theorem dX8_thrownBack_61 : decode cX8_thrownBack 61 = .ok (.aload_n 0, 1) := by decide +kernel
theorem dX8_thrownBack_62 : decode cX8_thrownBack 62 = .ok (.getfield 55, 3) := by decide +kernel
theorem dX8_thrownBack_65 : decode cX8_thrownBack 65 = .ok (.iload_n 2, 1) := by decide +kernel
theorem dX8_thrownBack_66 : decode cX8_thrownBack 66 = .ok (.iadd, 1) := by decide +kernel
theorem dX8_thrownBack_67 : decode cX8_thrownBack 67 = .ok (.invokestatic 84, 3) := by decide +kernel
theorem dX8_thrownBack_70 : decode cX8_thrownBack 70 = .ok (.ireturn, 1) := by decide +kernel
theorem dX8_shared_0 : decode cX8_shared 0 = .ok (.iload_n 1, 1) := by decide +kernel
theorem dX8_shared_1 : decode cX8_shared 1 = .ok (.iconst 1, 1) := by decide +kernel
theorem dX8_shared_2 : decode cX8_shared 2 = .ok (.if_icmp .ge 5, 3) := by decide +kernel
theorem dX8_shared_5 : decode cX8_shared 5 = .ok (.iconst 0, 1) := by decide +kernel
theorem dX8_shared_6 : decode cX8_shared 6 = .ok (.ireturn, 1) := by decide +kernel
theorem dX8_shared_7 : decode cX8_shared 7 = .ok (.ldc 98, 2) := by decide +kernel
theorem dX8_shared_9 : decode cX8_shared 9 = .ok (.ldc 99, 2) := by decide +kernel
theorem dX8_shared_11 : decode cX8_shared 11 = .ok (.iload_n 0, 1) := by decide +kernel
theorem dX8_shared_12 : decode cX8_shared 12 = .ok (.iload_n 1, 1) := by decide +kernel
theorem dX8_shared_13 : decode cX8_shared 13 = .ok (.idiv, 1) := by decide +kernel
theorem dX8_shared_14 : decode cX8_shared 14 = .ok (.invokestatic 100, 3) := by decide +kernel
theorem dX8_shared_17 : decode cX8_shared 17 = .ok (.invokestatic 105, 3) := by decide +kernel
theorem dX8_shared_20 : decode cX8_shared 20 = .ok (.ireturn, 1) := by decide +kernel
set_option maxRecDepth 20000 in
theorem dX9_init_0 : decode cX9_init 0 = .ok (.aload_n 0, 1) := by decide +kernel
theorem dX9_init_1 : decode cX9_init 1 = .ok (.invokespecial 3, 3) := by decide +kernel
theorem dX9_init_4 : decode cX9_init 4 = .ok (.aload_n 0, 1) := by decide +kernel
theorem dX9_init_5 : decode cX9_init 5 = .ok (.new 9, 3) := by decide +kernel
theorem dX9_init_8 : decode cX9_init 8 = .ok (.dup, 1) := by decide +kernel
theorem dX9_init_9 : decode cX9_init 9 = .ok (.invokespecial 11, 3) := by decide +kernel
theorem dX9_init_12 : decode cX9_init 12 = .ok (.putfield 12, 3) := by decide +kernel
theorem dX9_init_15 : decode cX9_init 15 = .ok (.aload_n 0, 1) := by decide +kernel
theorem dX9_init_16 : decode cX9_init 16 = .ok (.new 16, 3) := by decide +kernel
theorem dX9_init_19 : decode cX9_init 19 = .ok (.dup, 1) := by decide +kernel
theorem dX9_init_20 : decode cX9_init 20 = .ok (.invokespecial 18, 3) := by decide +kernel
theorem dX9_init_23 : decode cX9_init 23 = .ok (.putfield 19, 3) := by decide +kernel
theorem dX9_init_26 : decode cX9_init 26 = .ok (.aload_n 0, 1) := by decide +kernel
theorem dX9_init_27 : decode cX9_init 27 = .ok (.new 23, 3) := by decide +kernel
theorem dX9_init_30 : decode cX9_init 30 = .ok (.dup, 1) := by decide +kernel
theorem dX9_init_31 : decode cX9_init 31 = .ok (.invokespecial 25, 3) := by decide +kernel
theorem dX9_init_34 : decode cX9_init 34 = .ok (.putfield 26, 3) := by decide +kernel
theorem dX9_init_37 : decode cX9_init 37 = .ok (.aload_n 0, 1) := by decide +kernel
theorem dX9_init_38 : decode cX9_init 38 = .ok (.new 30, 3) := by decide +kernel
theorem dX9_init_41 : decode cX9_init 41 = .ok (.dup, 1) := by decide +kernel
theorem dX9_init_42 : decode cX9_init 42 = .ok (.invokespecial 32, 3) := by decide +kernel
theorem dX9_init_45 : decode cX9_init 45 = .ok (.putfield 33, 3) := by decide +kernel
theorem dX9_init_48 : decode cX9_init 48 = .ok (.aload_n 0, 1) := by decide +kernel
theorem dX9_init_49 : decode cX9_init 49 = .ok (.new 37, 3) := by decide +kernel
theorem dX9_init_52 : decode cX9_init 52 = .ok (.dup, 1) := by decide +kernel
theorem dX9_init_53 : decode cX9_init 53 = .ok (.invokespecial 39, 3) := by decide +kernel
theorem dX9_init_56 : decode cX9_init 56 = .ok (.putfield 40, 3) := by decide +kernel
theorem dX9_init_59 : decode cX9_init 59 = .ok (.aload_n 0, 1) := by decide +kernel
theorem dX9_init_60 : decode cX9_init 60 = .ok (.new 44, 3) := by decide +kernel
theorem dX9_init_63 : decode cX9_init 63 = .ok (.dup, 1) := by decide +kernel
theorem dX9_init_64 : decode cX9_init 64 = .ok (.invokespecial 46, 3) := by decide +kernel
theorem dX9_init_67 : decode cX9_init 67 = .ok (.putfield 47, 3) := by decide +kernel
theorem dX9_init_70 : decode cX9_init 70 = .ok (.aload_n 0, 1) := by decide +kernel
theorem dX9_init_71 : decode cX9_init 71 = .ok (.iconst 2, 1) := by decide +kernel
theorem dX9_init_72 : decode cX9_init 72 = .ok (.anewarray 51, 3) := by decide +kernel
theorem dX9_init_75 : decode cX9_init 75 = .ok (.putfield 53, 3) := by decide +kernel
theorem dX9_init_78 : decode cX9_init 78 = .ok (.aload_n 0, 1) := by decide +kernel
theorem dX9_init_79 : decode cX9_init 79 = .ok (.iconst (-1), 1) := by decide +kernel
theorem dX9_init_80 : decode cX9_init 80 = .ok (.putfield 57, 3) := by decide +kernel
theorem dX9_init_83 : decode cX9_init 83 = .ok (.aload_n 0, 1) := by decide +kernel
theorem dX9_init_84 : decode cX9_init 84 = .ok (.iconst 0, 1) := by decide +kernel
theorem dX9_init_85 : decode cX9_init 85 = .ok (.putfield 61, 3) := by decide +kernel
theorem dX9_init_88 : decode cX9_init 88 = .ok (.iconst 0, 1) := by decide +kernel
theorem dX9_init_89 : decode cX9_init 89 = .ok (.istore_n 1, 1) := by decide +kernel
theorem dX9_init_90 : decode cX9_init 90 = .ok (.iload_n 1, 1) := by decide +kernel
theorem dX9_init_91 : decode cX9_init 91 = .ok (.iconst 2, 1) := by decide +kernel
theorem dX9_init_92 : decode cX9_init 92 = .ok (.if_icmp .ge 22, 3) := by decide +kernel
theorem dX9_init_95 : decode cX9_init 95 = .ok (.aload_n 0, 1) := by decide +kernel
theorem dX9_init_96 : decode cX9_init 96 = .ok (.getfield 53, 3) := by decide +kernel
theorem dX9_init_99 : decode cX9_init 99 = .ok (.iload_n 1, 1) := by decide +kernel
theorem dX9_init_100 : decode cX9_init 100 = .ok (.new 51, 3) := by decide +kernel
theorem dX9_init_103 : decode cX9_init 103 = .ok (.dup, 1) := by decide +kernel
theorem dX9_init_104 : decode cX9_init 104 = .ok (.invokespecial 64, 3) := by decide +kernel
theorem dX9_init_107 : decode cX9_init 107 = .ok (.aastore, 1) := by decide +kernel
theorem dX9_init_108 : decode cX9_init 108 = .ok (.iinc 1 1, 3) := by decide +kernel
theorem dX9_init_111 : decode cX9_init 111 = .ok (.goto (-21), 3) := by decide +kernel
theorem dX9_init_114 : decode cX9_init 114 = .ok (.return_, 1) := by decide +kernel
set_option maxRecDepth 20000 in
theorem dX9_feed_0 : decode cX9_feed 0 = .ok (.iload_n 1, 1) := by decide +kernel
theorem dX9_feed_1 : decode cX9_feed 1 = .ok (.ifCond .lt 10, 3) := by decide +kernel
theorem dX9_feed_4 : decode cX9_feed 4 = .ok (.iload_n 1, 1) := by decide +kernel
theorem dX9_feed_5 : decode cX9_feed 5 = .ok (.sipush 255, 3) := by decide +kernel
theorem dX9_feed_8 : decode cX9_feed 8 = .ok (.if_icmp .le 6, 3) := by decide +kernel
theorem dX9_feed_11 : decode cX9_feed 11 = .ok (.ldc 65, 2) := by decide +kernel
theorem dX9_feed_13 : decode cX9_feed 13 = .ok (.ireturn, 1) := by decide +kernel
theorem dX9_feed_14 : decode cX9_feed 14 = .ok (.aload_n 0, 1) := by decide +kernel
theorem dX9_feed_15 : decode cX9_feed 15 = .ok (.getfield 12, 3) := by decide +kernel
theorem dX9_feed_18 : decode cX9_feed 18 = .ok (.iload_n 1, 1) := by decide +kernel
theorem dX9_feed_19 : decode cX9_feed 19 = .ok (.invokevirtual 66, 3) := by decide +kernel
theorem dX9_feed_22 : decode cX9_feed 22 = .ok (.ifCond .eq 13, 3) := by decide +kernel
theorem dX9_feed_25 : decode cX9_feed 25 = .ok (.aload_n 0, 1) := by decide +kernel
theorem dX9_feed_26 : decode cX9_feed 26 = .ok (.getfield 12, 3) := by decide +kernel
theorem dX9_feed_29 : decode cX9_feed 29 = .ok (.getfield 70, 3) := by decide +kernel
theorem dX9_feed_32 : decode cX9_feed 32 = .ok (.goto 5, 3) := by decide +kernel
theorem dX9_feed_35 : decode cX9_feed 35 = .ok (.ldc 73, 2) := by decide +kernel
theorem dX9_feed_37 : decode cX9_feed 37 = .ok (.ireturn, 1) := by decide +kernel
set_option maxRecDepth 20000 in
theorem dX9_line_0 : decode cX9_line 0 = .ok (.aload_n 0, 1) := by decide +kernel
theorem dX9_line_1 : decode cX9_line 1 = .ok (.getfield 26, 3) := by decide +kernel
theorem dX9_line_4 : decode cX9_line 4 = .ok (.getfield 74, 3) := by decide +kernel
theorem dX9_line_7 : decode cX9_line 7 = .ok (.astore_n 1, 1) := by decide +kernel
theorem dX9_line_8 : decode cX9_line 8 = .ok (.aload_n 0, 1) := by decide +kernel
theorem dX9_line_9 : decode cX9_line 9 = .ok (.getfield 12, 3) := by decide +kernel
theorem dX9_line_12 : decode cX9_line 12 = .ok (.aload_n 1, 1) := by decide +kernel
theorem dX9_line_13 : decode cX9_line 13 = .ok (.invokevirtual 77, 3) := by decide +kernel
theorem dX9_line_16 : decode cX9_line 16 = .ok (.istore_n 2, 1) := by decide +kernel
theorem dX9_line_17 : decode cX9_line 17 = .ok (.aload_n 0, 1) := by decide +kernel
theorem dX9_line_18 : decode cX9_line 18 = .ok (.getfield 12, 3) := by decide +kernel
theorem dX9_line_21 : decode cX9_line 21 = .ok (.iconst 0, 1) := by decide +kernel
theorem dX9_line_22 : decode cX9_line 22 = .ok (.putfield 70, 3) := by decide +kernel
theorem dX9_line_25 : decode cX9_line 25 = .ok (.iload_n 2, 1) := by decide +kernel
theorem dX9_line_26 : decode cX9_line 26 = .ok (.ifCond .eq 19, 3) := by decide +kernel
theorem dX9_line_29 : decode cX9_line 29 = .ok (.aload_n 0, 1) := by decide +kernel
theorem dX9_line_30 : decode cX9_line 30 = .ok (.aload_n 0, 1) := by decide +kernel
theorem dX9_line_31 : decode cX9_line 31 = .ok (.getfield 12, 3) := by decide +kernel
theorem dX9_line_34 : decode cX9_line 34 = .ok (.getfield 81, 3) := by decide +kernel
theorem dX9_line_37 : decode cX9_line 37 = .ok (.putfield 57, 3) := by decide +kernel
theorem dX9_line_40 : decode cX9_line 40 = .ok (.bipush (-10), 2) := by decide +kernel
theorem dX9_line_42 : decode cX9_line 42 = .ok (.iload_n 2, 1) := by decide +kernel
theorem dX9_line_43 : decode cX9_line 43 = .ok (.isub, 1) := by decide +kernel
theorem dX9_line_44 : decode cX9_line 44 = .ok (.ireturn, 1) := by decide +kernel
theorem dX9_line_45 : decode cX9_line 45 = .ok (.aload_n 0, 1) := by decide +kernel
theorem dX9_line_46 : decode cX9_line 46 = .ok (.iconst (-1), 1) := by decide +kernel
theorem dX9_line_47 : decode cX9_line 47 = .ok (.putfield 57, 3) := by decide +kernel
theorem dX9_line_50 : decode cX9_line 50 = .ok (.aload_n 0, 1) := by decide +kernel
theorem dX9_line_51 : decode cX9_line 51 = .ok (.getfield 19, 3) := by decide +kernel
theorem dX9_line_54 : decode cX9_line 54 = .ok (.aload_n 1, 1) := by decide +kernel
theorem dX9_line_55 : decode cX9_line 55 = .ok (.invokevirtual 84, 3) := by decide +kernel
theorem dX9_line_58 : decode cX9_line 58 = .ok (.aload_n 0, 1) := by decide +kernel
theorem dX9_line_59 : decode cX9_line 59 = .ok (.getfield 33, 3) := by decide +kernel
theorem dX9_line_62 : decode cX9_line 62 = .ok (.iconst 0, 1) := by decide +kernel
theorem dX9_line_63 : decode cX9_line 63 = .ok (.putfield 88, 3) := by decide +kernel
theorem dX9_line_66 : decode cX9_line 66 = .ok (.aload_n 0, 1) := by decide +kernel
theorem dX9_line_67 : decode cX9_line 67 = .ok (.getfield 40, 3) := by decide +kernel
theorem dX9_line_70 : decode cX9_line 70 = .ok (.iconst 0, 1) := by decide +kernel
theorem dX9_line_71 : decode cX9_line 71 = .ok (.putfield 89, 3) := by decide +kernel
theorem dX9_line_74 : decode cX9_line 74 = .ok (.aload_n 0, 1) := by decide +kernel
theorem dX9_line_75 : decode cX9_line 75 = .ok (.getfield 47, 3) := by decide +kernel
theorem dX9_line_78 : decode cX9_line 78 = .ok (.iconst 0, 1) := by decide +kernel
theorem dX9_line_79 : decode cX9_line 79 = .ok (.putfield 90, 3) := by decide +kernel
theorem dX9_line_82 : decode cX9_line 82 = .ok (.iconst 0, 1) := by decide +kernel
theorem dX9_line_83 : decode cX9_line 83 = .ok (.istore_n 3, 1) := by decide +kernel
theorem dX9_line_84 : decode cX9_line 84 = .ok (.iload_n 3, 1) := by decide +kernel
theorem dX9_line_85 : decode cX9_line 85 = .ok (.iconst 2, 1) := by decide +kernel
theorem dX9_line_86 : decode cX9_line 86 = .ok (.if_icmp .ge 19, 3) := by decide +kernel
theorem dX9_line_89 : decode cX9_line 89 = .ok (.aload_n 0, 1) := by decide +kernel
theorem dX9_line_90 : decode cX9_line 90 = .ok (.getfield 53, 3) := by decide +kernel
theorem dX9_line_93 : decode cX9_line 93 = .ok (.iload_n 3, 1) := by decide +kernel
theorem dX9_line_94 : decode cX9_line 94 = .ok (.aaload, 1) := by decide +kernel
theorem dX9_line_95 : decode cX9_line 95 = .ok (.iconst 0, 1) := by decide +kernel
theorem dX9_line_96 : decode cX9_line 96 = .ok (.putfield 91, 3) := by decide +kernel
theorem dX9_line_99 : decode cX9_line 99 = .ok (.iinc 3 1, 3) := by decide +kernel
theorem dX9_line_102 : decode cX9_line 102 = .ok (.goto (-18), 3) := by decide +kernel
theorem dX9_line_105 : decode cX9_line 105 = .ok (.aload_n 0, 1) := by decide +kernel
theorem dX9_line_106 : decode cX9_line 106 = .ok (.getfield 19, 3) := by decide +kernel
theorem dX9_line_109 : decode cX9_line 109 = .ok (.getfield 95, 3) := by decide +kernel
theorem dX9_line_112 : decode cX9_line 112 = .ok (.getfield 99, 3) := by decide +kernel
theorem dX9_line_115 : decode cX9_line 115 = .ok (.ireturn, 1) := by decide +kernel
theorem dX9_fault_0 : decode cX9_fault 0 = .ok (.aload_n 0, 1) := by decide +kernel
theorem dX9_fault_1 : decode cX9_fault 1 = .ok (.getfield 57, 3) := by decide +kernel
theorem dX9_fault_4 : decode cX9_fault 4 = .ok (.ireturn, 1) := by decide +kernel
set_option maxRecDepth 20000 in
theorem dX9_told_0 : decode cX9_told 0 = .ok (.iload_n 1, 1) := by decide +kernel
theorem dX9_told_1 : decode cX9_told 1 = .ok (.tableswitch 298 0 17 #[87, 103, 114, 125, 136, 144, 155, 166, 185, 196, 207, 215, 226, 250, 262, 274, 282, 290], 87) := by decide +kernel
theorem dX9_told_88 : decode cX9_told 88 = .ok (.aload_n 0, 1) := by decide +kernel
theorem dX9_told_89 : decode cX9_told 89 = .ok (.getfield 19, 3) := by decide +kernel
theorem dX9_told_92 : decode cX9_told 92 = .ok (.getfield 104, 3) := by decide +kernel
theorem dX9_told_95 : decode cX9_told 95 = .ok (.ifCond .eq 7, 3) := by decide +kernel
theorem dX9_told_98 : decode cX9_told 98 = .ok (.iconst 1, 1) := by decide +kernel
theorem dX9_told_99 : decode cX9_told 99 = .ok (.goto 4, 3) := by decide +kernel
theorem dX9_told_102 : decode cX9_told 102 = .ok (.iconst 0, 1) := by decide +kernel
theorem dX9_told_103 : decode cX9_told 103 = .ok (.ireturn, 1) := by decide +kernel
theorem dX9_told_104 : decode cX9_told 104 = .ok (.aload_n 0, 1) := by decide +kernel
theorem dX9_told_105 : decode cX9_told 105 = .ok (.getfield 19, 3) := by decide +kernel
theorem dX9_told_108 : decode cX9_told 108 = .ok (.getfield 95, 3) := by decide +kernel
theorem dX9_told_111 : decode cX9_told 111 = .ok (.getfield 107, 3) := by decide +kernel
theorem dX9_told_114 : decode cX9_told 114 = .ok (.ireturn, 1) := by decide +kernel
theorem dX9_told_115 : decode cX9_told 115 = .ok (.aload_n 0, 1) := by decide +kernel
theorem dX9_told_116 : decode cX9_told 116 = .ok (.getfield 19, 3) := by decide +kernel
theorem dX9_told_119 : decode cX9_told 119 = .ok (.getfield 95, 3) := by decide +kernel
theorem dX9_told_122 : decode cX9_told 122 = .ok (.getfield 99, 3) := by decide +kernel
theorem dX9_told_125 : decode cX9_told 125 = .ok (.ireturn, 1) := by decide +kernel
theorem dX9_told_126 : decode cX9_told 126 = .ok (.aload_n 0, 1) := by decide +kernel
theorem dX9_told_127 : decode cX9_told 127 = .ok (.getfield 19, 3) := by decide +kernel
theorem dX9_told_130 : decode cX9_told 130 = .ok (.getfield 110, 3) := by decide +kernel
theorem dX9_told_133 : decode cX9_told 133 = .ok (.getfield 114, 3) := by decide +kernel
theorem dX9_told_136 : decode cX9_told 136 = .ok (.ireturn, 1) := by decide +kernel
theorem dX9_told_137 : decode cX9_told 137 = .ok (.aload_n 0, 1) := by decide +kernel
theorem dX9_told_138 : decode cX9_told 138 = .ok (.getfield 12, 3) := by decide +kernel
theorem dX9_told_141 : decode cX9_told 141 = .ok (.getfield 70, 3) := by decide +kernel
theorem dX9_told_144 : decode cX9_told 144 = .ok (.ireturn, 1) := by decide +kernel
theorem dX9_told_145 : decode cX9_told 145 = .ok (.aload_n 0, 1) := by decide +kernel
theorem dX9_told_146 : decode cX9_told 146 = .ok (.getfield 19, 3) := by decide +kernel
theorem dX9_told_149 : decode cX9_told 149 = .ok (.getfield 95, 3) := by decide +kernel
theorem dX9_told_152 : decode cX9_told 152 = .ok (.getfield 117, 3) := by decide +kernel
theorem dX9_told_155 : decode cX9_told 155 = .ok (.ireturn, 1) := by decide +kernel
theorem dX9_told_156 : decode cX9_told 156 = .ok (.aload_n 0, 1) := by decide +kernel
theorem dX9_told_157 : decode cX9_told 157 = .ok (.getfield 19, 3) := by decide +kernel
theorem dX9_told_160 : decode cX9_told 160 = .ok (.getfield 95, 3) := by decide +kernel
theorem dX9_told_163 : decode cX9_told 163 = .ok (.getfield 120, 3) := by decide +kernel
theorem dX9_told_166 : decode cX9_told 166 = .ok (.ireturn, 1) := by decide +kernel
theorem dX9_told_167 : decode cX9_told 167 = .ok (.aload_n 0, 1) := by decide +kernel
theorem dX9_told_168 : decode cX9_told 168 = .ok (.getfield 19, 3) := by decide +kernel
theorem dX9_told_171 : decode cX9_told 171 = .ok (.getfield 95, 3) := by decide +kernel
theorem dX9_told_174 : decode cX9_told 174 = .ok (.getfield 123, 3) := by decide +kernel
theorem dX9_told_177 : decode cX9_told 177 = .ok (.ifCond .eq 7, 3) := by decide +kernel
theorem dX9_told_180 : decode cX9_told 180 = .ok (.iconst 1, 1) := by decide +kernel
theorem dX9_told_181 : decode cX9_told 181 = .ok (.goto 4, 3) := by decide +kernel
theorem dX9_told_184 : decode cX9_told 184 = .ok (.iconst 0, 1) := by decide +kernel
theorem dX9_told_185 : decode cX9_told 185 = .ok (.ireturn, 1) := by decide +kernel
theorem dX9_told_186 : decode cX9_told 186 = .ok (.aload_n 0, 1) := by decide +kernel
theorem dX9_told_187 : decode cX9_told 187 = .ok (.getfield 19, 3) := by decide +kernel
theorem dX9_told_190 : decode cX9_told 190 = .ok (.getfield 95, 3) := by decide +kernel
theorem dX9_told_193 : decode cX9_told 193 = .ok (.getfield 126, 3) := by decide +kernel
theorem dX9_told_196 : decode cX9_told 196 = .ok (.ireturn, 1) := by decide +kernel
theorem dX9_told_197 : decode cX9_told 197 = .ok (.aload_n 0, 1) := by decide +kernel
theorem dX9_told_198 : decode cX9_told 198 = .ok (.getfield 19, 3) := by decide +kernel
theorem dX9_told_201 : decode cX9_told 201 = .ok (.getfield 95, 3) := by decide +kernel
theorem dX9_told_204 : decode cX9_told 204 = .ok (.getfield 129, 3) := by decide +kernel
theorem dX9_told_207 : decode cX9_told 207 = .ok (.ireturn, 1) := by decide +kernel
theorem dX9_told_208 : decode cX9_told 208 = .ok (.aload_n 0, 1) := by decide +kernel
theorem dX9_told_209 : decode cX9_told 209 = .ok (.getfield 19, 3) := by decide +kernel
theorem dX9_told_212 : decode cX9_told 212 = .ok (.getfield 132, 3) := by decide +kernel
theorem dX9_told_215 : decode cX9_told 215 = .ok (.ireturn, 1) := by decide +kernel
theorem dX9_told_216 : decode cX9_told 216 = .ok (.aload_n 0, 1) := by decide +kernel
theorem dX9_told_217 : decode cX9_told 217 = .ok (.getfield 19, 3) := by decide +kernel
theorem dX9_told_220 : decode cX9_told 220 = .ok (.getfield 110, 3) := by decide +kernel
theorem dX9_told_223 : decode cX9_told 223 = .ok (.invokevirtual 135, 3) := by decide +kernel
theorem dX9_told_226 : decode cX9_told 226 = .ok (.ireturn, 1) := by decide +kernel
theorem dX9_told_227 : decode cX9_told 227 = .ok (.aload_n 0, 1) := by decide +kernel
theorem dX9_told_228 : decode cX9_told 228 = .ok (.getfield 26, 3) := by decide +kernel
theorem dX9_told_231 : decode cX9_told 231 = .ok (.aload_n 0, 1) := by decide +kernel
theorem dX9_told_232 : decode cX9_told 232 = .ok (.getfield 19, 3) := by decide +kernel
theorem dX9_told_235 : decode cX9_told 235 = .ok (.aload_n 0, 1) := by decide +kernel
theorem dX9_told_236 : decode cX9_told 236 = .ok (.getfield 19, 3) := by decide +kernel
theorem dX9_told_239 : decode cX9_told 239 = .ok (.getfield 95, 3) := by decide +kernel
theorem dX9_told_242 : decode cX9_told 242 = .ok (.getfield 117, 3) := by decide +kernel
theorem dX9_told_245 : decode cX9_told 245 = .ok (.ldc 139, 2) := by decide +kernel
theorem dX9_told_247 : decode cX9_told 247 = .ok (.invokevirtual 140, 3) := by decide +kernel
theorem dX9_told_250 : decode cX9_told 250 = .ok (.ireturn, 1) := by decide +kernel
theorem dX9_told_251 : decode cX9_told 251 = .ok (.aload_n 0, 1) := by decide +kernel
theorem dX9_told_252 : decode cX9_told 252 = .ok (.getfield 26, 3) := by decide +kernel
theorem dX9_told_255 : decode cX9_told 255 = .ok (.aload_n 0, 1) := by decide +kernel
theorem dX9_told_256 : decode cX9_told 256 = .ok (.getfield 19, 3) := by decide +kernel
theorem dX9_told_259 : decode cX9_told 259 = .ok (.invokevirtual 144, 3) := by decide +kernel
theorem dX9_told_262 : decode cX9_told 262 = .ok (.ireturn, 1) := by decide +kernel
theorem dX9_told_263 : decode cX9_told 263 = .ok (.aload_n 0, 1) := by decide +kernel
theorem dX9_told_264 : decode cX9_told 264 = .ok (.getfield 26, 3) := by decide +kernel
theorem dX9_told_267 : decode cX9_told 267 = .ok (.aload_n 0, 1) := by decide +kernel
theorem dX9_told_268 : decode cX9_told 268 = .ok (.getfield 19, 3) := by decide +kernel
theorem dX9_told_271 : decode cX9_told 271 = .ok (.invokevirtual 147, 3) := by decide +kernel
theorem dX9_told_274 : decode cX9_told 274 = .ok (.ireturn, 1) := by decide +kernel
theorem dX9_told_275 : decode cX9_told 275 = .ok (.aload_n 0, 1) := by decide +kernel
theorem dX9_told_276 : decode cX9_told 276 = .ok (.getfield 40, 3) := by decide +kernel
theorem dX9_told_279 : decode cX9_told 279 = .ok (.getfield 89, 3) := by decide +kernel
theorem dX9_told_282 : decode cX9_told 282 = .ok (.ireturn, 1) := by decide +kernel
theorem dX9_told_283 : decode cX9_told 283 = .ok (.aload_n 0, 1) := by decide +kernel
theorem dX9_told_284 : decode cX9_told 284 = .ok (.getfield 47, 3) := by decide +kernel
theorem dX9_told_287 : decode cX9_told 287 = .ok (.getfield 90, 3) := by decide +kernel
theorem dX9_told_290 : decode cX9_told 290 = .ok (.ireturn, 1) := by decide +kernel
theorem dX9_told_291 : decode cX9_told 291 = .ok (.aload_n 0, 1) := by decide +kernel
theorem dX9_told_292 : decode cX9_told 292 = .ok (.getfield 33, 3) := by decide +kernel
theorem dX9_told_295 : decode cX9_told 295 = .ok (.getfield 88, 3) := by decide +kernel
theorem dX9_told_298 : decode cX9_told 298 = .ok (.ireturn, 1) := by decide +kernel
theorem dX9_told_299 : decode cX9_told 299 = .ok (.ldc 65, 2) := by decide +kernel
theorem dX9_told_301 : decode cX9_told 301 = .ok (.ireturn, 1) := by decide +kernel
set_option maxRecDepth 20000 in
theorem dX9_wire_0 : decode cX9_wire 0 = .ok (.aload_n 0, 1) := by decide +kernel
theorem dX9_wire_1 : decode cX9_wire 1 = .ok (.getfield 19, 3) := by decide +kernel
theorem dX9_wire_4 : decode cX9_wire 4 = .ok (.getfield 95, 3) := by decide +kernel
theorem dX9_wire_7 : decode cX9_wire 7 = .ok (.iload_n 1, 1) := by decide +kernel
theorem dX9_wire_8 : decode cX9_wire 8 = .ok (.invokevirtual 150, 3) := by decide +kernel
theorem dX9_wire_11 : decode cX9_wire 11 = .ok (.ifCond .ne 6, 3) := by decide +kernel
theorem dX9_wire_14 : decode cX9_wire 14 = .ok (.ldc 153, 2) := by decide +kernel
theorem dX9_wire_16 : decode cX9_wire 16 = .ok (.ireturn, 1) := by decide +kernel
theorem dX9_wire_17 : decode cX9_wire 17 = .ok (.iload_n 2, 1) := by decide +kernel
theorem dX9_wire_18 : decode cX9_wire 18 = .ok (.tableswitch 64 0 2 #[26, 39, 52], 26) := by decide +kernel
theorem dX9_wire_44 : decode cX9_wire 44 = .ok (.aload_n 0, 1) := by decide +kernel
theorem dX9_wire_45 : decode cX9_wire 45 = .ok (.getfield 19, 3) := by decide +kernel
theorem dX9_wire_48 : decode cX9_wire 48 = .ok (.getfield 95, 3) := by decide +kernel
theorem dX9_wire_51 : decode cX9_wire 51 = .ok (.getfield 154, 3) := by decide +kernel
theorem dX9_wire_54 : decode cX9_wire 54 = .ok (.iload_n 1, 1) := by decide +kernel
theorem dX9_wire_55 : decode cX9_wire 55 = .ok (.iaload, 1) := by decide +kernel
theorem dX9_wire_56 : decode cX9_wire 56 = .ok (.ireturn, 1) := by decide +kernel
theorem dX9_wire_57 : decode cX9_wire 57 = .ok (.aload_n 0, 1) := by decide +kernel
theorem dX9_wire_58 : decode cX9_wire 58 = .ok (.getfield 19, 3) := by decide +kernel
theorem dX9_wire_61 : decode cX9_wire 61 = .ok (.getfield 95, 3) := by decide +kernel
theorem dX9_wire_64 : decode cX9_wire 64 = .ok (.getfield 158, 3) := by decide +kernel
theorem dX9_wire_67 : decode cX9_wire 67 = .ok (.iload_n 1, 1) := by decide +kernel
theorem dX9_wire_68 : decode cX9_wire 68 = .ok (.iaload, 1) := by decide +kernel
theorem dX9_wire_69 : decode cX9_wire 69 = .ok (.ireturn, 1) := by decide +kernel
theorem dX9_wire_70 : decode cX9_wire 70 = .ok (.aload_n 0, 1) := by decide +kernel
theorem dX9_wire_71 : decode cX9_wire 71 = .ok (.getfield 19, 3) := by decide +kernel
theorem dX9_wire_74 : decode cX9_wire 74 = .ok (.getfield 95, 3) := by decide +kernel
theorem dX9_wire_77 : decode cX9_wire 77 = .ok (.iload_n 1, 1) := by decide +kernel
theorem dX9_wire_78 : decode cX9_wire 78 = .ok (.invokevirtual 161, 3) := by decide +kernel
theorem dX9_wire_81 : decode cX9_wire 81 = .ok (.ireturn, 1) := by decide +kernel
theorem dX9_wire_82 : decode cX9_wire 82 = .ok (.ldc 65, 2) := by decide +kernel
theorem dX9_wire_84 : decode cX9_wire 84 = .ok (.ireturn, 1) := by decide +kernel
set_option maxRecDepth 20000 in
theorem dX9_cell_0 : decode cX9_cell 0 = .ok (.iload_n 1, 1) := by decide +kernel
theorem dX9_cell_1 : decode cX9_cell 1 = .ok (.ifCond .lt 18, 3) := by decide +kernel
theorem dX9_cell_4 : decode cX9_cell 4 = .ok (.iload_n 1, 1) := by decide +kernel
theorem dX9_cell_5 : decode cX9_cell 5 = .ok (.bipush 72, 2) := by decide +kernel
theorem dX9_cell_7 : decode cX9_cell 7 = .ok (.if_icmp .ge 12, 3) := by decide +kernel
theorem dX9_cell_10 : decode cX9_cell 10 = .ok (.iload_n 2, 1) := by decide +kernel
theorem dX9_cell_11 : decode cX9_cell 11 = .ok (.ifCond .lt 8, 3) := by decide +kernel
theorem dX9_cell_14 : decode cX9_cell 14 = .ok (.iload_n 2, 1) := by decide +kernel
theorem dX9_cell_15 : decode cX9_cell 15 = .ok (.iconst 2, 1) := by decide +kernel
theorem dX9_cell_16 : decode cX9_cell 16 = .ok (.if_icmp .le 6, 3) := by decide +kernel
theorem dX9_cell_19 : decode cX9_cell 19 = .ok (.ldc 65, 2) := by decide +kernel
theorem dX9_cell_21 : decode cX9_cell 21 = .ok (.ireturn, 1) := by decide +kernel
theorem dX9_cell_22 : decode cX9_cell 22 = .ok (.iload_n 2, 1) := by decide +kernel
theorem dX9_cell_23 : decode cX9_cell 23 = .ok (.lookupswitch 56 #[(0, 25), (1, 40)], 25) := by decide +kernel
theorem dX9_cell_48 : decode cX9_cell 48 = .ok (.ldc 165, 2) := by decide +kernel
theorem dX9_cell_50 : decode cX9_cell 50 = .ok (.aload_n 0, 1) := by decide +kernel
theorem dX9_cell_51 : decode cX9_cell 51 = .ok (.getfield 19, 3) := by decide +kernel
theorem dX9_cell_54 : decode cX9_cell 54 = .ok (.getfield 95, 3) := by decide +kernel
theorem dX9_cell_57 : decode cX9_cell 57 = .ok (.iload_n 1, 1) := by decide +kernel
theorem dX9_cell_58 : decode cX9_cell 58 = .ok (.invokevirtual 166, 3) := by decide +kernel
theorem dX9_cell_61 : decode cX9_cell 61 = .ok (.iadd, 1) := by decide +kernel
theorem dX9_cell_62 : decode cX9_cell 62 = .ok (.ireturn, 1) := by decide +kernel
theorem dX9_cell_63 : decode cX9_cell 63 = .ok (.ldc 165, 2) := by decide +kernel
theorem dX9_cell_65 : decode cX9_cell 65 = .ok (.aload_n 0, 1) := by decide +kernel
theorem dX9_cell_66 : decode cX9_cell 66 = .ok (.getfield 19, 3) := by decide +kernel
theorem dX9_cell_69 : decode cX9_cell 69 = .ok (.getfield 95, 3) := by decide +kernel
theorem dX9_cell_72 : decode cX9_cell 72 = .ok (.getfield 169, 3) := by decide +kernel
theorem dX9_cell_75 : decode cX9_cell 75 = .ok (.iload_n 1, 1) := by decide +kernel
theorem dX9_cell_76 : decode cX9_cell 76 = .ok (.iaload, 1) := by decide +kernel
theorem dX9_cell_77 : decode cX9_cell 77 = .ok (.iadd, 1) := by decide +kernel
theorem dX9_cell_78 : decode cX9_cell 78 = .ok (.ireturn, 1) := by decide +kernel
theorem dX9_cell_79 : decode cX9_cell 79 = .ok (.ldc 165, 2) := by decide +kernel
theorem dX9_cell_81 : decode cX9_cell 81 = .ok (.aload_n 0, 1) := by decide +kernel
theorem dX9_cell_82 : decode cX9_cell 82 = .ok (.getfield 19, 3) := by decide +kernel
theorem dX9_cell_85 : decode cX9_cell 85 = .ok (.getfield 95, 3) := by decide +kernel
theorem dX9_cell_88 : decode cX9_cell 88 = .ok (.getfield 172, 3) := by decide +kernel
theorem dX9_cell_91 : decode cX9_cell 91 = .ok (.iload_n 1, 1) := by decide +kernel
theorem dX9_cell_92 : decode cX9_cell 92 = .ok (.iaload, 1) := by decide +kernel
theorem dX9_cell_93 : decode cX9_cell 93 = .ok (.iadd, 1) := by decide +kernel
theorem dX9_cell_94 : decode cX9_cell 94 = .ok (.ireturn, 1) := by decide +kernel
set_option maxRecDepth 20000 in
theorem dX9_place_0 : decode cX9_place 0 = .ok (.iload_n 1, 1) := by decide +kernel
theorem dX9_place_1 : decode cX9_place 1 = .ok (.invokestatic 175, 3) := by decide +kernel
theorem dX9_place_4 : decode cX9_place 4 = .ok (.ifCond .ne 6, 3) := by decide +kernel
theorem dX9_place_7 : decode cX9_place 7 = .ok (.ldc 65, 2) := by decide +kernel
theorem dX9_place_9 : decode cX9_place 9 = .ok (.ireturn, 1) := by decide +kernel
theorem dX9_place_10 : decode cX9_place 10 = .ok (.aload_n 0, 1) := by decide +kernel
theorem dX9_place_11 : decode cX9_place 11 = .ok (.getfield 19, 3) := by decide +kernel
theorem dX9_place_14 : decode cX9_place 14 = .ok (.getfield 95, 3) := by decide +kernel
theorem dX9_place_17 : decode cX9_place 17 = .ok (.iload_n 1, 1) := by decide +kernel
theorem dX9_place_18 : decode cX9_place 18 = .ok (.invokevirtual 178, 3) := by decide +kernel
theorem dX9_place_21 : decode cX9_place 21 = .ok (.ifCond .eq 18, 3) := by decide +kernel
theorem dX9_place_24 : decode cX9_place 24 = .ok (.aload_n 0, 1) := by decide +kernel
theorem dX9_place_25 : decode cX9_place 25 = .ok (.getfield 19, 3) := by decide +kernel
theorem dX9_place_28 : decode cX9_place 28 = .ok (.getfield 95, 3) := by decide +kernel
theorem dX9_place_31 : decode cX9_place 31 = .ok (.getfield 181, 3) := by decide +kernel
theorem dX9_place_34 : decode cX9_place 34 = .ok (.iload_n 1, 1) := by decide +kernel
theorem dX9_place_35 : decode cX9_place 35 = .ok (.iaload, 1) := by decide +kernel
theorem dX9_place_36 : decode cX9_place 36 = .ok (.goto 4, 3) := by decide +kernel
theorem dX9_place_39 : decode cX9_place 39 = .ok (.iconst (-1), 1) := by decide +kernel
theorem dX9_place_40 : decode cX9_place 40 = .ok (.ireturn, 1) := by decide +kernel
set_option maxRecDepth 20000 in
theorem dX9_gate_0 : decode cX9_gate 0 = .ok (.aload_n 0, 1) := by decide +kernel
theorem dX9_gate_1 : decode cX9_gate 1 = .ok (.getfield 19, 3) := by decide +kernel
theorem dX9_gate_4 : decode cX9_gate 4 = .ok (.getfield 110, 3) := by decide +kernel
theorem dX9_gate_7 : decode cX9_gate 7 = .ok (.iload_n 1, 1) := by decide +kernel
theorem dX9_gate_8 : decode cX9_gate 8 = .ok (.invokevirtual 184, 3) := by decide +kernel
theorem dX9_gate_11 : decode cX9_gate 11 = .ok (.ifCond .ne 6, 3) := by decide +kernel
theorem dX9_gate_14 : decode cX9_gate 14 = .ok (.ldc 153, 2) := by decide +kernel
theorem dX9_gate_16 : decode cX9_gate 16 = .ok (.ireturn, 1) := by decide +kernel
theorem dX9_gate_17 : decode cX9_gate 17 = .ok (.iload_n 2, 1) := by decide +kernel
theorem dX9_gate_18 : decode cX9_gate 18 = .ok (.tableswitch 116 0 5 #[38, 51, 64, 77, 90, 103], 38) := by decide +kernel
theorem dX9_gate_56 : decode cX9_gate 56 = .ok (.aload_n 0, 1) := by decide +kernel
theorem dX9_gate_57 : decode cX9_gate 57 = .ok (.getfield 19, 3) := by decide +kernel
theorem dX9_gate_60 : decode cX9_gate 60 = .ok (.getfield 110, 3) := by decide +kernel
theorem dX9_gate_63 : decode cX9_gate 63 = .ok (.getfield 187, 3) := by decide +kernel
theorem dX9_gate_66 : decode cX9_gate 66 = .ok (.iload_n 1, 1) := by decide +kernel
theorem dX9_gate_67 : decode cX9_gate 67 = .ok (.iaload, 1) := by decide +kernel
theorem dX9_gate_68 : decode cX9_gate 68 = .ok (.ireturn, 1) := by decide +kernel
theorem dX9_gate_69 : decode cX9_gate 69 = .ok (.aload_n 0, 1) := by decide +kernel
theorem dX9_gate_70 : decode cX9_gate 70 = .ok (.getfield 19, 3) := by decide +kernel
theorem dX9_gate_73 : decode cX9_gate 73 = .ok (.getfield 110, 3) := by decide +kernel
theorem dX9_gate_76 : decode cX9_gate 76 = .ok (.getfield 190, 3) := by decide +kernel
theorem dX9_gate_79 : decode cX9_gate 79 = .ok (.iload_n 1, 1) := by decide +kernel
theorem dX9_gate_80 : decode cX9_gate 80 = .ok (.iaload, 1) := by decide +kernel
theorem dX9_gate_81 : decode cX9_gate 81 = .ok (.ireturn, 1) := by decide +kernel
theorem dX9_gate_82 : decode cX9_gate 82 = .ok (.aload_n 0, 1) := by decide +kernel
theorem dX9_gate_83 : decode cX9_gate 83 = .ok (.getfield 19, 3) := by decide +kernel
theorem dX9_gate_86 : decode cX9_gate 86 = .ok (.getfield 110, 3) := by decide +kernel
theorem dX9_gate_89 : decode cX9_gate 89 = .ok (.getfield 193, 3) := by decide +kernel
theorem dX9_gate_92 : decode cX9_gate 92 = .ok (.iload_n 1, 1) := by decide +kernel
theorem dX9_gate_93 : decode cX9_gate 93 = .ok (.iaload, 1) := by decide +kernel
theorem dX9_gate_94 : decode cX9_gate 94 = .ok (.ireturn, 1) := by decide +kernel
theorem dX9_gate_95 : decode cX9_gate 95 = .ok (.aload_n 0, 1) := by decide +kernel
theorem dX9_gate_96 : decode cX9_gate 96 = .ok (.getfield 19, 3) := by decide +kernel
theorem dX9_gate_99 : decode cX9_gate 99 = .ok (.getfield 110, 3) := by decide +kernel
theorem dX9_gate_102 : decode cX9_gate 102 = .ok (.getfield 196, 3) := by decide +kernel
theorem dX9_gate_105 : decode cX9_gate 105 = .ok (.iload_n 1, 1) := by decide +kernel
theorem dX9_gate_106 : decode cX9_gate 106 = .ok (.iaload, 1) := by decide +kernel
theorem dX9_gate_107 : decode cX9_gate 107 = .ok (.ireturn, 1) := by decide +kernel
theorem dX9_gate_108 : decode cX9_gate 108 = .ok (.aload_n 0, 1) := by decide +kernel
theorem dX9_gate_109 : decode cX9_gate 109 = .ok (.getfield 19, 3) := by decide +kernel
theorem dX9_gate_112 : decode cX9_gate 112 = .ok (.getfield 110, 3) := by decide +kernel
theorem dX9_gate_115 : decode cX9_gate 115 = .ok (.getfield 199, 3) := by decide +kernel
theorem dX9_gate_118 : decode cX9_gate 118 = .ok (.iload_n 1, 1) := by decide +kernel
theorem dX9_gate_119 : decode cX9_gate 119 = .ok (.iaload, 1) := by decide +kernel
theorem dX9_gate_120 : decode cX9_gate 120 = .ok (.ireturn, 1) := by decide +kernel
theorem dX9_gate_121 : decode cX9_gate 121 = .ok (.aload_n 0, 1) := by decide +kernel
theorem dX9_gate_122 : decode cX9_gate 122 = .ok (.getfield 26, 3) := by decide +kernel
theorem dX9_gate_125 : decode cX9_gate 125 = .ok (.aload_n 0, 1) := by decide +kernel
theorem dX9_gate_126 : decode cX9_gate 126 = .ok (.getfield 19, 3) := by decide +kernel
theorem dX9_gate_129 : decode cX9_gate 129 = .ok (.iload_n 1, 1) := by decide +kernel
theorem dX9_gate_130 : decode cX9_gate 130 = .ok (.invokevirtual 202, 3) := by decide +kernel
theorem dX9_gate_133 : decode cX9_gate 133 = .ok (.ireturn, 1) := by decide +kernel
theorem dX9_gate_134 : decode cX9_gate 134 = .ok (.ldc 65, 2) := by decide +kernel
theorem dX9_gate_136 : decode cX9_gate 136 = .ok (.ireturn, 1) := by decide +kernel
set_option maxRecDepth 20000 in
theorem dX9_tick_0 : decode cX9_tick 0 = .ok (.aload_n 0, 1) := by decide +kernel
theorem dX9_tick_1 : decode cX9_tick 1 = .ok (.iload_n 1, 1) := by decide +kernel
theorem dX9_tick_2 : decode cX9_tick 2 = .ok (.invokevirtual 206, 3) := by decide +kernel
theorem dX9_tick_5 : decode cX9_tick 5 = .ok (.istore_n 2, 1) := by decide +kernel
theorem dX9_tick_6 : decode cX9_tick 6 = .ok (.iload_n 2, 1) := by decide +kernel
theorem dX9_tick_7 : decode cX9_tick 7 = .ok (.ifCond .eq 5, 3) := by decide +kernel
theorem dX9_tick_10 : decode cX9_tick 10 = .ok (.iload_n 2, 1) := by decide +kernel
theorem dX9_tick_11 : decode cX9_tick 11 = .ok (.ireturn, 1) := by decide +kernel
theorem dX9_tick_12 : decode cX9_tick 12 = .ok (.aload_n 0, 1) := by decide +kernel
theorem dX9_tick_13 : decode cX9_tick 13 = .ok (.getfield 33, 3) := by decide +kernel
theorem dX9_tick_16 : decode cX9_tick 16 = .ok (.aload_n 0, 1) := by decide +kernel
theorem dX9_tick_17 : decode cX9_tick 17 = .ok (.getfield 19, 3) := by decide +kernel
theorem dX9_tick_20 : decode cX9_tick 20 = .ok (.invokevirtual 209, 3) := by decide +kernel
theorem dX9_tick_23 : decode cX9_tick 23 = .ok (.iconst 0, 1) := by decide +kernel
theorem dX9_tick_24 : decode cX9_tick 24 = .ok (.istore_n 3, 1) := by decide +kernel
theorem dX9_tick_25 : decode cX9_tick 25 = .ok (.iload_n 3, 1) := by decide +kernel
theorem dX9_tick_26 : decode cX9_tick 26 = .ok (.iload_n 1, 1) := by decide +kernel
theorem dX9_tick_27 : decode cX9_tick 27 = .ok (.if_icmp .ge 16, 3) := by decide +kernel
theorem dX9_tick_30 : decode cX9_tick 30 = .ok (.aload_n 0, 1) := by decide +kernel
theorem dX9_tick_31 : decode cX9_tick 31 = .ok (.getfield 19, 3) := by decide +kernel
theorem dX9_tick_34 : decode cX9_tick 34 = .ok (.invokevirtual 212, 3) := by decide +kernel
theorem dX9_tick_37 : decode cX9_tick 37 = .ok (.iinc 3 1, 3) := by decide +kernel
theorem dX9_tick_40 : decode cX9_tick 40 = .ok (.goto (-15), 3) := by decide +kernel
theorem dX9_tick_43 : decode cX9_tick 43 = .ok (.aload_n 0, 1) := by decide +kernel
theorem dX9_tick_44 : decode cX9_tick 44 = .ok (.getfield 19, 3) := by decide +kernel
theorem dX9_tick_47 : decode cX9_tick 47 = .ok (.getfield 132, 3) := by decide +kernel
theorem dX9_tick_50 : decode cX9_tick 50 = .ok (.ireturn, 1) := by decide +kernel
set_option maxRecDepth 20000 in
theorem dX9_drive_0 : decode cX9_drive 0 = .ok (.aload_n 0, 1) := by decide +kernel
theorem dX9_drive_1 : decode cX9_drive 1 = .ok (.getfield 19, 3) := by decide +kernel
theorem dX9_drive_4 : decode cX9_drive 4 = .ok (.getfield 104, 3) := by decide +kernel
theorem dX9_drive_7 : decode cX9_drive 7 = .ok (.ifCond .ne 6, 3) := by decide +kernel
theorem dX9_drive_10 : decode cX9_drive 10 = .ok (.ldc 215, 2) := by decide +kernel
theorem dX9_drive_12 : decode cX9_drive 12 = .ok (.ireturn, 1) := by decide +kernel
theorem dX9_drive_13 : decode cX9_drive 13 = .ok (.aload_n 0, 1) := by decide +kernel
theorem dX9_drive_14 : decode cX9_drive 14 = .ok (.getfield 33, 3) := by decide +kernel
theorem dX9_drive_17 : decode cX9_drive 17 = .ok (.aload_n 0, 1) := by decide +kernel
theorem dX9_drive_18 : decode cX9_drive 18 = .ok (.getfield 19, 3) := by decide +kernel
theorem dX9_drive_21 : decode cX9_drive 21 = .ok (.invokevirtual 209, 3) := by decide +kernel
theorem dX9_drive_24 : decode cX9_drive 24 = .ok (.aload_n 0, 1) := by decide +kernel
theorem dX9_drive_25 : decode cX9_drive 25 = .ok (.getfield 19, 3) := by decide +kernel
theorem dX9_drive_28 : decode cX9_drive 28 = .ok (.getfield 95, 3) := by decide +kernel
theorem dX9_drive_31 : decode cX9_drive 31 = .ok (.getfield 123, 3) := by decide +kernel
theorem dX9_drive_34 : decode cX9_drive 34 = .ok (.ifCond .eq 7, 3) := by decide +kernel
theorem dX9_drive_37 : decode cX9_drive 37 = .ok (.iconst 1, 1) := by decide +kernel
theorem dX9_drive_38 : decode cX9_drive 38 = .ok (.goto 4, 3) := by decide +kernel
theorem dX9_drive_41 : decode cX9_drive 41 = .ok (.iconst 0, 1) := by decide +kernel
theorem dX9_drive_42 : decode cX9_drive 42 = .ok (.istore_n 2, 1) := by decide +kernel
theorem dX9_drive_43 : decode cX9_drive 43 = .ok (.aload_n 0, 1) := by decide +kernel
theorem dX9_drive_44 : decode cX9_drive 44 = .ok (.getfield 19, 3) := by decide +kernel
theorem dX9_drive_47 : decode cX9_drive 47 = .ok (.getfield 95, 3) := by decide +kernel
theorem dX9_drive_50 : decode cX9_drive 50 = .ok (.iload_n 1, 1) := by decide +kernel
theorem dX9_drive_51 : decode cX9_drive 51 = .ok (.putfield 123, 3) := by decide +kernel
theorem dX9_drive_54 : decode cX9_drive 54 = .ok (.iload_n 2, 1) := by decide +kernel
theorem dX9_drive_55 : decode cX9_drive 55 = .ok (.ireturn, 1) := by decide +kernel
set_option maxRecDepth 20000 in
theorem dX9_cut_0 : decode cX9_cut 0 = .ok (.aload_n 0, 1) := by decide +kernel
theorem dX9_cut_1 : decode cX9_cut 1 = .ok (.iload_n 1, 1) := by decide +kernel
theorem dX9_cut_2 : decode cX9_cut 2 = .ok (.iconst 1, 1) := by decide +kernel
theorem dX9_cut_3 : decode cX9_cut 3 = .ok (.invokevirtual 216, 3) := by decide +kernel
theorem dX9_cut_6 : decode cX9_cut 6 = .ok (.ireturn, 1) := by decide +kernel
set_option maxRecDepth 20000 in
theorem dX9_brief_0 : decode cX9_brief 0 = .ok (.aload_n 0, 1) := by decide +kernel
theorem dX9_brief_1 : decode cX9_brief 1 = .ok (.iload_n 1, 1) := by decide +kernel
theorem dX9_brief_2 : decode cX9_brief 2 = .ok (.iconst 2, 1) := by decide +kernel
theorem dX9_brief_3 : decode cX9_brief 3 = .ok (.invokevirtual 216, 3) := by decide +kernel
theorem dX9_brief_6 : decode cX9_brief 6 = .ok (.ireturn, 1) := by decide +kernel
set_option maxRecDepth 20000 in
theorem dX9_mend_0 : decode cX9_mend 0 = .ok (.aload_n 0, 1) := by decide +kernel
theorem dX9_mend_1 : decode cX9_mend 1 = .ok (.iload_n 1, 1) := by decide +kernel
theorem dX9_mend_2 : decode cX9_mend 2 = .ok (.iconst 0, 1) := by decide +kernel
theorem dX9_mend_3 : decode cX9_mend 3 = .ok (.invokevirtual 216, 3) := by decide +kernel
theorem dX9_mend_6 : decode cX9_mend 6 = .ok (.ireturn, 1) := by decide +kernel
set_option maxRecDepth 20000 in
theorem dX9_piece_0 : decode cX9_piece 0 = .ok (.aload_n 0, 1) := by decide +kernel
theorem dX9_piece_1 : decode cX9_piece 1 = .ok (.getfield 19, 3) := by decide +kernel
theorem dX9_piece_4 : decode cX9_piece 4 = .ok (.getfield 95, 3) := by decide +kernel
theorem dX9_piece_7 : decode cX9_piece 7 = .ok (.iload_n 1, 1) := by decide +kernel
theorem dX9_piece_8 : decode cX9_piece 8 = .ok (.invokevirtual 150, 3) := by decide +kernel
theorem dX9_piece_11 : decode cX9_piece 11 = .ok (.ifCond .ne 6, 3) := by decide +kernel
theorem dX9_piece_14 : decode cX9_piece 14 = .ok (.ldc 153, 2) := by decide +kernel
theorem dX9_piece_16 : decode cX9_piece 16 = .ok (.ireturn, 1) := by decide +kernel
theorem dX9_piece_17 : decode cX9_piece 17 = .ok (.iload_n 2, 1) := by decide +kernel
theorem dX9_piece_18 : decode cX9_piece 18 = .ok (.iconst 1, 1) := by decide +kernel
theorem dX9_piece_19 : decode cX9_piece 19 = .ok (.if_icmp .lt 9, 3) := by decide +kernel
theorem dX9_piece_22 : decode cX9_piece 22 = .ok (.iload_n 2, 1) := by decide +kernel
theorem dX9_piece_23 : decode cX9_piece 23 = .ok (.bipush 99, 2) := by decide +kernel
theorem dX9_piece_25 : decode cX9_piece 25 = .ok (.if_icmp .le 6, 3) := by decide +kernel
theorem dX9_piece_28 : decode cX9_piece 28 = .ok (.ldc 65, 2) := by decide +kernel
theorem dX9_piece_30 : decode cX9_piece 30 = .ok (.ireturn, 1) := by decide +kernel
theorem dX9_piece_31 : decode cX9_piece 31 = .ok (.aload_n 0, 1) := by decide +kernel
theorem dX9_piece_32 : decode cX9_piece 32 = .ok (.getfield 33, 3) := by decide +kernel
theorem dX9_piece_35 : decode cX9_piece 35 = .ok (.aload_n 0, 1) := by decide +kernel
theorem dX9_piece_36 : decode cX9_piece 36 = .ok (.getfield 19, 3) := by decide +kernel
theorem dX9_piece_39 : decode cX9_piece 39 = .ok (.invokevirtual 209, 3) := by decide +kernel
theorem dX9_piece_42 : decode cX9_piece 42 = .ok (.aload_n 0, 1) := by decide +kernel
theorem dX9_piece_43 : decode cX9_piece 43 = .ok (.getfield 19, 3) := by decide +kernel
theorem dX9_piece_46 : decode cX9_piece 46 = .ok (.getfield 95, 3) := by decide +kernel
theorem dX9_piece_49 : decode cX9_piece 49 = .ok (.getfield 154, 3) := by decide +kernel
theorem dX9_piece_52 : decode cX9_piece 52 = .ok (.iload_n 1, 1) := by decide +kernel
theorem dX9_piece_53 : decode cX9_piece 53 = .ok (.iaload, 1) := by decide +kernel
theorem dX9_piece_54 : decode cX9_piece 54 = .ok (.istore_n 3, 1) := by decide +kernel
theorem dX9_piece_55 : decode cX9_piece 55 = .ok (.aload_n 0, 1) := by decide +kernel
theorem dX9_piece_56 : decode cX9_piece 56 = .ok (.getfield 19, 3) := by decide +kernel
theorem dX9_piece_59 : decode cX9_piece 59 = .ok (.getfield 95, 3) := by decide +kernel
theorem dX9_piece_62 : decode cX9_piece 62 = .ok (.iload_n 1, 1) := by decide +kernel
theorem dX9_piece_63 : decode cX9_piece 63 = .ok (.iload_n 2, 1) := by decide +kernel
theorem dX9_piece_64 : decode cX9_piece 64 = .ok (.invokevirtual 220, 3) := by decide +kernel
theorem dX9_piece_67 : decode cX9_piece 67 = .ok (.iload_n 3, 1) := by decide +kernel
theorem dX9_piece_68 : decode cX9_piece 68 = .ok (.ireturn, 1) := by decide +kernel
set_option maxRecDepth 20000 in
theorem dX9_end_0 : decode cX9_end 0 = .ok (.iload_n 1, 1) := by decide +kernel
theorem dX9_end_1 : decode cX9_end 1 = .ok (.ifCond .lt 24, 3) := by decide +kernel
theorem dX9_end_4 : decode cX9_end 4 = .ok (.iload_n 1, 1) := by decide +kernel
theorem dX9_end_5 : decode cX9_end 5 = .ok (.iconst 2, 1) := by decide +kernel
theorem dX9_end_6 : decode cX9_end 6 = .ok (.if_icmp .gt 19, 3) := by decide +kernel
theorem dX9_end_9 : decode cX9_end 9 = .ok (.iload_n 1, 1) := by decide +kernel
theorem dX9_end_10 : decode cX9_end 10 = .ok (.iconst 2, 1) := by decide +kernel
theorem dX9_end_11 : decode cX9_end 11 = .ok (.if_icmp .ne 17, 3) := by decide +kernel
theorem dX9_end_14 : decode cX9_end 14 = .ok (.iload_n 2, 1) := by decide +kernel
theorem dX9_end_15 : decode cX9_end 15 = .ok (.iconst 1, 1) := by decide +kernel
theorem dX9_end_16 : decode cX9_end 16 = .ok (.if_icmp .lt 9, 3) := by decide +kernel
theorem dX9_end_19 : decode cX9_end 19 = .ok (.iload_n 2, 1) := by decide +kernel
theorem dX9_end_20 : decode cX9_end 20 = .ok (.bipush 99, 2) := by decide +kernel
theorem dX9_end_22 : decode cX9_end 22 = .ok (.if_icmp .le 6, 3) := by decide +kernel
theorem dX9_end_25 : decode cX9_end 25 = .ok (.ldc 65, 2) := by decide +kernel
theorem dX9_end_27 : decode cX9_end 27 = .ok (.ireturn, 1) := by decide +kernel
theorem dX9_end_28 : decode cX9_end 28 = .ok (.aload_n 0, 1) := by decide +kernel
theorem dX9_end_29 : decode cX9_end 29 = .ok (.getfield 19, 3) := by decide +kernel
theorem dX9_end_32 : decode cX9_end 32 = .ok (.getfield 104, 3) := by decide +kernel
theorem dX9_end_35 : decode cX9_end 35 = .ok (.ifCond .ne 6, 3) := by decide +kernel
theorem dX9_end_38 : decode cX9_end 38 = .ok (.ldc 215, 2) := by decide +kernel
theorem dX9_end_40 : decode cX9_end 40 = .ok (.ireturn, 1) := by decide +kernel
theorem dX9_end_41 : decode cX9_end 41 = .ok (.aload_n 0, 1) := by decide +kernel
theorem dX9_end_42 : decode cX9_end 42 = .ok (.getfield 33, 3) := by decide +kernel
theorem dX9_end_45 : decode cX9_end 45 = .ok (.aload_n 0, 1) := by decide +kernel
theorem dX9_end_46 : decode cX9_end 46 = .ok (.getfield 19, 3) := by decide +kernel
theorem dX9_end_49 : decode cX9_end 49 = .ok (.invokevirtual 209, 3) := by decide +kernel
theorem dX9_end_52 : decode cX9_end 52 = .ok (.aload_n 0, 1) := by decide +kernel
theorem dX9_end_53 : decode cX9_end 53 = .ok (.getfield 19, 3) := by decide +kernel
theorem dX9_end_56 : decode cX9_end 56 = .ok (.getfield 95, 3) := by decide +kernel
theorem dX9_end_59 : decode cX9_end 59 = .ok (.getfield 126, 3) := by decide +kernel
theorem dX9_end_62 : decode cX9_end 62 = .ok (.istore_n 3, 1) := by decide +kernel
theorem dX9_end_63 : decode cX9_end 63 = .ok (.aload_n 0, 1) := by decide +kernel
theorem dX9_end_64 : decode cX9_end 64 = .ok (.getfield 19, 3) := by decide +kernel
theorem dX9_end_67 : decode cX9_end 67 = .ok (.getfield 95, 3) := by decide +kernel
theorem dX9_end_70 : decode cX9_end 70 = .ok (.iload_n 1, 1) := by decide +kernel
theorem dX9_end_71 : decode cX9_end 71 = .ok (.iload_n 2, 1) := by decide +kernel
theorem dX9_end_72 : decode cX9_end 72 = .ok (.invokevirtual 224, 3) := by decide +kernel
theorem dX9_end_75 : decode cX9_end 75 = .ok (.iload_n 3, 1) := by decide +kernel
theorem dX9_end_76 : decode cX9_end 76 = .ok (.ireturn, 1) := by decide +kernel
set_option maxRecDepth 20000 in
theorem dX9_ohms_0 : decode cX9_ohms 0 = .ok (.iload_n 1, 1) := by decide +kernel
theorem dX9_ohms_1 : decode cX9_ohms 1 = .ok (.ifCond .lt 9, 3) := by decide +kernel
theorem dX9_ohms_4 : decode cX9_ohms 4 = .ok (.iload_n 1, 1) := by decide +kernel
theorem dX9_ohms_5 : decode cX9_ohms 5 = .ok (.bipush 99, 2) := by decide +kernel
theorem dX9_ohms_7 : decode cX9_ohms 7 = .ok (.if_icmp .le 6, 3) := by decide +kernel
theorem dX9_ohms_10 : decode cX9_ohms 10 = .ok (.ldc 65, 2) := by decide +kernel
theorem dX9_ohms_12 : decode cX9_ohms 12 = .ok (.ireturn, 1) := by decide +kernel
theorem dX9_ohms_13 : decode cX9_ohms 13 = .ok (.aload_n 0, 1) := by decide +kernel
theorem dX9_ohms_14 : decode cX9_ohms 14 = .ok (.getfield 19, 3) := by decide +kernel
theorem dX9_ohms_17 : decode cX9_ohms 17 = .ok (.getfield 104, 3) := by decide +kernel
theorem dX9_ohms_20 : decode cX9_ohms 20 = .ok (.ifCond .ne 6, 3) := by decide +kernel
theorem dX9_ohms_23 : decode cX9_ohms 23 = .ok (.ldc 215, 2) := by decide +kernel
theorem dX9_ohms_25 : decode cX9_ohms 25 = .ok (.ireturn, 1) := by decide +kernel
theorem dX9_ohms_26 : decode cX9_ohms 26 = .ok (.aload_n 0, 1) := by decide +kernel
theorem dX9_ohms_27 : decode cX9_ohms 27 = .ok (.getfield 33, 3) := by decide +kernel
theorem dX9_ohms_30 : decode cX9_ohms 30 = .ok (.aload_n 0, 1) := by decide +kernel
theorem dX9_ohms_31 : decode cX9_ohms 31 = .ok (.getfield 19, 3) := by decide +kernel
theorem dX9_ohms_34 : decode cX9_ohms 34 = .ok (.invokevirtual 209, 3) := by decide +kernel
theorem dX9_ohms_37 : decode cX9_ohms 37 = .ok (.aload_n 0, 1) := by decide +kernel
theorem dX9_ohms_38 : decode cX9_ohms 38 = .ok (.getfield 19, 3) := by decide +kernel
theorem dX9_ohms_41 : decode cX9_ohms 41 = .ok (.getfield 95, 3) := by decide +kernel
theorem dX9_ohms_44 : decode cX9_ohms 44 = .ok (.getfield 117, 3) := by decide +kernel
theorem dX9_ohms_47 : decode cX9_ohms 47 = .ok (.istore_n 2, 1) := by decide +kernel
theorem dX9_ohms_48 : decode cX9_ohms 48 = .ok (.aload_n 0, 1) := by decide +kernel
theorem dX9_ohms_49 : decode cX9_ohms 49 = .ok (.getfield 19, 3) := by decide +kernel
theorem dX9_ohms_52 : decode cX9_ohms 52 = .ok (.getfield 95, 3) := by decide +kernel
theorem dX9_ohms_55 : decode cX9_ohms 55 = .ok (.iload_n 1, 1) := by decide +kernel
theorem dX9_ohms_56 : decode cX9_ohms 56 = .ok (.putfield 117, 3) := by decide +kernel
theorem dX9_ohms_59 : decode cX9_ohms 59 = .ok (.iload_n 2, 1) := by decide +kernel
theorem dX9_ohms_60 : decode cX9_ohms 60 = .ok (.ireturn, 1) := by decide +kernel
set_option maxRecDepth 20000 in
theorem dX9_quiet_0 : decode cX9_quiet 0 = .ok (.aload_n 0, 1) := by decide +kernel
theorem dX9_quiet_1 : decode cX9_quiet 1 = .ok (.getfield 19, 3) := by decide +kernel
theorem dX9_quiet_4 : decode cX9_quiet 4 = .ok (.getfield 104, 3) := by decide +kernel
theorem dX9_quiet_7 : decode cX9_quiet 7 = .ok (.ifCond .ne 6, 3) := by decide +kernel
theorem dX9_quiet_10 : decode cX9_quiet 10 = .ok (.ldc 215, 2) := by decide +kernel
theorem dX9_quiet_12 : decode cX9_quiet 12 = .ok (.ireturn, 1) := by decide +kernel
theorem dX9_quiet_13 : decode cX9_quiet 13 = .ok (.aload_n 0, 1) := by decide +kernel
theorem dX9_quiet_14 : decode cX9_quiet 14 = .ok (.getfield 33, 3) := by decide +kernel
theorem dX9_quiet_17 : decode cX9_quiet 17 = .ok (.aload_n 0, 1) := by decide +kernel
theorem dX9_quiet_18 : decode cX9_quiet 18 = .ok (.getfield 19, 3) := by decide +kernel
theorem dX9_quiet_21 : decode cX9_quiet 21 = .ok (.invokevirtual 209, 3) := by decide +kernel
theorem dX9_quiet_24 : decode cX9_quiet 24 = .ok (.aload_n 0, 1) := by decide +kernel
theorem dX9_quiet_25 : decode cX9_quiet 25 = .ok (.getfield 19, 3) := by decide +kernel
theorem dX9_quiet_28 : decode cX9_quiet 28 = .ok (.getfield 110, 3) := by decide +kernel
theorem dX9_quiet_31 : decode cX9_quiet 31 = .ok (.invokevirtual 227, 3) := by decide +kernel
theorem dX9_quiet_34 : decode cX9_quiet 34 = .ok (.istore_n 1, 1) := by decide +kernel
theorem dX9_quiet_35 : decode cX9_quiet 35 = .ok (.aload_n 0, 1) := by decide +kernel
theorem dX9_quiet_36 : decode cX9_quiet 36 = .ok (.getfield 19, 3) := by decide +kernel
theorem dX9_quiet_39 : decode cX9_quiet 39 = .ok (.invokevirtual 230, 3) := by decide +kernel
theorem dX9_quiet_42 : decode cX9_quiet 42 = .ok (.iload_n 1, 1) := by decide +kernel
theorem dX9_quiet_43 : decode cX9_quiet 43 = .ok (.ireturn, 1) := by decide +kernel
set_option maxRecDepth 20000 in
theorem dX9_drift_0 : decode cX9_drift 0 = .ok (.aload_n 0, 1) := by decide +kernel
theorem dX9_drift_1 : decode cX9_drift 1 = .ok (.iload_n 1, 1) := by decide +kernel
theorem dX9_drift_2 : decode cX9_drift 2 = .ok (.invokevirtual 206, 3) := by decide +kernel
theorem dX9_drift_5 : decode cX9_drift 5 = .ok (.istore_n 2, 1) := by decide +kernel
theorem dX9_drift_6 : decode cX9_drift 6 = .ok (.iload_n 2, 1) := by decide +kernel
theorem dX9_drift_7 : decode cX9_drift 7 = .ok (.ifCond .eq 5, 3) := by decide +kernel
theorem dX9_drift_10 : decode cX9_drift 10 = .ok (.iload_n 2, 1) := by decide +kernel
theorem dX9_drift_11 : decode cX9_drift 11 = .ok (.ireturn, 1) := by decide +kernel
theorem dX9_drift_12 : decode cX9_drift 12 = .ok (.aload_n 0, 1) := by decide +kernel
theorem dX9_drift_13 : decode cX9_drift 13 = .ok (.getfield 33, 3) := by decide +kernel
theorem dX9_drift_16 : decode cX9_drift 16 = .ok (.aload_n 0, 1) := by decide +kernel
theorem dX9_drift_17 : decode cX9_drift 17 = .ok (.getfield 19, 3) := by decide +kernel
theorem dX9_drift_20 : decode cX9_drift 20 = .ok (.invokevirtual 209, 3) := by decide +kernel
theorem dX9_drift_23 : decode cX9_drift 23 = .ok (.iconst 0, 1) := by decide +kernel
theorem dX9_drift_24 : decode cX9_drift 24 = .ok (.istore_n 3, 1) := by decide +kernel
theorem dX9_drift_25 : decode cX9_drift 25 = .ok (.iload_n 3, 1) := by decide +kernel
theorem dX9_drift_26 : decode cX9_drift 26 = .ok (.iload_n 1, 1) := by decide +kernel
theorem dX9_drift_27 : decode cX9_drift 27 = .ok (.if_icmp .ge 13, 3) := by decide +kernel
theorem dX9_drift_30 : decode cX9_drift 30 = .ok (.aload_n 0, 1) := by decide +kernel
theorem dX9_drift_31 : decode cX9_drift 31 = .ok (.invokevirtual 233, 3) := by decide +kernel
theorem dX9_drift_34 : decode cX9_drift 34 = .ok (.iinc 3 1, 3) := by decide +kernel
theorem dX9_drift_37 : decode cX9_drift 37 = .ok (.goto (-12), 3) := by decide +kernel
theorem dX9_drift_40 : decode cX9_drift 40 = .ok (.aload_n 0, 1) := by decide +kernel
theorem dX9_drift_41 : decode cX9_drift 41 = .ok (.getfield 19, 3) := by decide +kernel
theorem dX9_drift_44 : decode cX9_drift 44 = .ok (.getfield 132, 3) := by decide +kernel
theorem dX9_drift_47 : decode cX9_drift 47 = .ok (.ireturn, 1) := by decide +kernel
set_option maxRecDepth 20000 in
theorem dX9_undo_0 : decode cX9_undo 0 = .ok (.iload_n 1, 1) := by decide +kernel
theorem dX9_undo_1 : decode cX9_undo 1 = .ok (.iconst 1, 1) := by decide +kernel
theorem dX9_undo_2 : decode cX9_undo 2 = .ok (.if_icmp .lt 9, 3) := by decide +kernel
theorem dX9_undo_5 : decode cX9_undo 5 = .ok (.iload_n 1, 1) := by decide +kernel
theorem dX9_undo_6 : decode cX9_undo 6 = .ok (.bipush 12, 2) := by decide +kernel
theorem dX9_undo_8 : decode cX9_undo 8 = .ok (.if_icmp .le 6, 3) := by decide +kernel
theorem dX9_undo_11 : decode cX9_undo 11 = .ok (.ldc 65, 2) := by decide +kernel
theorem dX9_undo_13 : decode cX9_undo 13 = .ok (.ireturn, 1) := by decide +kernel
theorem dX9_undo_14 : decode cX9_undo 14 = .ok (.iload_n 1, 1) := by decide +kernel
theorem dX9_undo_15 : decode cX9_undo 15 = .ok (.aload_n 0, 1) := by decide +kernel
theorem dX9_undo_16 : decode cX9_undo 16 = .ok (.getfield 33, 3) := by decide +kernel
theorem dX9_undo_19 : decode cX9_undo 19 = .ok (.getfield 88, 3) := by decide +kernel
theorem dX9_undo_22 : decode cX9_undo 22 = .ok (.if_icmp .le 6, 3) := by decide +kernel
theorem dX9_undo_25 : decode cX9_undo 25 = .ok (.ldc 215, 2) := by decide +kernel
theorem dX9_undo_27 : decode cX9_undo 27 = .ok (.ireturn, 1) := by decide +kernel
theorem dX9_undo_28 : decode cX9_undo 28 = .ok (.aload_n 0, 1) := by decide +kernel
theorem dX9_undo_29 : decode cX9_undo 29 = .ok (.getfield 33, 3) := by decide +kernel
theorem dX9_undo_32 : decode cX9_undo 32 = .ok (.aload_n 0, 1) := by decide +kernel
theorem dX9_undo_33 : decode cX9_undo 33 = .ok (.getfield 19, 3) := by decide +kernel
theorem dX9_undo_36 : decode cX9_undo 36 = .ok (.iload_n 1, 1) := by decide +kernel
theorem dX9_undo_37 : decode cX9_undo 37 = .ok (.invokevirtual 236, 3) := by decide +kernel
theorem dX9_undo_40 : decode cX9_undo 40 = .ok (.aload_n 0, 1) := by decide +kernel
theorem dX9_undo_41 : decode cX9_undo 41 = .ok (.getfield 19, 3) := by decide +kernel
theorem dX9_undo_44 : decode cX9_undo 44 = .ok (.getfield 132, 3) := by decide +kernel
theorem dX9_undo_47 : decode cX9_undo 47 = .ok (.ireturn, 1) := by decide +kernel
set_option maxRecDepth 20000 in
theorem dX9_volts_0 : decode cX9_volts 0 = .ok (.iload_n 1, 1) := by decide +kernel
theorem dX9_volts_1 : decode cX9_volts 1 = .ok (.ifCond .lt 20, 3) := by decide +kernel
theorem dX9_volts_4 : decode cX9_volts 4 = .ok (.iload_n 1, 1) := by decide +kernel
theorem dX9_volts_5 : decode cX9_volts 5 = .ok (.bipush 72, 2) := by decide +kernel
theorem dX9_volts_7 : decode cX9_volts 7 = .ok (.if_icmp .ge 14, 3) := by decide +kernel
theorem dX9_volts_10 : decode cX9_volts 10 = .ok (.iload_n 2, 1) := by decide +kernel
theorem dX9_volts_11 : decode cX9_volts 11 = .ok (.ifCond .lt 10, 3) := by decide +kernel
theorem dX9_volts_14 : decode cX9_volts 14 = .ok (.iload_n 2, 1) := by decide +kernel
theorem dX9_volts_15 : decode cX9_volts 15 = .ok (.sipush 200, 3) := by decide +kernel
theorem dX9_volts_18 : decode cX9_volts 18 = .ok (.if_icmp .le 6, 3) := by decide +kernel
theorem dX9_volts_21 : decode cX9_volts 21 = .ok (.ldc 65, 2) := by decide +kernel
theorem dX9_volts_23 : decode cX9_volts 23 = .ok (.ireturn, 1) := by decide +kernel
theorem dX9_volts_24 : decode cX9_volts 24 = .ok (.iload_n 3, 1) := by decide +kernel
theorem dX9_volts_25 : decode cX9_volts 25 = .ok (.tableswitch 78 0 2 #[27, 44, 61], 27) := by decide +kernel
theorem dX9_volts_52 : decode cX9_volts 52 = .ok (.ldc 165, 2) := by decide +kernel
theorem dX9_volts_54 : decode cX9_volts 54 = .ok (.aload_n 0, 1) := by decide +kernel
theorem dX9_volts_55 : decode cX9_volts 55 = .ok (.getfield 26, 3) := by decide +kernel
theorem dX9_volts_58 : decode cX9_volts 58 = .ok (.aload_n 0, 1) := by decide +kernel
theorem dX9_volts_59 : decode cX9_volts 59 = .ok (.getfield 19, 3) := by decide +kernel
theorem dX9_volts_62 : decode cX9_volts 62 = .ok (.iload_n 1, 1) := by decide +kernel
theorem dX9_volts_63 : decode cX9_volts 63 = .ok (.iload_n 2, 1) := by decide +kernel
theorem dX9_volts_64 : decode cX9_volts 64 = .ok (.invokevirtual 240, 3) := by decide +kernel
theorem dX9_volts_67 : decode cX9_volts 67 = .ok (.iadd, 1) := by decide +kernel
theorem dX9_volts_68 : decode cX9_volts 68 = .ok (.ireturn, 1) := by decide +kernel
theorem dX9_volts_69 : decode cX9_volts 69 = .ok (.ldc 165, 2) := by decide +kernel
theorem dX9_volts_71 : decode cX9_volts 71 = .ok (.aload_n 0, 1) := by decide +kernel
theorem dX9_volts_72 : decode cX9_volts 72 = .ok (.getfield 26, 3) := by decide +kernel
theorem dX9_volts_75 : decode cX9_volts 75 = .ok (.aload_n 0, 1) := by decide +kernel
theorem dX9_volts_76 : decode cX9_volts 76 = .ok (.getfield 19, 3) := by decide +kernel
theorem dX9_volts_79 : decode cX9_volts 79 = .ok (.iload_n 1, 1) := by decide +kernel
theorem dX9_volts_80 : decode cX9_volts 80 = .ok (.iload_n 2, 1) := by decide +kernel
theorem dX9_volts_81 : decode cX9_volts 81 = .ok (.invokevirtual 243, 3) := by decide +kernel
theorem dX9_volts_84 : decode cX9_volts 84 = .ok (.iadd, 1) := by decide +kernel
theorem dX9_volts_85 : decode cX9_volts 85 = .ok (.ireturn, 1) := by decide +kernel
theorem dX9_volts_86 : decode cX9_volts 86 = .ok (.ldc 165, 2) := by decide +kernel
theorem dX9_volts_88 : decode cX9_volts 88 = .ok (.aload_n 0, 1) := by decide +kernel
theorem dX9_volts_89 : decode cX9_volts 89 = .ok (.getfield 26, 3) := by decide +kernel
theorem dX9_volts_92 : decode cX9_volts 92 = .ok (.aload_n 0, 1) := by decide +kernel
theorem dX9_volts_93 : decode cX9_volts 93 = .ok (.getfield 19, 3) := by decide +kernel
theorem dX9_volts_96 : decode cX9_volts 96 = .ok (.iload_n 1, 1) := by decide +kernel
theorem dX9_volts_97 : decode cX9_volts 97 = .ok (.iload_n 2, 1) := by decide +kernel
theorem dX9_volts_98 : decode cX9_volts 98 = .ok (.invokevirtual 246, 3) := by decide +kernel
theorem dX9_volts_101 : decode cX9_volts 101 = .ok (.iadd, 1) := by decide +kernel
theorem dX9_volts_102 : decode cX9_volts 102 = .ok (.ireturn, 1) := by decide +kernel
theorem dX9_volts_103 : decode cX9_volts 103 = .ok (.ldc 65, 2) := by decide +kernel
theorem dX9_volts_105 : decode cX9_volts 105 = .ok (.ireturn, 1) := by decide +kernel
set_option maxRecDepth 20000 in
theorem dX9_rest_0 : decode cX9_rest 0 = .ok (.iload_n 1, 1) := by decide +kernel
theorem dX9_rest_1 : decode cX9_rest 1 = .ok (.ifCond .lt 9, 3) := by decide +kernel
theorem dX9_rest_4 : decode cX9_rest 4 = .ok (.iload_n 1, 1) := by decide +kernel
theorem dX9_rest_5 : decode cX9_rest 5 = .ok (.bipush 72, 2) := by decide +kernel
theorem dX9_rest_7 : decode cX9_rest 7 = .ok (.if_icmp .lt 6, 3) := by decide +kernel
theorem dX9_rest_10 : decode cX9_rest 10 = .ok (.ldc 65, 2) := by decide +kernel
theorem dX9_rest_12 : decode cX9_rest 12 = .ok (.ireturn, 1) := by decide +kernel
theorem dX9_rest_13 : decode cX9_rest 13 = .ok (.aload_n 0, 1) := by decide +kernel
theorem dX9_rest_14 : decode cX9_rest 14 = .ok (.getfield 26, 3) := by decide +kernel
theorem dX9_rest_17 : decode cX9_rest 17 = .ok (.aload_n 0, 1) := by decide +kernel
theorem dX9_rest_18 : decode cX9_rest 18 = .ok (.getfield 19, 3) := by decide +kernel
theorem dX9_rest_21 : decode cX9_rest 21 = .ok (.iload_n 1, 1) := by decide +kernel
theorem dX9_rest_22 : decode cX9_rest 22 = .ok (.invokevirtual 249, 3) := by decide +kernel
theorem dX9_rest_25 : decode cX9_rest 25 = .ok (.ireturn, 1) := by decide +kernel
set_option maxRecDepth 20000 in
theorem dX9_sees_0 : decode cX9_sees 0 = .ok (.aload_n 0, 1) := by decide +kernel
theorem dX9_sees_1 : decode cX9_sees 1 = .ok (.getfield 19, 3) := by decide +kernel
theorem dX9_sees_4 : decode cX9_sees 4 = .ok (.getfield 110, 3) := by decide +kernel
theorem dX9_sees_7 : decode cX9_sees 7 = .ok (.iload_n 1, 1) := by decide +kernel
theorem dX9_sees_8 : decode cX9_sees 8 = .ok (.invokevirtual 184, 3) := by decide +kernel
theorem dX9_sees_11 : decode cX9_sees 11 = .ok (.ifCond .ne 6, 3) := by decide +kernel
theorem dX9_sees_14 : decode cX9_sees 14 = .ok (.ldc 153, 2) := by decide +kernel
theorem dX9_sees_16 : decode cX9_sees 16 = .ok (.ireturn, 1) := by decide +kernel
theorem dX9_sees_17 : decode cX9_sees 17 = .ok (.iload_n 2, 1) := by decide +kernel
theorem dX9_sees_18 : decode cX9_sees 18 = .ok (.ifCond .lt 19, 3) := by decide +kernel
theorem dX9_sees_21 : decode cX9_sees 21 = .ok (.iload_n 2, 1) := by decide +kernel
theorem dX9_sees_22 : decode cX9_sees 22 = .ok (.sipush 200, 3) := by decide +kernel
theorem dX9_sees_25 : decode cX9_sees 25 = .ok (.if_icmp .gt 12, 3) := by decide +kernel
theorem dX9_sees_28 : decode cX9_sees 28 = .ok (.iload_n 3, 1) := by decide +kernel
theorem dX9_sees_29 : decode cX9_sees 29 = .ok (.ifCond .lt 8, 3) := by decide +kernel
theorem dX9_sees_32 : decode cX9_sees 32 = .ok (.iload_n 3, 1) := by decide +kernel
theorem dX9_sees_33 : decode cX9_sees 33 = .ok (.iconst 1, 1) := by decide +kernel
theorem dX9_sees_34 : decode cX9_sees 34 = .ok (.if_icmp .le 6, 3) := by decide +kernel
theorem dX9_sees_37 : decode cX9_sees 37 = .ok (.ldc 65, 2) := by decide +kernel
theorem dX9_sees_39 : decode cX9_sees 39 = .ok (.ireturn, 1) := by decide +kernel
theorem dX9_sees_40 : decode cX9_sees 40 = .ok (.aload_n 0, 1) := by decide +kernel
theorem dX9_sees_41 : decode cX9_sees 41 = .ok (.getfield 26, 3) := by decide +kernel
theorem dX9_sees_44 : decode cX9_sees 44 = .ok (.aload_n 0, 1) := by decide +kernel
theorem dX9_sees_45 : decode cX9_sees 45 = .ok (.getfield 19, 3) := by decide +kernel
theorem dX9_sees_48 : decode cX9_sees 48 = .ok (.iload_n 2, 1) := by decide +kernel
theorem dX9_sees_49 : decode cX9_sees 49 = .ok (.invokevirtual 252, 3) := by decide +kernel
theorem dX9_sees_52 : decode cX9_sees 52 = .ok (.iload_n 3, 1) := by decide +kernel
theorem dX9_sees_53 : decode cX9_sees 53 = .ok (.ifCond .ne 19, 3) := by decide +kernel
theorem dX9_sees_56 : decode cX9_sees 56 = .ok (.aload_n 0, 1) := by decide +kernel
theorem dX9_sees_57 : decode cX9_sees 57 = .ok (.getfield 26, 3) := by decide +kernel
theorem dX9_sees_60 : decode cX9_sees 60 = .ok (.getfield 74, 3) := by decide +kernel
theorem dX9_sees_63 : decode cX9_sees 63 = .ok (.getfield 110, 3) := by decide +kernel
theorem dX9_sees_66 : decode cX9_sees 66 = .ok (.getfield 196, 3) := by decide +kernel
theorem dX9_sees_69 : decode cX9_sees 69 = .ok (.iload_n 1, 1) := by decide +kernel
theorem dX9_sees_70 : decode cX9_sees 70 = .ok (.iaload, 1) := by decide +kernel
theorem dX9_sees_71 : decode cX9_sees 71 = .ok (.ireturn, 1) := by decide +kernel
theorem dX9_sees_72 : decode cX9_sees 72 = .ok (.aload_n 0, 1) := by decide +kernel
theorem dX9_sees_73 : decode cX9_sees 73 = .ok (.getfield 26, 3) := by decide +kernel
theorem dX9_sees_76 : decode cX9_sees 76 = .ok (.getfield 74, 3) := by decide +kernel
theorem dX9_sees_79 : decode cX9_sees 79 = .ok (.getfield 110, 3) := by decide +kernel
theorem dX9_sees_82 : decode cX9_sees 82 = .ok (.getfield 199, 3) := by decide +kernel
theorem dX9_sees_85 : decode cX9_sees 85 = .ok (.iload_n 1, 1) := by decide +kernel
theorem dX9_sees_86 : decode cX9_sees 86 = .ok (.iaload, 1) := by decide +kernel
theorem dX9_sees_87 : decode cX9_sees 87 = .ok (.aload_n 0, 1) := by decide +kernel
theorem dX9_sees_88 : decode cX9_sees 88 = .ok (.getfield 19, 3) := by decide +kernel
theorem dX9_sees_91 : decode cX9_sees 91 = .ok (.getfield 110, 3) := by decide +kernel
theorem dX9_sees_94 : decode cX9_sees 94 = .ok (.getfield 199, 3) := by decide +kernel
theorem dX9_sees_97 : decode cX9_sees 97 = .ok (.iload_n 1, 1) := by decide +kernel
theorem dX9_sees_98 : decode cX9_sees 98 = .ok (.iaload, 1) := by decide +kernel
theorem dX9_sees_99 : decode cX9_sees 99 = .ok (.isub, 1) := by decide +kernel
theorem dX9_sees_100 : decode cX9_sees 100 = .ok (.ireturn, 1) := by decide +kernel
theorem dX9_noNoise_0 : decode cX9_noNoise 0 = .ok (.iload_n 1, 1) := by decide +kernel
theorem dX9_noNoise_1 : decode cX9_noNoise 1 = .ok (.ifCond .lt 19, 3) := by decide +kernel
theorem dX9_noNoise_4 : decode cX9_noNoise 4 = .ok (.iload_n 1, 1) := by decide +kernel
theorem dX9_noNoise_5 : decode cX9_noNoise 5 = .ok (.bipush 60, 2) := by decide +kernel
theorem dX9_noNoise_7 : decode cX9_noNoise 7 = .ok (.if_icmp .gt 13, 3) := by decide +kernel
theorem dX9_noNoise_10 : decode cX9_noNoise 10 = .ok (.iload_n 2, 1) := by decide +kernel
theorem dX9_noNoise_11 : decode cX9_noNoise 11 = .ok (.ifCond .lt 9, 3) := by decide +kernel
theorem dX9_noNoise_14 : decode cX9_noNoise 14 = .ok (.iload_n 2, 1) := by decide +kernel
theorem dX9_noNoise_15 : decode cX9_noNoise 15 = .ok (.bipush 100, 2) := by decide +kernel
theorem dX9_noNoise_17 : decode cX9_noNoise 17 = .ok (.if_icmp .le 6, 3) := by decide +kernel
theorem dX9_noNoise_20 : decode cX9_noNoise 20 = .ok (.ldc 65, 2) := by decide +kernel
theorem dX9_noNoise_22 : decode cX9_noNoise 22 = .ok (.ireturn, 1) := by decide +kernel
theorem dX9_noNoise_23 : decode cX9_noNoise 23 = .ok (.ldc2_w 255, 3) := by decide +kernel
theorem dX9_noNoise_26 : decode cX9_noNoise 26 = .ok (.lstore_n 3, 1) := by decide +kernel
theorem dX9_noNoise_27 : decode cX9_noNoise 27 = .ok (.iconst 0, 1) := by decide +kernel
theorem dX9_noNoise_28 : decode cX9_noNoise 28 = .ok (.istore 5, 2) := by decide +kernel
theorem dX9_noNoise_30 : decode cX9_noNoise 30 = .ok (.iload 5, 2) := by decide +kernel
theorem dX9_noNoise_32 : decode cX9_noNoise 32 = .ok (.iload_n 1, 1) := by decide +kernel
theorem dX9_noNoise_33 : decode cX9_noNoise 33 = .ok (.if_icmp .ge 18, 3) := by decide +kernel
theorem dX9_noNoise_36 : decode cX9_noNoise 36 = .ok (.lload_n 3, 1) := by decide +kernel
theorem dX9_noNoise_37 : decode cX9_noNoise 37 = .ok (.iload_n 2, 1) := by decide +kernel
theorem dX9_noNoise_38 : decode cX9_noNoise 38 = .ok (.i2l, 1) := by decide +kernel
theorem dX9_noNoise_39 : decode cX9_noNoise 39 = .ok (.lmul, 1) := by decide +kernel
theorem dX9_noNoise_40 : decode cX9_noNoise 40 = .ok (.ldc2_w 257, 3) := by decide +kernel
theorem dX9_noNoise_43 : decode cX9_noNoise 43 = .ok (.ldiv, 1) := by decide +kernel
theorem dX9_noNoise_44 : decode cX9_noNoise 44 = .ok (.lstore_n 3, 1) := by decide +kernel
theorem dX9_noNoise_45 : decode cX9_noNoise 45 = .ok (.iinc 5 1, 3) := by decide +kernel
theorem dX9_noNoise_48 : decode cX9_noNoise 48 = .ok (.goto (-18), 3) := by decide +kernel
theorem dX9_noNoise_51 : decode cX9_noNoise 51 = .ok (.lload_n 3, 1) := by decide +kernel
theorem dX9_noNoise_52 : decode cX9_noNoise 52 = .ok (.l2i, 1) := by decide +kernel
theorem dX9_noNoise_53 : decode cX9_noNoise 53 = .ok (.ireturn, 1) := by decide +kernel
set_option maxRecDepth 20000 in
theorem dX9_see_0 : decode cX9_see 0 = .ok (.iload_n 1, 1) := by decide +kernel
