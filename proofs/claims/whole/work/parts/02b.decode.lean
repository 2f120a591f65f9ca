theorem dX5_init_0 : decode cX5_init 0 = .ok (.aload_n 0, 1) := by decide +kernel
theorem dX5_init_1 : decode cX5_init 1 = .ok (.invokespecial 1, 3) := by decide +kernel
theorem dX5_init_4 : decode cX5_init 4 = .ok (.aload_n 0, 1) := by decide +kernel
theorem dX5_init_5 : decode cX5_init 5 = .ok (.bipush 9, 2) := by decide +kernel
theorem dX5_init_7 : decode cX5_init 7 = .ok (.newarray .int, 2) := by decide +kernel
theorem dX5_init_9 : decode cX5_init 9 = .ok (.putfield 7, 3) := by decide +kernel
theorem dX5_init_12 : decode cX5_init 12 = .ok (.aload_n 0, 1) := by decide +kernel
theorem dX5_init_13 : decode cX5_init 13 = .ok (.iconst 2, 1) := by decide +kernel
theorem dX5_init_14 : decode cX5_init 14 = .ok (.newarray .boolean, 2) := by decide +kernel
theorem dX5_init_16 : decode cX5_init 16 = .ok (.putfield 13, 3) := by decide +kernel
theorem dX5_init_19 : decode cX5_init 19 = .ok (.aload_n 0, 1) := by decide +kernel
theorem dX5_init_20 : decode cX5_init 20 = .ok (.sipush 200, 3) := by decide +kernel
theorem dX5_init_23 : decode cX5_init 23 = .ok (.newarray .int, 2) := by decide +kernel
theorem dX5_init_25 : decode cX5_init 25 = .ok (.putfield 17, 3) := by decide +kernel
theorem dX5_init_28 : decode cX5_init 28 = .ok (.aload_n 0, 1) := by decide +kernel
theorem dX5_init_29 : decode cX5_init 29 = .ok (.bipush 60, 2) := by decide +kernel
theorem dX5_init_31 : decode cX5_init 31 = .ok (.newarray .int, 2) := by decide +kernel
theorem dX5_init_33 : decode cX5_init 33 = .ok (.putfield 20, 3) := by decide +kernel
theorem dX5_init_36 : decode cX5_init 36 = .ok (.aload_n 0, 1) := by decide +kernel
theorem dX5_init_37 : decode cX5_init 37 = .ok (.iconst 4, 1) := by decide +kernel
theorem dX5_init_38 : decode cX5_init 38 = .ok (.putfield 23, 3) := by decide +kernel
theorem dX5_init_41 : decode cX5_init 41 = .ok (.aload_n 0, 1) := by decide +kernel
theorem dX5_init_42 : decode cX5_init 42 = .ok (.iconst 4, 1) := by decide +kernel
theorem dX5_init_43 : decode cX5_init 43 = .ok (.putfield 27, 3) := by decide +kernel
theorem dX5_init_46 : decode cX5_init 46 = .ok (.aload_n 0, 1) := by decide +kernel
theorem dX5_init_47 : decode cX5_init 47 = .ok (.iconst 2, 1) := by decide +kernel
theorem dX5_init_48 : decode cX5_init 48 = .ok (.putfield 30, 3) := by decide +kernel
theorem dX5_init_51 : decode cX5_init 51 = .ok (.aload_n 0, 1) := by decide +kernel
theorem dX5_init_52 : decode cX5_init 52 = .ok (.bipush 50, 2) := by decide +kernel
theorem dX5_init_54 : decode cX5_init 54 = .ok (.putfield 33, 3) := by decide +kernel
theorem dX5_init_57 : decode cX5_init 57 = .ok (.aload_n 0, 1) := by decide +kernel
theorem dX5_init_58 : decode cX5_init 58 = .ok (.bipush 42, 2) := by decide +kernel
theorem dX5_init_60 : decode cX5_init 60 = .ok (.newarray .int, 2) := by decide +kernel
theorem dX5_init_62 : decode cX5_init 62 = .ok (.putfield 36, 3) := by decide +kernel
theorem dX5_init_65 : decode cX5_init 65 = .ok (.aload_n 0, 1) := by decide +kernel
theorem dX5_init_66 : decode cX5_init 66 = .ok (.bipush 6, 2) := by decide +kernel
theorem dX5_init_68 : decode cX5_init 68 = .ok (.newarray .int, 2) := by decide +kernel
theorem dX5_init_70 : decode cX5_init 70 = .ok (.putfield 39, 3) := by decide +kernel
theorem dX5_init_73 : decode cX5_init 73 = .ok (.aload_n 0, 1) := by decide +kernel
theorem dX5_init_74 : decode cX5_init 74 = .ok (.bipush 24, 2) := by decide +kernel
theorem dX5_init_76 : decode cX5_init 76 = .ok (.newarray .int, 2) := by decide +kernel
theorem dX5_init_78 : decode cX5_init 78 = .ok (.putfield 42, 3) := by decide +kernel
theorem dX5_init_81 : decode cX5_init 81 = .ok (.aload_n 0, 1) := by decide +kernel
theorem dX5_init_82 : decode cX5_init 82 = .ok (.getfield 7, 3) := by decide +kernel
theorem dX5_init_85 : decode cX5_init 85 = .ok (.iconst 1, 1) := by decide +kernel
theorem dX5_init_86 : decode cX5_init 86 = .ok (.iconst (-1), 1) := by decide +kernel
theorem dX5_init_87 : decode cX5_init 87 = .ok (.iastore, 1) := by decide +kernel
theorem dX5_init_88 : decode cX5_init 88 = .ok (.return_, 1) := by decide +kernel
theorem dX5_in_0 : decode cX5_in 0 = .ok (.lload_n 0, 1) := by decide +kernel
theorem dX5_in_1 : decode cX5_in 1 = .ok (.lload_n 2, 1) := by decide +kernel
theorem dX5_in_2 : decode cX5_in 2 = .ok (.lcmp, 1) := by decide +kernel
theorem dX5_in_3 : decode cX5_in 3 = .ok (.ifCond .lt 14, 3) := by decide +kernel
theorem dX5_in_6 : decode cX5_in 6 = .ok (.lload_n 0, 1) := by decide +kernel
theorem dX5_in_7 : decode cX5_in 7 = .ok (.lload 4, 2) := by decide +kernel
theorem dX5_in_9 : decode cX5_in 9 = .ok (.lcmp, 1) := by decide +kernel
theorem dX5_in_10 : decode cX5_in 10 = .ok (.ifCond .gt 7, 3) := by decide +kernel
theorem dX5_in_13 : decode cX5_in 13 = .ok (.iconst 1, 1) := by decide +kernel
theorem dX5_in_14 : decode cX5_in 14 = .ok (.goto 4, 3) := by decide +kernel
theorem dX5_in_17 : decode cX5_in 17 = .ok (.iconst 0, 1) := by decide +kernel
theorem dX5_in_18 : decode cX5_in 18 = .ok (.ireturn, 1) := by decide +kernel
theorem dX5_has_0 : decode cX5_has 0 = .ok (.lload_n 0, 1) := by decide +kernel
theorem dX5_has_1 : decode cX5_has 1 = .ok (.iload_n 2, 1) := by decide +kernel
theorem dX5_has_2 : decode cX5_has 2 = .ok (.lshr, 1) := by decide +kernel
theorem dX5_has_3 : decode cX5_has 3 = .ok (.lconst 1, 1) := by decide +kernel
theorem dX5_has_4 : decode cX5_has 4 = .ok (.land, 1) := by decide +kernel
theorem dX5_has_5 : decode cX5_has 5 = .ok (.lconst 1, 1) := by decide +kernel
theorem dX5_has_6 : decode cX5_has 6 = .ok (.lcmp, 1) := by decide +kernel
theorem dX5_has_7 : decode cX5_has 7 = .ok (.ifCond .ne 7, 3) := by decide +kernel
theorem dX5_has_10 : decode cX5_has 10 = .ok (.iconst 1, 1) := by decide +kernel
theorem dX5_has_11 : decode cX5_has 11 = .ok (.goto 4, 3) := by decide +kernel
theorem dX5_has_14 : decode cX5_has 14 = .ok (.iconst 0, 1) := by decide +kernel
theorem dX5_has_15 : decode cX5_has 15 = .ok (.ireturn, 1) := by decide +kernel
theorem dX5_bits_0 : decode cX5_bits 0 = .ok (.iconst 0, 1) := by decide +kernel
theorem dX5_bits_1 : decode cX5_bits 1 = .ok (.istore_n 1, 1) := by decide +kernel
theorem dX5_bits_2 : decode cX5_bits 2 = .ok (.iconst 0, 1) := by decide +kernel
theorem dX5_bits_3 : decode cX5_bits 3 = .ok (.istore_n 2, 1) := by decide +kernel
theorem dX5_bits_4 : decode cX5_bits 4 = .ok (.iload_n 2, 1) := by decide +kernel
theorem dX5_bits_5 : decode cX5_bits 5 = .ok (.bipush 6, 2) := by decide +kernel
theorem dX5_bits_7 : decode cX5_bits 7 = .ok (.if_icmp .ge 17, 3) := by decide +kernel
theorem dX5_bits_10 : decode cX5_bits 10 = .ok (.iload_n 1, 1) := by decide +kernel
theorem dX5_bits_11 : decode cX5_bits 11 = .ok (.iload_n 0, 1) := by decide +kernel
theorem dX5_bits_12 : decode cX5_bits 12 = .ok (.iload_n 2, 1) := by decide +kernel
theorem dX5_bits_13 : decode cX5_bits 13 = .ok (.ishr, 1) := by decide +kernel
theorem dX5_bits_14 : decode cX5_bits 14 = .ok (.iconst 1, 1) := by decide +kernel
theorem dX5_bits_15 : decode cX5_bits 15 = .ok (.iand, 1) := by decide +kernel
theorem dX5_bits_16 : decode cX5_bits 16 = .ok (.iadd, 1) := by decide +kernel
theorem dX5_bits_17 : decode cX5_bits 17 = .ok (.istore_n 1, 1) := by decide +kernel
theorem dX5_bits_18 : decode cX5_bits 18 = .ok (.iinc 2 1, 3) := by decide +kernel
theorem dX5_bits_21 : decode cX5_bits 21 = .ok (.goto (-17), 3) := by decide +kernel
theorem dX5_bits_24 : decode cX5_bits 24 = .ok (.iload_n 1, 1) := by decide +kernel
theorem dX5_bits_25 : decode cX5_bits 25 = .ok (.ireturn, 1) := by decide +kernel
theorem dX5_write_0 : decode cX5_write 0 = .ok (.iload_n 3, 1) := by decide +kernel
theorem dX5_write_1 : decode cX5_write 1 = .ok (.i2l, 1) := by decide +kernel
theorem dX5_write_2 : decode cX5_write 2 = .ok (.lconst 1, 1) := by decide +kernel
theorem dX5_write_3 : decode cX5_write 3 = .ok (.ldc2_w 45, 3) := by decide +kernel
theorem dX5_write_6 : decode cX5_write 6 = .ok (.invokestatic 47, 3) := by decide +kernel
theorem dX5_write_9 : decode cX5_write 9 = .ok (.ifCond .ne 6, 3) := by decide +kernel
theorem dX5_write_12 : decode cX5_write 12 = .ok (.bipush (-3), 2) := by decide +kernel
theorem dX5_write_14 : decode cX5_write 14 = .ok (.ireturn, 1) := by decide +kernel
theorem dX5_write_15 : decode cX5_write 15 = .ok (.aload_n 0, 1) := by decide +kernel
theorem dX5_write_16 : decode cX5_write 16 = .ok (.getfield 51, 3) := by decide +kernel
theorem dX5_write_19 : decode cX5_write 19 = .ok (.iload_n 3, 1) := by decide +kernel
theorem dX5_write_20 : decode cX5_write 20 = .ok (.iadd, 1) := by decide +kernel
theorem dX5_write_21 : decode cX5_write 21 = .ok (.sipush 200, 3) := by decide +kernel
theorem dX5_write_24 : decode cX5_write 24 = .ok (.if_icmp .le 6, 3) := by decide +kernel
theorem dX5_write_27 : decode cX5_write 27 = .ok (.bipush (-5), 2) := by decide +kernel
theorem dX5_write_29 : decode cX5_write 29 = .ok (.ireturn, 1) := by decide +kernel
theorem dX5_write_30 : decode cX5_write 30 = .ok (.iconst 0, 1) := by decide +kernel
theorem dX5_write_31 : decode cX5_write 31 = .ok (.istore 4, 2) := by decide +kernel
theorem dX5_write_33 : decode cX5_write 33 = .ok (.iload 4, 2) := by decide +kernel
theorem dX5_write_35 : decode cX5_write 35 = .ok (.iload_n 3, 1) := by decide +kernel
theorem dX5_write_36 : decode cX5_write 36 = .ok (.if_icmp .ge 40, 3) := by decide +kernel
theorem dX5_write_39 : decode cX5_write 39 = .ok (.aload_n 0, 1) := by decide +kernel
theorem dX5_write_40 : decode cX5_write 40 = .ok (.getfield 17, 3) := by decide +kernel
theorem dX5_write_43 : decode cX5_write 43 = .ok (.aload_n 0, 1) := by decide +kernel
theorem dX5_write_44 : decode cX5_write 44 = .ok (.getfield 51, 3) := by decide +kernel
theorem dX5_write_47 : decode cX5_write 47 = .ok (.lload_n 1, 1) := by decide +kernel
theorem dX5_write_48 : decode cX5_write 48 = .ok (.bipush 8, 2) := by decide +kernel
theorem dX5_write_50 : decode cX5_write 50 = .ok (.iload 4, 2) := by decide +kernel
theorem dX5_write_52 : decode cX5_write 52 = .ok (.imul, 1) := by decide +kernel
theorem dX5_write_53 : decode cX5_write 53 = .ok (.lshr, 1) := by decide +kernel
theorem dX5_write_54 : decode cX5_write 54 = .ok (.ldc2_w 54, 3) := by decide +kernel
theorem dX5_write_57 : decode cX5_write 57 = .ok (.land, 1) := by decide +kernel
theorem dX5_write_58 : decode cX5_write 58 = .ok (.l2i, 1) := by decide +kernel
theorem dX5_write_59 : decode cX5_write 59 = .ok (.iastore, 1) := by decide +kernel
theorem dX5_write_60 : decode cX5_write 60 = .ok (.aload_n 0, 1) := by decide +kernel
theorem dX5_write_61 : decode cX5_write 61 = .ok (.dup, 1) := by decide +kernel
theorem dX5_write_62 : decode cX5_write 62 = .ok (.getfield 51, 3) := by decide +kernel
theorem dX5_write_65 : decode cX5_write 65 = .ok (.iconst 1, 1) := by decide +kernel
theorem dX5_write_66 : decode cX5_write 66 = .ok (.iadd, 1) := by decide +kernel
theorem dX5_write_67 : decode cX5_write 67 = .ok (.putfield 51, 3) := by decide +kernel
theorem dX5_write_70 : decode cX5_write 70 = .ok (.iinc 4 1, 3) := by decide +kernel
theorem dX5_write_73 : decode cX5_write 73 = .ok (.goto (-40), 3) := by decide +kernel
theorem dX5_write_76 : decode cX5_write 76 = .ok (.aload_n 0, 1) := by decide +kernel
theorem dX5_write_77 : decode cX5_write 77 = .ok (.getfield 51, 3) := by decide +kernel
theorem dX5_write_80 : decode cX5_write 80 = .ok (.ireturn, 1) := by decide +kernel
theorem dX5_erase_0 : decode cX5_erase 0 = .ok (.aload_n 0, 1) := by decide +kernel
theorem dX5_erase_1 : decode cX5_erase 1 = .ok (.getfield 51, 3) := by decide +kernel
theorem dX5_erase_4 : decode cX5_erase 4 = .ok (.istore_n 1, 1) := by decide +kernel
theorem dX5_erase_5 : decode cX5_erase 5 = .ok (.aload_n 0, 1) := by decide +kernel
theorem dX5_erase_6 : decode cX5_erase 6 = .ok (.iconst 0, 1) := by decide +kernel
theorem dX5_erase_7 : decode cX5_erase 7 = .ok (.putfield 51, 3) := by decide +kernel
theorem dX5_erase_10 : decode cX5_erase 10 = .ok (.iload_n 1, 1) := by decide +kernel
theorem dX5_erase_11 : decode cX5_erase 11 = .ok (.ireturn, 1) := by decide +kernel
theorem dX5_sort_0 : decode cX5_sort 0 = .ok (.iload_n 0, 1) := by decide +kernel
theorem dX5_sort_1 : decode cX5_sort 1 = .ok (.bipush 97, 2) := by decide +kernel
theorem dX5_sort_3 : decode cX5_sort 3 = .ok (.if_icmp .lt 13, 3) := by decide +kernel
theorem dX5_sort_6 : decode cX5_sort 6 = .ok (.iload_n 0, 1) := by decide +kernel
theorem dX5_sort_7 : decode cX5_sort 7 = .ok (.bipush 122, 2) := by decide +kernel
theorem dX5_sort_9 : decode cX5_sort 9 = .ok (.if_icmp .gt 7, 3) := by decide +kernel
theorem dX5_sort_12 : decode cX5_sort 12 = .ok (.iconst 1, 1) := by decide +kernel
theorem dX5_sort_13 : decode cX5_sort 13 = .ok (.goto 20, 3) := by decide +kernel
theorem dX5_sort_16 : decode cX5_sort 16 = .ok (.iload_n 0, 1) := by decide +kernel
theorem dX5_sort_17 : decode cX5_sort 17 = .ok (.bipush 48, 2) := by decide +kernel
theorem dX5_sort_19 : decode cX5_sort 19 = .ok (.if_icmp .lt 13, 3) := by decide +kernel
theorem dX5_sort_22 : decode cX5_sort 22 = .ok (.iload_n 0, 1) := by decide +kernel
theorem dX5_sort_23 : decode cX5_sort 23 = .ok (.bipush 57, 2) := by decide +kernel
theorem dX5_sort_25 : decode cX5_sort 25 = .ok (.if_icmp .gt 7, 3) := by decide +kernel
theorem dX5_sort_28 : decode cX5_sort 28 = .ok (.iconst 2, 1) := by decide +kernel
theorem dX5_sort_29 : decode cX5_sort 29 = .ok (.goto 4, 3) := by decide +kernel
theorem dX5_sort_32 : decode cX5_sort 32 = .ok (.iconst 0, 1) := by decide +kernel
theorem dX5_sort_33 : decode cX5_sort 33 = .ok (.ireturn, 1) := by decide +kernel
theorem dX5_token_0 : decode cX5_token 0 = .ok (.aload_n 0, 1) := by decide +kernel
theorem dX5_token_1 : decode cX5_token 1 = .ok (.getfield 56, 3) := by decide +kernel
theorem dX5_token_4 : decode cX5_token 4 = .ok (.aload_n 0, 1) := by decide +kernel
theorem dX5_token_5 : decode cX5_token 5 = .ok (.getfield 51, 3) := by decide +kernel
theorem dX5_token_8 : decode cX5_token 8 = .ok (.if_icmp .ge 30, 3) := by decide +kernel
theorem dX5_token_11 : decode cX5_token 11 = .ok (.aload_n 0, 1) := by decide +kernel
theorem dX5_token_12 : decode cX5_token 12 = .ok (.getfield 17, 3) := by decide +kernel
theorem dX5_token_15 : decode cX5_token 15 = .ok (.aload_n 0, 1) := by decide +kernel
theorem dX5_token_16 : decode cX5_token 16 = .ok (.getfield 56, 3) := by decide +kernel
theorem dX5_token_19 : decode cX5_token 19 = .ok (.iaload, 1) := by decide +kernel
theorem dX5_token_20 : decode cX5_token 20 = .ok (.bipush 32, 2) := by decide +kernel
theorem dX5_token_22 : decode cX5_token 22 = .ok (.if_icmp .ne 16, 3) := by decide +kernel
theorem dX5_token_25 : decode cX5_token 25 = .ok (.aload_n 0, 1) := by decide +kernel
theorem dX5_token_26 : decode cX5_token 26 = .ok (.dup, 1) := by decide +kernel
theorem dX5_token_27 : decode cX5_token 27 = .ok (.getfield 56, 3) := by decide +kernel
theorem dX5_token_30 : decode cX5_token 30 = .ok (.iconst 1, 1) := by decide +kernel
theorem dX5_token_31 : decode cX5_token 31 = .ok (.iadd, 1) := by decide +kernel
theorem dX5_token_32 : decode cX5_token 32 = .ok (.putfield 56, 3) := by decide +kernel
theorem dX5_token_35 : decode cX5_token 35 = .ok (.goto (-35), 3) := by decide +kernel
theorem dX5_token_38 : decode cX5_token 38 = .ok (.aload_n 0, 1) := by decide +kernel
theorem dX5_token_39 : decode cX5_token 39 = .ok (.aload_n 0, 1) := by decide +kernel
theorem dX5_token_40 : decode cX5_token 40 = .ok (.getfield 56, 3) := by decide +kernel
theorem dX5_token_43 : decode cX5_token 43 = .ok (.putfield 59, 3) := by decide +kernel
theorem dX5_token_46 : decode cX5_token 46 = .ok (.aload_n 0, 1) := by decide +kernel
theorem dX5_token_47 : decode cX5_token 47 = .ok (.dup, 1) := by decide +kernel
theorem dX5_token_48 : decode cX5_token 48 = .ok (.getfield 56, 3) := by decide +kernel
theorem dX5_token_51 : decode cX5_token 51 = .ok (.aload_n 0, 1) := by decide +kernel
theorem dX5_token_52 : decode cX5_token 52 = .ok (.getfield 56, 3) := by decide +kernel
theorem dX5_token_55 : decode cX5_token 55 = .ok (.aload_n 0, 1) := by decide +kernel
theorem dX5_token_56 : decode cX5_token 56 = .ok (.getfield 51, 3) := by decide +kernel
theorem dX5_token_59 : decode cX5_token 59 = .ok (.if_icmp .ge 7, 3) := by decide +kernel
theorem dX5_token_62 : decode cX5_token 62 = .ok (.iconst 1, 1) := by decide +kernel
theorem dX5_token_63 : decode cX5_token 63 = .ok (.goto 4, 3) := by decide +kernel
theorem dX5_token_66 : decode cX5_token 66 = .ok (.iconst 0, 1) := by decide +kernel
theorem dX5_token_67 : decode cX5_token 67 = .ok (.iadd, 1) := by decide +kernel
theorem dX5_token_68 : decode cX5_token 68 = .ok (.putfield 56, 3) := by decide +kernel
theorem dX5_token_71 : decode cX5_token 71 = .ok (.aload_n 0, 1) := by decide +kernel
theorem dX5_token_72 : decode cX5_token 72 = .ok (.getfield 56, 3) := by decide +kernel
theorem dX5_token_75 : decode cX5_token 75 = .ok (.aload_n 0, 1) := by decide +kernel
theorem dX5_token_76 : decode cX5_token 76 = .ok (.getfield 51, 3) := by decide +kernel
theorem dX5_token_79 : decode cX5_token 79 = .ok (.if_icmp .ge 58, 3) := by decide +kernel
theorem dX5_token_82 : decode cX5_token 82 = .ok (.aload_n 0, 1) := by decide +kernel
theorem dX5_token_83 : decode cX5_token 83 = .ok (.getfield 17, 3) := by decide +kernel
theorem dX5_token_86 : decode cX5_token 86 = .ok (.aload_n 0, 1) := by decide +kernel
theorem dX5_token_87 : decode cX5_token 87 = .ok (.getfield 59, 3) := by decide +kernel
theorem dX5_token_90 : decode cX5_token 90 = .ok (.iaload, 1) := by decide +kernel
theorem dX5_token_91 : decode cX5_token 91 = .ok (.invokestatic 62, 3) := by decide +kernel
theorem dX5_token_94 : decode cX5_token 94 = .ok (.ifCond .le 43, 3) := by decide +kernel
theorem dX5_token_97 : decode cX5_token 97 = .ok (.aload_n 0, 1) := by decide +kernel
theorem dX5_token_98 : decode cX5_token 98 = .ok (.getfield 17, 3) := by decide +kernel
theorem dX5_token_101 : decode cX5_token 101 = .ok (.aload_n 0, 1) := by decide +kernel
theorem dX5_token_102 : decode cX5_token 102 = .ok (.getfield 56, 3) := by decide +kernel
theorem dX5_token_105 : decode cX5_token 105 = .ok (.iaload, 1) := by decide +kernel
theorem dX5_token_106 : decode cX5_token 106 = .ok (.invokestatic 62, 3) := by decide +kernel
theorem dX5_token_109 : decode cX5_token 109 = .ok (.aload_n 0, 1) := by decide +kernel
theorem dX5_token_110 : decode cX5_token 110 = .ok (.getfield 17, 3) := by decide +kernel
theorem dX5_token_113 : decode cX5_token 113 = .ok (.aload_n 0, 1) := by decide +kernel
theorem dX5_token_114 : decode cX5_token 114 = .ok (.getfield 59, 3) := by decide +kernel
theorem dX5_token_117 : decode cX5_token 117 = .ok (.iaload, 1) := by decide +kernel
theorem dX5_token_118 : decode cX5_token 118 = .ok (.invokestatic 62, 3) := by decide +kernel
theorem dX5_token_121 : decode cX5_token 121 = .ok (.if_icmp .ne 16, 3) := by decide +kernel
theorem dX5_token_124 : decode cX5_token 124 = .ok (.aload_n 0, 1) := by decide +kernel
theorem dX5_token_125 : decode cX5_token 125 = .ok (.dup, 1) := by decide +kernel
theorem dX5_token_126 : decode cX5_token 126 = .ok (.getfield 56, 3) := by decide +kernel
theorem dX5_token_129 : decode cX5_token 129 = .ok (.iconst 1, 1) := by decide +kernel
theorem dX5_token_130 : decode cX5_token 130 = .ok (.iadd, 1) := by decide +kernel
theorem dX5_token_131 : decode cX5_token 131 = .ok (.putfield 56, 3) := by decide +kernel
theorem dX5_token_134 : decode cX5_token 134 = .ok (.goto (-63), 3) := by decide +kernel
theorem dX5_token_137 : decode cX5_token 137 = .ok (.aload_n 0, 1) := by decide +kernel
theorem dX5_token_138 : decode cX5_token 138 = .ok (.aload_n 0, 1) := by decide +kernel
theorem dX5_token_139 : decode cX5_token 139 = .ok (.getfield 56, 3) := by decide +kernel
theorem dX5_token_142 : decode cX5_token 142 = .ok (.putfield 66, 3) := by decide +kernel
theorem dX5_token_145 : decode cX5_token 145 = .ok (.return_, 1) := by decide +kernel
theorem dX5_isWord_0 : decode cX5_isWord 0 = .ok (.aload_n 0, 1) := by decide +kernel
theorem dX5_isWord_1 : decode cX5_isWord 1 = .ok (.getfield 66, 3) := by decide +kernel
theorem dX5_isWord_4 : decode cX5_isWord 4 = .ok (.aload_n 0, 1) := by decide +kernel
theorem dX5_isWord_5 : decode cX5_isWord 5 = .ok (.getfield 59, 3) := by decide +kernel
theorem dX5_isWord_8 : decode cX5_isWord 8 = .ok (.isub, 1) := by decide +kernel
theorem dX5_isWord_9 : decode cX5_isWord 9 = .ok (.iload_n 2, 1) := by decide +kernel
theorem dX5_isWord_10 : decode cX5_isWord 10 = .ok (.if_icmp .ne 7, 3) := by decide +kernel
theorem dX5_isWord_13 : decode cX5_isWord 13 = .ok (.iconst 1, 1) := by decide +kernel
theorem dX5_isWord_14 : decode cX5_isWord 14 = .ok (.goto 4, 3) := by decide +kernel
theorem dX5_isWord_17 : decode cX5_isWord 17 = .ok (.iconst 0, 1) := by decide +kernel
theorem dX5_isWord_18 : decode cX5_isWord 18 = .ok (.istore_n 3, 1) := by decide +kernel
theorem dX5_isWord_19 : decode cX5_isWord 19 = .ok (.iconst 0, 1) := by decide +kernel
theorem dX5_isWord_20 : decode cX5_isWord 20 = .ok (.istore 4, 2) := by decide +kernel
theorem dX5_isWord_22 : decode cX5_isWord 22 = .ok (.iload_n 3, 1) := by decide +kernel
theorem dX5_isWord_23 : decode cX5_isWord 23 = .ok (.ifCond .eq 48, 3) := by decide +kernel
theorem dX5_isWord_26 : decode cX5_isWord 26 = .ok (.iload 4, 2) := by decide +kernel
theorem dX5_isWord_28 : decode cX5_isWord 28 = .ok (.iload_n 2, 1) := by decide +kernel
theorem dX5_isWord_29 : decode cX5_isWord 29 = .ok (.if_icmp .ge 42, 3) := by decide +kernel
theorem dX5_isWord_32 : decode cX5_isWord 32 = .ok (.aload_n 0, 1) := by decide +kernel
theorem dX5_isWord_33 : decode cX5_isWord 33 = .ok (.getfield 17, 3) := by decide +kernel
theorem dX5_isWord_36 : decode cX5_isWord 36 = .ok (.aload_n 0, 1) := by decide +kernel
theorem dX5_isWord_37 : decode cX5_isWord 37 = .ok (.getfield 59, 3) := by decide +kernel
theorem dX5_isWord_40 : decode cX5_isWord 40 = .ok (.iload 4, 2) := by decide +kernel
theorem dX5_isWord_42 : decode cX5_isWord 42 = .ok (.iadd, 1) := by decide +kernel
theorem dX5_isWord_43 : decode cX5_isWord 43 = .ok (.iaload, 1) := by decide +kernel
theorem dX5_isWord_44 : decode cX5_isWord 44 = .ok (.bipush 96, 2) := by decide +kernel
theorem dX5_isWord_46 : decode cX5_isWord 46 = .ok (.iload_n 1, 1) := by decide +kernel
theorem dX5_isWord_47 : decode cX5_isWord 47 = .ok (.iconst 5, 1) := by decide +kernel
theorem dX5_isWord_48 : decode cX5_isWord 48 = .ok (.iload 4, 2) := by decide +kernel
theorem dX5_isWord_50 : decode cX5_isWord 50 = .ok (.imul, 1) := by decide +kernel
theorem dX5_isWord_51 : decode cX5_isWord 51 = .ok (.ishr, 1) := by decide +kernel
theorem dX5_isWord_52 : decode cX5_isWord 52 = .ok (.bipush 31, 2) := by decide +kernel
theorem dX5_isWord_54 : decode cX5_isWord 54 = .ok (.iand, 1) := by decide +kernel
theorem dX5_isWord_55 : decode cX5_isWord 55 = .ok (.iadd, 1) := by decide +kernel
theorem dX5_isWord_56 : decode cX5_isWord 56 = .ok (.if_icmp .ne 7, 3) := by decide +kernel
theorem dX5_isWord_59 : decode cX5_isWord 59 = .ok (.iconst 1, 1) := by decide +kernel
theorem dX5_isWord_60 : decode cX5_isWord 60 = .ok (.goto 4, 3) := by decide +kernel
theorem dX5_isWord_63 : decode cX5_isWord 63 = .ok (.iconst 0, 1) := by decide +kernel
theorem dX5_isWord_64 : decode cX5_isWord 64 = .ok (.istore_n 3, 1) := by decide +kernel
theorem dX5_isWord_65 : decode cX5_isWord 65 = .ok (.iinc 4 1, 3) := by decide +kernel
theorem dX5_isWord_68 : decode cX5_isWord 68 = .ok (.goto (-46), 3) := by decide +kernel
theorem dX5_isWord_71 : decode cX5_isWord 71 = .ok (.iload_n 3, 1) := by decide +kernel
theorem dX5_isWord_72 : decode cX5_isWord 72 = .ok (.ireturn, 1) := by decide +kernel
theorem dX5_bandWord_0 : decode cX5_bandWord 0 = .ok (.aload_n 0, 1) := by decide +kernel
theorem dX5_bandWord_1 : decode cX5_bandWord 1 = .ok (.ldc 69, 2) := by decide +kernel
theorem dX5_bandWord_3 : decode cX5_bandWord 3 = .ok (.iconst 5, 1) := by decide +kernel
theorem dX5_bandWord_4 : decode cX5_bandWord 4 = .ok (.invokevirtual 70, 3) := by decide +kernel
theorem dX5_bandWord_7 : decode cX5_bandWord 7 = .ok (.ifCond .eq 7, 3) := by decide +kernel
theorem dX5_bandWord_10 : decode cX5_bandWord 10 = .ok (.iconst 3, 1) := by decide +kernel
theorem dX5_bandWord_11 : decode cX5_bandWord 11 = .ok (.goto 77, 3) := by decide +kernel
theorem dX5_bandWord_14 : decode cX5_bandWord 14 = .ok (.aload_n 0, 1) := by decide +kernel
theorem dX5_bandWord_15 : decode cX5_bandWord 15 = .ok (.ldc 74, 2) := by decide +kernel
theorem dX5_bandWord_17 : decode cX5_bandWord 17 = .ok (.iconst 5, 1) := by decide +kernel
theorem dX5_bandWord_18 : decode cX5_bandWord 18 = .ok (.invokevirtual 70, 3) := by decide +kernel
theorem dX5_bandWord_21 : decode cX5_bandWord 21 = .ok (.ifCond .eq 7, 3) := by decide +kernel
theorem dX5_bandWord_24 : decode cX5_bandWord 24 = .ok (.iconst 4, 1) := by decide +kernel
theorem dX5_bandWord_25 : decode cX5_bandWord 25 = .ok (.goto 63, 3) := by decide +kernel
theorem dX5_bandWord_28 : decode cX5_bandWord 28 = .ok (.aload_n 0, 1) := by decide +kernel
theorem dX5_bandWord_29 : decode cX5_bandWord 29 = .ok (.ldc 75, 2) := by decide +kernel
theorem dX5_bandWord_31 : decode cX5_bandWord 31 = .ok (.iconst 5, 1) := by decide +kernel
theorem dX5_bandWord_32 : decode cX5_bandWord 32 = .ok (.invokevirtual 70, 3) := by decide +kernel
theorem dX5_bandWord_35 : decode cX5_bandWord 35 = .ok (.ifCond .eq 7, 3) := by decide +kernel
theorem dX5_bandWord_38 : decode cX5_bandWord 38 = .ok (.iconst 5, 1) := by decide +kernel
theorem dX5_bandWord_39 : decode cX5_bandWord 39 = .ok (.goto 49, 3) := by decide +kernel
theorem dX5_bandWord_42 : decode cX5_bandWord 42 = .ok (.aload_n 0, 1) := by decide +kernel
theorem dX5_bandWord_43 : decode cX5_bandWord 43 = .ok (.ldc 76, 2) := by decide +kernel
theorem dX5_bandWord_45 : decode cX5_bandWord 45 = .ok (.iconst 4, 1) := by decide +kernel
theorem dX5_bandWord_46 : decode cX5_bandWord 46 = .ok (.invokevirtual 70, 3) := by decide +kernel
theorem dX5_bandWord_49 : decode cX5_bandWord 49 = .ok (.ifCond .eq 8, 3) := by decide +kernel
theorem dX5_bandWord_52 : decode cX5_bandWord 52 = .ok (.bipush 6, 2) := by decide +kernel
theorem dX5_bandWord_54 : decode cX5_bandWord 54 = .ok (.goto 34, 3) := by decide +kernel
theorem dX5_bandWord_57 : decode cX5_bandWord 57 = .ok (.aload_n 0, 1) := by decide +kernel
theorem dX5_bandWord_58 : decode cX5_bandWord 58 = .ok (.ldc 77, 2) := by decide +kernel
theorem dX5_bandWord_60 : decode cX5_bandWord 60 = .ok (.iconst 5, 1) := by decide +kernel
theorem dX5_bandWord_61 : decode cX5_bandWord 61 = .ok (.invokevirtual 70, 3) := by decide +kernel
theorem dX5_bandWord_64 : decode cX5_bandWord 64 = .ok (.ifCond .eq 8, 3) := by decide +kernel
theorem dX5_bandWord_67 : decode cX5_bandWord 67 = .ok (.bipush 7, 2) := by decide +kernel
theorem dX5_bandWord_69 : decode cX5_bandWord 69 = .ok (.goto 19, 3) := by decide +kernel
theorem dX5_bandWord_72 : decode cX5_bandWord 72 = .ok (.aload_n 0, 1) := by decide +kernel
theorem dX5_bandWord_73 : decode cX5_bandWord 73 = .ok (.ldc 78, 2) := by decide +kernel
theorem dX5_bandWord_75 : decode cX5_bandWord 75 = .ok (.iconst 4, 1) := by decide +kernel
theorem dX5_bandWord_76 : decode cX5_bandWord 76 = .ok (.invokevirtual 70, 3) := by decide +kernel
theorem dX5_bandWord_79 : decode cX5_bandWord 79 = .ok (.ifCond .eq 8, 3) := by decide +kernel
theorem dX5_bandWord_82 : decode cX5_bandWord 82 = .ok (.bipush 8, 2) := by decide +kernel
theorem dX5_bandWord_84 : decode cX5_bandWord 84 = .ok (.goto 4, 3) := by decide +kernel
theorem dX5_bandWord_87 : decode cX5_bandWord 87 = .ok (.iconst (-1), 1) := by decide +kernel
theorem dX5_bandWord_88 : decode cX5_bandWord 88 = .ok (.ireturn, 1) := by decide +kernel
theorem dX5_wordOf_0 : decode cX5_wordOf 0 = .ok (.aload_n 0, 1) := by decide +kernel
theorem dX5_wordOf_1 : decode cX5_wordOf 1 = .ok (.invokevirtual 79, 3) := by decide +kernel
theorem dX5_wordOf_4 : decode cX5_wordOf 4 = .ok (.istore_n 1, 1) := by decide +kernel
theorem dX5_wordOf_5 : decode cX5_wordOf 5 = .ok (.iload_n 1, 1) := by decide +kernel
theorem dX5_wordOf_6 : decode cX5_wordOf 6 = .ok (.iconst (-1), 1) := by decide +kernel
theorem dX5_wordOf_7 : decode cX5_wordOf 7 = .ok (.if_icmp .eq 7, 3) := by decide +kernel
theorem dX5_wordOf_10 : decode cX5_wordOf 10 = .ok (.iload_n 1, 1) := by decide +kernel
theorem dX5_wordOf_11 : decode cX5_wordOf 11 = .ok (.goto 91, 3) := by decide +kernel
theorem dX5_wordOf_14 : decode cX5_wordOf 14 = .ok (.aload_n 0, 1) := by decide +kernel
theorem dX5_wordOf_15 : decode cX5_wordOf 15 = .ok (.ldc 83, 2) := by decide +kernel
theorem dX5_wordOf_17 : decode cX5_wordOf 17 = .ok (.iconst 4, 1) := by decide +kernel
theorem dX5_wordOf_18 : decode cX5_wordOf 18 = .ok (.invokevirtual 70, 3) := by decide +kernel
theorem dX5_wordOf_21 : decode cX5_wordOf 21 = .ok (.ifCond .eq 7, 3) := by decide +kernel
theorem dX5_wordOf_24 : decode cX5_wordOf 24 = .ok (.iconst 0, 1) := by decide +kernel
theorem dX5_wordOf_25 : decode cX5_wordOf 25 = .ok (.goto 77, 3) := by decide +kernel
theorem dX5_wordOf_28 : decode cX5_wordOf 28 = .ok (.aload_n 0, 1) := by decide +kernel
theorem dX5_wordOf_29 : decode cX5_wordOf 29 = .ok (.ldc 84, 2) := by decide +kernel
theorem dX5_wordOf_31 : decode cX5_wordOf 31 = .ok (.iconst 4, 1) := by decide +kernel
theorem dX5_wordOf_32 : decode cX5_wordOf 32 = .ok (.invokevirtual 70, 3) := by decide +kernel
theorem dX5_wordOf_35 : decode cX5_wordOf 35 = .ok (.ifCond .eq 7, 3) := by decide +kernel
theorem dX5_wordOf_38 : decode cX5_wordOf 38 = .ok (.iconst 1, 1) := by decide +kernel
theorem dX5_wordOf_39 : decode cX5_wordOf 39 = .ok (.goto 63, 3) := by decide +kernel
theorem dX5_wordOf_42 : decode cX5_wordOf 42 = .ok (.aload_n 0, 1) := by decide +kernel
theorem dX5_wordOf_43 : decode cX5_wordOf 43 = .ok (.ldc 85, 2) := by decide +kernel
theorem dX5_wordOf_45 : decode cX5_wordOf 45 = .ok (.iconst 5, 1) := by decide +kernel
theorem dX5_wordOf_46 : decode cX5_wordOf 46 = .ok (.invokevirtual 70, 3) := by decide +kernel
theorem dX5_wordOf_49 : decode cX5_wordOf 49 = .ok (.ifCond .eq 7, 3) := by decide +kernel
theorem dX5_wordOf_52 : decode cX5_wordOf 52 = .ok (.iconst 2, 1) := by decide +kernel
theorem dX5_wordOf_53 : decode cX5_wordOf 53 = .ok (.goto 49, 3) := by decide +kernel
theorem dX5_wordOf_56 : decode cX5_wordOf 56 = .ok (.aload_n 0, 1) := by decide +kernel
theorem dX5_wordOf_57 : decode cX5_wordOf 57 = .ok (.ldc 86, 2) := by decide +kernel
theorem dX5_wordOf_59 : decode cX5_wordOf 59 = .ok (.iconst 5, 1) := by decide +kernel
theorem dX5_wordOf_60 : decode cX5_wordOf 60 = .ok (.invokevirtual 70, 3) := by decide +kernel
theorem dX5_wordOf_63 : decode cX5_wordOf 63 = .ok (.ifCond .eq 8, 3) := by decide +kernel
theorem dX5_wordOf_66 : decode cX5_wordOf 66 = .ok (.bipush 9, 2) := by decide +kernel
theorem dX5_wordOf_68 : decode cX5_wordOf 68 = .ok (.goto 34, 3) := by decide +kernel
theorem dX5_wordOf_71 : decode cX5_wordOf 71 = .ok (.aload_n 0, 1) := by decide +kernel
theorem dX5_wordOf_72 : decode cX5_wordOf 72 = .ok (.ldc 87, 2) := by decide +kernel
theorem dX5_wordOf_74 : decode cX5_wordOf 74 = .ok (.iconst 4, 1) := by decide +kernel
theorem dX5_wordOf_75 : decode cX5_wordOf 75 = .ok (.invokevirtual 70, 3) := by decide +kernel
theorem dX5_wordOf_78 : decode cX5_wordOf 78 = .ok (.ifCond .eq 8, 3) := by decide +kernel
theorem dX5_wordOf_81 : decode cX5_wordOf 81 = .ok (.bipush 10, 2) := by decide +kernel
theorem dX5_wordOf_83 : decode cX5_wordOf 83 = .ok (.goto 19, 3) := by decide +kernel
theorem dX5_wordOf_86 : decode cX5_wordOf 86 = .ok (.aload_n 0, 1) := by decide +kernel
theorem dX5_wordOf_87 : decode cX5_wordOf 87 = .ok (.ldc 88, 2) := by decide +kernel
theorem dX5_wordOf_89 : decode cX5_wordOf 89 = .ok (.iconst 5, 1) := by decide +kernel
theorem dX5_wordOf_90 : decode cX5_wordOf 90 = .ok (.invokevirtual 70, 3) := by decide +kernel
theorem dX5_wordOf_93 : decode cX5_wordOf 93 = .ok (.ifCond .eq 8, 3) := by decide +kernel
theorem dX5_wordOf_96 : decode cX5_wordOf 96 = .ok (.bipush 11, 2) := by decide +kernel
theorem dX5_wordOf_98 : decode cX5_wordOf 98 = .ok (.goto 4, 3) := by decide +kernel
theorem dX5_wordOf_101 : decode cX5_wordOf 101 = .ok (.iconst (-1), 1) := by decide +kernel
theorem dX5_wordOf_102 : decode cX5_wordOf 102 = .ok (.ireturn, 1) := by decide +kernel
theorem dX5_numberHere_0 : decode cX5_numberHere 0 = .ok (.aload_n 0, 1) := by decide +kernel
theorem dX5_numberHere_1 : decode cX5_numberHere 1 = .ok (.getfield 59, 3) := by decide +kernel
theorem dX5_numberHere_4 : decode cX5_numberHere 4 = .ok (.aload_n 0, 1) := by decide +kernel
theorem dX5_numberHere_5 : decode cX5_numberHere 5 = .ok (.getfield 51, 3) := by decide +kernel
theorem dX5_numberHere_8 : decode cX5_numberHere 8 = .ok (.if_icmp .eq 32, 3) := by decide +kernel
theorem dX5_numberHere_11 : decode cX5_numberHere 11 = .ok (.aload_n 0, 1) := by decide +kernel
theorem dX5_numberHere_12 : decode cX5_numberHere 12 = .ok (.getfield 17, 3) := by decide +kernel
theorem dX5_numberHere_15 : decode cX5_numberHere 15 = .ok (.aload_n 0, 1) := by decide +kernel
theorem dX5_numberHere_16 : decode cX5_numberHere 16 = .ok (.getfield 59, 3) := by decide +kernel
theorem dX5_numberHere_19 : decode cX5_numberHere 19 = .ok (.iaload, 1) := by decide +kernel
theorem dX5_numberHere_20 : decode cX5_numberHere 20 = .ok (.invokestatic 62, 3) := by decide +kernel
theorem dX5_numberHere_23 : decode cX5_numberHere 23 = .ok (.iconst 2, 1) := by decide +kernel
theorem dX5_numberHere_24 : decode cX5_numberHere 24 = .ok (.if_icmp .ne 16, 3) := by decide +kernel
theorem dX5_numberHere_27 : decode cX5_numberHere 27 = .ok (.aload_n 0, 1) := by decide +kernel
theorem dX5_numberHere_28 : decode cX5_numberHere 28 = .ok (.getfield 66, 3) := by decide +kernel
theorem dX5_numberHere_31 : decode cX5_numberHere 31 = .ok (.aload_n 0, 1) := by decide +kernel
theorem dX5_numberHere_32 : decode cX5_numberHere 32 = .ok (.getfield 59, 3) := by decide +kernel
theorem dX5_numberHere_35 : decode cX5_numberHere 35 = .ok (.isub, 1) := by decide +kernel
theorem dX5_numberHere_36 : decode cX5_numberHere 36 = .ok (.iconst 2, 1) := by decide +kernel
theorem dX5_numberHere_37 : decode cX5_numberHere 37 = .ok (.if_icmp .le 5, 3) := by decide +kernel
theorem dX5_numberHere_40 : decode cX5_numberHere 40 = .ok (.iconst (-1), 1) := by decide +kernel
theorem dX5_numberHere_41 : decode cX5_numberHere 41 = .ok (.ireturn, 1) := by decide +kernel
theorem dX5_numberHere_42 : decode cX5_numberHere 42 = .ok (.iconst 0, 1) := by decide +kernel
theorem dX5_numberHere_43 : decode cX5_numberHere 43 = .ok (.istore_n 1, 1) := by decide +kernel
theorem dX5_numberHere_44 : decode cX5_numberHere 44 = .ok (.aload_n 0, 1) := by decide +kernel
theorem dX5_numberHere_45 : decode cX5_numberHere 45 = .ok (.getfield 59, 3) := by decide +kernel
theorem dX5_numberHere_48 : decode cX5_numberHere 48 = .ok (.istore_n 2, 1) := by decide +kernel
theorem dX5_numberHere_49 : decode cX5_numberHere 49 = .ok (.iload_n 2, 1) := by decide +kernel
theorem dX5_numberHere_50 : decode cX5_numberHere 50 = .ok (.aload_n 0, 1) := by decide +kernel
theorem dX5_numberHere_51 : decode cX5_numberHere 51 = .ok (.getfield 66, 3) := by decide +kernel
theorem dX5_numberHere_54 : decode cX5_numberHere 54 = .ok (.if_icmp .ge 24, 3) := by decide +kernel
theorem dX5_numberHere_57 : decode cX5_numberHere 57 = .ok (.bipush 10, 2) := by decide +kernel
theorem dX5_numberHere_59 : decode cX5_numberHere 59 = .ok (.iload_n 1, 1) := by decide +kernel
theorem dX5_numberHere_60 : decode cX5_numberHere 60 = .ok (.imul, 1) := by decide +kernel
theorem dX5_numberHere_61 : decode cX5_numberHere 61 = .ok (.aload_n 0, 1) := by decide +kernel
theorem dX5_numberHere_62 : decode cX5_numberHere 62 = .ok (.getfield 17, 3) := by decide +kernel
theorem dX5_numberHere_65 : decode cX5_numberHere 65 = .ok (.iload_n 2, 1) := by decide +kernel
theorem dX5_numberHere_66 : decode cX5_numberHere 66 = .ok (.iaload, 1) := by decide +kernel
theorem dX5_numberHere_67 : decode cX5_numberHere 67 = .ok (.iadd, 1) := by decide +kernel
theorem dX5_numberHere_68 : decode cX5_numberHere 68 = .ok (.bipush 48, 2) := by decide +kernel
theorem dX5_numberHere_70 : decode cX5_numberHere 70 = .ok (.isub, 1) := by decide +kernel
theorem dX5_numberHere_71 : decode cX5_numberHere 71 = .ok (.istore_n 1, 1) := by decide +kernel
theorem dX5_numberHere_72 : decode cX5_numberHere 72 = .ok (.iinc 2 1, 3) := by decide +kernel
theorem dX5_numberHere_75 : decode cX5_numberHere 75 = .ok (.goto (-26), 3) := by decide +kernel
theorem dX5_numberHere_78 : decode cX5_numberHere 78 = .ok (.iload_n 1, 1) := by decide +kernel
theorem dX5_numberHere_79 : decode cX5_numberHere 79 = .ok (.ireturn, 1) := by decide +kernel
theorem dX5_reads_0 : decode cX5_reads 0 = .ok (.aload_n 0, 1) := by decide +kernel
theorem dX5_reads_1 : decode cX5_reads 1 = .ok (.invokevirtual 89, 3) := by decide +kernel
theorem dX5_reads_4 : decode cX5_reads 4 = .ok (.istore 4, 2) := by decide +kernel
theorem dX5_reads_6 : decode cX5_reads 6 = .ok (.iload 4, 2) := by decide +kernel
theorem dX5_reads_8 : decode cX5_reads 8 = .ok (.i2l, 1) := by decide +kernel
theorem dX5_reads_9 : decode cX5_reads 9 = .ok (.iload_n 2, 1) := by decide +kernel
theorem dX5_reads_10 : decode cX5_reads 10 = .ok (.i2l, 1) := by decide +kernel
theorem dX5_reads_11 : decode cX5_reads 11 = .ok (.iload_n 3, 1) := by decide +kernel
theorem dX5_reads_12 : decode cX5_reads 12 = .ok (.i2l, 1) := by decide +kernel
theorem dX5_reads_13 : decode cX5_reads 13 = .ok (.invokestatic 47, 3) := by decide +kernel
theorem dX5_reads_16 : decode cX5_reads 16 = .ok (.ifCond .ne 5, 3) := by decide +kernel
theorem dX5_reads_19 : decode cX5_reads 19 = .ok (.iconst 0, 1) := by decide +kernel
theorem dX5_reads_20 : decode cX5_reads 20 = .ok (.ireturn, 1) := by decide +kernel
theorem dX5_reads_21 : decode cX5_reads 21 = .ok (.aload_n 0, 1) := by decide +kernel
theorem dX5_reads_22 : decode cX5_reads 22 = .ok (.getfield 20, 3) := by decide +kernel
theorem dX5_reads_25 : decode cX5_reads 25 = .ok (.iconst 5, 1) := by decide +kernel
theorem dX5_reads_26 : decode cX5_reads 26 = .ok (.aload_n 0, 1) := by decide +kernel
theorem dX5_reads_27 : decode cX5_reads 27 = .ok (.getfield 92, 3) := by decide +kernel
theorem dX5_reads_30 : decode cX5_reads 30 = .ok (.imul, 1) := by decide +kernel
theorem dX5_reads_31 : decode cX5_reads 31 = .ok (.iconst 1, 1) := by decide +kernel
theorem dX5_reads_32 : decode cX5_reads 32 = .ok (.iadd, 1) := by decide +kernel
theorem dX5_reads_33 : decode cX5_reads 33 = .ok (.iload_n 1, 1) := by decide +kernel
theorem dX5_reads_34 : decode cX5_reads 34 = .ok (.iadd, 1) := by decide +kernel
theorem dX5_reads_35 : decode cX5_reads 35 = .ok (.iload 4, 2) := by decide +kernel
theorem dX5_reads_37 : decode cX5_reads 37 = .ok (.iastore, 1) := by decide +kernel
theorem dX5_reads_38 : decode cX5_reads 38 = .ok (.aload_n 0, 1) := by decide +kernel
theorem dX5_reads_39 : decode cX5_reads 39 = .ok (.invokevirtual 95, 3) := by decide +kernel
theorem dX5_reads_42 : decode cX5_reads 42 = .ok (.iconst 1, 1) := by decide +kernel
theorem dX5_reads_43 : decode cX5_reads 43 = .ok (.ireturn, 1) := by decide +kernel
theorem dX5_readsHedge_0 : decode cX5_readsHedge 0 = .ok (.aload_n 0, 1) := by decide +kernel
theorem dX5_readsHedge_1 : decode cX5_readsHedge 1 = .ok (.invokevirtual 89, 3) := by decide +kernel
theorem dX5_readsHedge_4 : decode cX5_readsHedge 4 = .ok (.istore_n 1, 1) := by decide +kernel
theorem dX5_readsHedge_5 : decode cX5_readsHedge 5 = .ok (.iload_n 1, 1) := by decide +kernel
theorem dX5_readsHedge_6 : decode cX5_readsHedge 6 = .ok (.i2l, 1) := by decide +kernel
theorem dX5_readsHedge_7 : decode cX5_readsHedge 7 = .ok (.lconst 0, 1) := by decide +kernel
theorem dX5_readsHedge_8 : decode cX5_readsHedge 8 = .ok (.aload_n 0, 1) := by decide +kernel
theorem dX5_readsHedge_9 : decode cX5_readsHedge 9 = .ok (.getfield 98, 3) := by decide +kernel
theorem dX5_readsHedge_12 : decode cX5_readsHedge 12 = .ok (.iconst 1, 1) := by decide +kernel
theorem dX5_readsHedge_13 : decode cX5_readsHedge 13 = .ok (.isub, 1) := by decide +kernel
theorem dX5_readsHedge_14 : decode cX5_readsHedge 14 = .ok (.i2l, 1) := by decide +kernel
theorem dX5_readsHedge_15 : decode cX5_readsHedge 15 = .ok (.invokestatic 47, 3) := by decide +kernel
theorem dX5_readsHedge_18 : decode cX5_readsHedge 18 = .ok (.ifCond .eq 33, 3) := by decide +kernel
theorem dX5_readsHedge_21 : decode cX5_readsHedge 21 = .ok (.aload_n 0, 1) := by decide +kernel
theorem dX5_readsHedge_22 : decode cX5_readsHedge 22 = .ok (.getfield 101, 3) := by decide +kernel
theorem dX5_readsHedge_25 : decode cX5_readsHedge 25 = .ok (.iload_n 1, 1) := by decide +kernel
theorem dX5_readsHedge_26 : decode cX5_readsHedge 26 = .ok (.invokestatic 105, 3) := by decide +kernel
theorem dX5_readsHedge_29 : decode cX5_readsHedge 29 = .ok (.ifCond .ne 22, 3) := by decide +kernel
theorem dX5_readsHedge_32 : decode cX5_readsHedge 32 = .ok (.aload_n 0, 1) := by decide +kernel
theorem dX5_readsHedge_33 : decode cX5_readsHedge 33 = .ok (.iconst 0, 1) := by decide +kernel
theorem dX5_readsHedge_34 : decode cX5_readsHedge 34 = .ok (.iconst 0, 1) := by decide +kernel
theorem dX5_readsHedge_35 : decode cX5_readsHedge 35 = .ok (.aload_n 0, 1) := by decide +kernel
theorem dX5_readsHedge_36 : decode cX5_readsHedge 36 = .ok (.getfield 98, 3) := by decide +kernel
theorem dX5_readsHedge_39 : decode cX5_readsHedge 39 = .ok (.iconst 1, 1) := by decide +kernel
theorem dX5_readsHedge_40 : decode cX5_readsHedge 40 = .ok (.isub, 1) := by decide +kernel
theorem dX5_readsHedge_41 : decode cX5_readsHedge 41 = .ok (.invokevirtual 109, 3) := by decide +kernel
theorem dX5_readsHedge_44 : decode cX5_readsHedge 44 = .ok (.ifCond .eq 7, 3) := by decide +kernel
theorem dX5_readsHedge_47 : decode cX5_readsHedge 47 = .ok (.iconst 1, 1) := by decide +kernel
theorem dX5_readsHedge_48 : decode cX5_readsHedge 48 = .ok (.goto 4, 3) := by decide +kernel
theorem dX5_readsHedge_51 : decode cX5_readsHedge 51 = .ok (.iconst 0, 1) := by decide +kernel
theorem dX5_readsHedge_52 : decode cX5_readsHedge 52 = .ok (.ireturn, 1) := by decide +kernel
theorem dX5_readsRest_0 : decode cX5_readsRest 0 = .ok (.iconst 5, 1) := by decide +kernel
theorem dX5_readsRest_1 : decode cX5_readsRest 1 = .ok (.aload_n 0, 1) := by decide +kernel
theorem dX5_readsRest_2 : decode cX5_readsRest 2 = .ok (.getfield 92, 3) := by decide +kernel
theorem dX5_readsRest_5 : decode cX5_readsRest 5 = .ok (.imul, 1) := by decide +kernel
theorem dX5_readsRest_6 : decode cX5_readsRest 6 = .ok (.iconst 1, 1) := by decide +kernel
theorem dX5_readsRest_7 : decode cX5_readsRest 7 = .ok (.iadd, 1) := by decide +kernel
theorem dX5_readsRest_8 : decode cX5_readsRest 8 = .ok (.istore_n 2, 1) := by decide +kernel
theorem dX5_readsRest_9 : decode cX5_readsRest 9 = .ok (.aload_n 0, 1) := by decide +kernel
theorem dX5_readsRest_10 : decode cX5_readsRest 10 = .ok (.getfield 98, 3) := by decide +kernel
theorem dX5_readsRest_13 : decode cX5_readsRest 13 = .ok (.iconst 1, 1) := by decide +kernel
theorem dX5_readsRest_14 : decode cX5_readsRest 14 = .ok (.isub, 1) := by decide +kernel
theorem dX5_readsRest_15 : decode cX5_readsRest 15 = .ok (.istore_n 3, 1) := by decide +kernel
theorem dX5_readsRest_16 : decode cX5_readsRest 16 = .ok (.iload_n 1, 1) := by decide +kernel
theorem dX5_readsRest_17 : decode cX5_readsRest 17 = .ok (.tableswitch 228 0 11 #[63, 91, 100, 228, 228, 228, 228, 127, 159, 190, 195, 226], 63) := by decide +kernel
theorem dX5_readsRest_80 : decode cX5_readsRest 80 = .ok (.aload_n 0, 1) := by decide +kernel
theorem dX5_readsRest_81 : decode cX5_readsRest 81 = .ok (.iconst 0, 1) := by decide +kernel
theorem dX5_readsRest_82 : decode cX5_readsRest 82 = .ok (.iconst 2, 1) := by decide +kernel
theorem dX5_readsRest_83 : decode cX5_readsRest 83 = .ok (.bipush 6, 2) := by decide +kernel
theorem dX5_readsRest_85 : decode cX5_readsRest 85 = .ok (.invokevirtual 109, 3) := by decide +kernel
theorem dX5_readsRest_88 : decode cX5_readsRest 88 = .ok (.ifCond .eq 18, 3) := by decide +kernel
theorem dX5_readsRest_91 : decode cX5_readsRest 91 = .ok (.aload_n 0, 1) := by decide +kernel
theorem dX5_readsRest_92 : decode cX5_readsRest 92 = .ok (.iconst 1, 1) := by decide +kernel
theorem dX5_readsRest_93 : decode cX5_readsRest 93 = .ok (.iconst 2, 1) := by decide +kernel
theorem dX5_readsRest_94 : decode cX5_readsRest 94 = .ok (.bipush 6, 2) := by decide +kernel
theorem dX5_readsRest_96 : decode cX5_readsRest 96 = .ok (.invokevirtual 109, 3) := by decide +kernel
theorem dX5_readsRest_99 : decode cX5_readsRest 99 = .ok (.ifCond .eq 7, 3) := by decide +kernel
theorem dX5_readsRest_102 : decode cX5_readsRest 102 = .ok (.iconst 1, 1) := by decide +kernel
theorem dX5_readsRest_103 : decode cX5_readsRest 103 = .ok (.goto 4, 3) := by decide +kernel
theorem dX5_readsRest_106 : decode cX5_readsRest 106 = .ok (.iconst 0, 1) := by decide +kernel
theorem dX5_readsRest_107 : decode cX5_readsRest 107 = .ok (.ireturn, 1) := by decide +kernel
theorem dX5_readsRest_108 : decode cX5_readsRest 108 = .ok (.aload_n 0, 1) := by decide +kernel
theorem dX5_readsRest_109 : decode cX5_readsRest 109 = .ok (.iconst 0, 1) := by decide +kernel
theorem dX5_readsRest_110 : decode cX5_readsRest 110 = .ok (.iconst 1, 1) := by decide +kernel
theorem dX5_readsRest_111 : decode cX5_readsRest 111 = .ok (.bipush 9, 2) := by decide +kernel
theorem dX5_readsRest_113 : decode cX5_readsRest 113 = .ok (.invokevirtual 109, 3) := by decide +kernel
theorem dX5_readsRest_116 : decode cX5_readsRest 116 = .ok (.ireturn, 1) := by decide +kernel
theorem dX5_readsRest_117 : decode cX5_readsRest 117 = .ok (.aload_n 0, 1) := by decide +kernel
theorem dX5_readsRest_118 : decode cX5_readsRest 118 = .ok (.iconst 0, 1) := by decide +kernel
theorem dX5_readsRest_119 : decode cX5_readsRest 119 = .ok (.iconst 0, 1) := by decide +kernel
theorem dX5_readsRest_120 : decode cX5_readsRest 120 = .ok (.iload_n 3, 1) := by decide +kernel
theorem dX5_readsRest_121 : decode cX5_readsRest 121 = .ok (.invokevirtual 109, 3) := by decide +kernel
theorem dX5_readsRest_124 : decode cX5_readsRest 124 = .ok (.ifCond .eq 18, 3) := by decide +kernel
theorem dX5_readsRest_127 : decode cX5_readsRest 127 = .ok (.aload_n 0, 1) := by decide +kernel
theorem dX5_readsRest_128 : decode cX5_readsRest 128 = .ok (.iconst 1, 1) := by decide +kernel
theorem dX5_readsRest_129 : decode cX5_readsRest 129 = .ok (.iconst 0, 1) := by decide +kernel
theorem dX5_readsRest_130 : decode cX5_readsRest 130 = .ok (.bipush 99, 2) := by decide +kernel
theorem dX5_readsRest_132 : decode cX5_readsRest 132 = .ok (.invokevirtual 109, 3) := by decide +kernel
theorem dX5_readsRest_135 : decode cX5_readsRest 135 = .ok (.ifCond .eq 7, 3) := by decide +kernel
theorem dX5_readsRest_138 : decode cX5_readsRest 138 = .ok (.iconst 1, 1) := by decide +kernel
theorem dX5_readsRest_139 : decode cX5_readsRest 139 = .ok (.goto 4, 3) := by decide +kernel
theorem dX5_readsRest_142 : decode cX5_readsRest 142 = .ok (.iconst 0, 1) := by decide +kernel
theorem dX5_readsRest_143 : decode cX5_readsRest 143 = .ok (.ireturn, 1) := by decide +kernel
theorem dX5_readsRest_144 : decode cX5_readsRest 144 = .ok (.aload_n 0, 1) := by decide +kernel
theorem dX5_readsRest_145 : decode cX5_readsRest 145 = .ok (.iconst 0, 1) := by decide +kernel
theorem dX5_readsRest_146 : decode cX5_readsRest 146 = .ok (.iconst 0, 1) := by decide +kernel
theorem dX5_readsRest_147 : decode cX5_readsRest 147 = .ok (.aload_n 0, 1) := by decide +kernel
theorem dX5_readsRest_148 : decode cX5_readsRest 148 = .ok (.getfield 113, 3) := by decide +kernel
theorem dX5_readsRest_151 : decode cX5_readsRest 151 = .ok (.iconst 1, 1) := by decide +kernel
theorem dX5_readsRest_152 : decode cX5_readsRest 152 = .ok (.isub, 1) := by decide +kernel
theorem dX5_readsRest_153 : decode cX5_readsRest 153 = .ok (.invokevirtual 109, 3) := by decide +kernel
theorem dX5_readsRest_156 : decode cX5_readsRest 156 = .ok (.ifCond .eq 18, 3) := by decide +kernel
theorem dX5_readsRest_159 : decode cX5_readsRest 159 = .ok (.aload_n 0, 1) := by decide +kernel
theorem dX5_readsRest_160 : decode cX5_readsRest 160 = .ok (.iconst 1, 1) := by decide +kernel
theorem dX5_readsRest_161 : decode cX5_readsRest 161 = .ok (.iconst 0, 1) := by decide +kernel
theorem dX5_readsRest_162 : decode cX5_readsRest 162 = .ok (.bipush 99, 2) := by decide +kernel
theorem dX5_readsRest_164 : decode cX5_readsRest 164 = .ok (.invokevirtual 109, 3) := by decide +kernel
theorem dX5_readsRest_167 : decode cX5_readsRest 167 = .ok (.ifCond .eq 7, 3) := by decide +kernel
theorem dX5_readsRest_170 : decode cX5_readsRest 170 = .ok (.iconst 1, 1) := by decide +kernel
theorem dX5_readsRest_171 : decode cX5_readsRest 171 = .ok (.goto 4, 3) := by decide +kernel
theorem dX5_readsRest_174 : decode cX5_readsRest 174 = .ok (.iconst 0, 1) := by decide +kernel
theorem dX5_readsRest_175 : decode cX5_readsRest 175 = .ok (.ireturn, 1) := by decide +kernel
theorem dX5_readsRest_176 : decode cX5_readsRest 176 = .ok (.aload_n 0, 1) := by decide +kernel
theorem dX5_readsRest_177 : decode cX5_readsRest 177 = .ok (.iconst 0, 1) := by decide +kernel
theorem dX5_readsRest_178 : decode cX5_readsRest 178 = .ok (.iconst 0, 1) := by decide +kernel
theorem dX5_readsRest_179 : decode cX5_readsRest 179 = .ok (.aload_n 0, 1) := by decide +kernel
theorem dX5_readsRest_180 : decode cX5_readsRest 180 = .ok (.getfield 113, 3) := by decide +kernel
theorem dX5_readsRest_183 : decode cX5_readsRest 183 = .ok (.iconst 1, 1) := by decide +kernel
theorem dX5_readsRest_184 : decode cX5_readsRest 184 = .ok (.isub, 1) := by decide +kernel
theorem dX5_readsRest_185 : decode cX5_readsRest 185 = .ok (.invokevirtual 109, 3) := by decide +kernel
theorem dX5_readsRest_188 : decode cX5_readsRest 188 = .ok (.ifCond .eq 17, 3) := by decide +kernel
theorem dX5_readsRest_191 : decode cX5_readsRest 191 = .ok (.aload_n 0, 1) := by decide +kernel
theorem dX5_readsRest_192 : decode cX5_readsRest 192 = .ok (.iconst 1, 1) := by decide +kernel
theorem dX5_readsRest_193 : decode cX5_readsRest 193 = .ok (.iconst 0, 1) := by decide +kernel
theorem dX5_readsRest_194 : decode cX5_readsRest 194 = .ok (.iconst 3, 1) := by decide +kernel
theorem dX5_readsRest_195 : decode cX5_readsRest 195 = .ok (.invokevirtual 109, 3) := by decide +kernel
theorem dX5_readsRest_198 : decode cX5_readsRest 198 = .ok (.ifCond .eq 7, 3) := by decide +kernel
theorem dX5_readsRest_201 : decode cX5_readsRest 201 = .ok (.iconst 1, 1) := by decide +kernel
theorem dX5_readsRest_202 : decode cX5_readsRest 202 = .ok (.goto 4, 3) := by decide +kernel
theorem dX5_readsRest_205 : decode cX5_readsRest 205 = .ok (.iconst 0, 1) := by decide +kernel
theorem dX5_readsRest_206 : decode cX5_readsRest 206 = .ok (.ireturn, 1) := by decide +kernel
theorem dX5_readsRest_207 : decode cX5_readsRest 207 = .ok (.aload_n 0, 1) := by decide +kernel
theorem dX5_readsRest_208 : decode cX5_readsRest 208 = .ok (.invokevirtual 116, 3) := by decide +kernel
theorem dX5_readsRest_211 : decode cX5_readsRest 211 = .ok (.ireturn, 1) := by decide +kernel
theorem dX5_readsRest_212 : decode cX5_readsRest 212 = .ok (.aload_n 0, 1) := by decide +kernel
theorem dX5_readsRest_213 : decode cX5_readsRest 213 = .ok (.iconst 0, 1) := by decide +kernel
theorem dX5_readsRest_214 : decode cX5_readsRest 214 = .ok (.iconst 0, 1) := by decide +kernel
theorem dX5_readsRest_215 : decode cX5_readsRest 215 = .ok (.iload_n 3, 1) := by decide +kernel
theorem dX5_readsRest_216 : decode cX5_readsRest 216 = .ok (.invokevirtual 109, 3) := by decide +kernel
theorem dX5_readsRest_219 : decode cX5_readsRest 219 = .ok (.ifCond .eq 22, 3) := by decide +kernel
theorem dX5_readsRest_222 : decode cX5_readsRest 222 = .ok (.aload_n 0, 1) := by decide +kernel
theorem dX5_readsRest_223 : decode cX5_readsRest 223 = .ok (.iconst 1, 1) := by decide +kernel
theorem dX5_readsRest_224 : decode cX5_readsRest 224 = .ok (.aload_n 0, 1) := by decide +kernel
theorem dX5_readsRest_225 : decode cX5_readsRest 225 = .ok (.getfield 20, 3) := by decide +kernel
theorem dX5_readsRest_228 : decode cX5_readsRest 228 = .ok (.iload_n 2, 1) := by decide +kernel
theorem dX5_readsRest_229 : decode cX5_readsRest 229 = .ok (.iaload, 1) := by decide +kernel
theorem dX5_readsRest_230 : decode cX5_readsRest 230 = .ok (.iload_n 3, 1) := by decide +kernel
theorem dX5_readsRest_231 : decode cX5_readsRest 231 = .ok (.invokevirtual 109, 3) := by decide +kernel
theorem dX5_readsRest_234 : decode cX5_readsRest 234 = .ok (.ifCond .eq 7, 3) := by decide +kernel
theorem dX5_readsRest_237 : decode cX5_readsRest 237 = .ok (.iconst 1, 1) := by decide +kernel
theorem dX5_readsRest_238 : decode cX5_readsRest 238 = .ok (.goto 4, 3) := by decide +kernel
theorem dX5_readsRest_241 : decode cX5_readsRest 241 = .ok (.iconst 0, 1) := by decide +kernel
theorem dX5_readsRest_242 : decode cX5_readsRest 242 = .ok (.ireturn, 1) := by decide +kernel
theorem dX5_readsRest_243 : decode cX5_readsRest 243 = .ok (.iconst 1, 1) := by decide +kernel
theorem dX5_readsRest_244 : decode cX5_readsRest 244 = .ok (.ireturn, 1) := by decide +kernel
theorem dX5_readsRest_245 : decode cX5_readsRest 245 = .ok (.aload_n 0, 1) := by decide +kernel
theorem dX5_readsRest_246 : decode cX5_readsRest 246 = .ok (.iconst 0, 1) := by decide +kernel
theorem dX5_readsRest_247 : decode cX5_readsRest 247 = .ok (.iconst 0, 1) := by decide +kernel
theorem dX5_readsRest_248 : decode cX5_readsRest 248 = .ok (.iload_n 3, 1) := by decide +kernel
theorem dX5_readsRest_249 : decode cX5_readsRest 249 = .ok (.invokevirtual 109, 3) := by decide +kernel
theorem dX5_readsRest_252 : decode cX5_readsRest 252 = .ok (.ifCond .eq 47, 3) := by decide +kernel
theorem dX5_readsRest_255 : decode cX5_readsRest 255 = .ok (.aload_n 0, 1) := by decide +kernel
theorem dX5_readsRest_256 : decode cX5_readsRest 256 = .ok (.iconst 1, 1) := by decide +kernel
theorem dX5_readsRest_257 : decode cX5_readsRest 257 = .ok (.iconst 0, 1) := by decide +kernel
theorem dX5_readsRest_258 : decode cX5_readsRest 258 = .ok (.bipush 99, 2) := by decide +kernel
theorem dX5_readsRest_260 : decode cX5_readsRest 260 = .ok (.invokevirtual 109, 3) := by decide +kernel
theorem dX5_readsRest_263 : decode cX5_readsRest 263 = .ok (.ifCond .eq 36, 3) := by decide +kernel
theorem dX5_readsRest_266 : decode cX5_readsRest 266 = .ok (.aload_n 0, 1) := by decide +kernel
theorem dX5_readsRest_267 : decode cX5_readsRest 267 = .ok (.iconst 2, 1) := by decide +kernel
theorem dX5_readsRest_268 : decode cX5_readsRest 268 = .ok (.iconst 0, 1) := by decide +kernel
theorem dX5_readsRest_269 : decode cX5_readsRest 269 = .ok (.bipush 11, 2) := by decide +kernel
theorem dX5_readsRest_271 : decode cX5_readsRest 271 = .ok (.invokevirtual 109, 3) := by decide +kernel
theorem dX5_readsRest_274 : decode cX5_readsRest 274 = .ok (.ifCond .eq 25, 3) := by decide +kernel
theorem dX5_readsRest_277 : decode cX5_readsRest 277 = .ok (.aload_n 0, 1) := by decide +kernel
theorem dX5_readsRest_278 : decode cX5_readsRest 278 = .ok (.iconst 3, 1) := by decide +kernel
theorem dX5_readsRest_279 : decode cX5_readsRest 279 = .ok (.aload_n 0, 1) := by decide +kernel
theorem dX5_readsRest_280 : decode cX5_readsRest 280 = .ok (.getfield 20, 3) := by decide +kernel
theorem dX5_readsRest_283 : decode cX5_readsRest 283 = .ok (.iload_n 2, 1) := by decide +kernel
theorem dX5_readsRest_284 : decode cX5_readsRest 284 = .ok (.iconst 2, 1) := by decide +kernel
theorem dX5_readsRest_285 : decode cX5_readsRest 285 = .ok (.iadd, 1) := by decide +kernel
theorem dX5_readsRest_286 : decode cX5_readsRest 286 = .ok (.iaload, 1) := by decide +kernel
theorem dX5_readsRest_287 : decode cX5_readsRest 287 = .ok (.bipush 11, 2) := by decide +kernel
theorem dX5_readsRest_289 : decode cX5_readsRest 289 = .ok (.invokevirtual 109, 3) := by decide +kernel
theorem dX5_readsRest_292 : decode cX5_readsRest 292 = .ok (.ifCond .eq 7, 3) := by decide +kernel
theorem dX5_readsRest_295 : decode cX5_readsRest 295 = .ok (.iconst 1, 1) := by decide +kernel
theorem dX5_readsRest_296 : decode cX5_readsRest 296 = .ok (.goto 4, 3) := by decide +kernel
theorem dX5_readsRest_299 : decode cX5_readsRest 299 = .ok (.iconst 0, 1) := by decide +kernel
theorem dX5_readsRest_300 : decode cX5_readsRest 300 = .ok (.ireturn, 1) := by decide +kernel
theorem dX5_isBandWord_0 : decode cX5_isBandWord 0 = .ok (.iload_n 0, 1) := by decide +kernel
theorem dX5_isBandWord_1 : decode cX5_isBandWord 1 = .ok (.i2l, 1) := by decide +kernel
theorem dX5_isBandWord_2 : decode cX5_isBandWord 2 = .ok (.ldc2_w 120, 3) := by decide +kernel
theorem dX5_isBandWord_5 : decode cX5_isBandWord 5 = .ok (.ldc2_w 122, 3) := by decide +kernel
theorem dX5_isBandWord_8 : decode cX5_isBandWord 8 = .ok (.invokestatic 47, 3) := by decide +kernel
theorem dX5_isBandWord_11 : decode cX5_isBandWord 11 = .ok (.ireturn, 1) := by decide +kernel
theorem dX5_readsLine_0 : decode cX5_readsLine 0 = .ok (.aload_n 0, 1) := by decide +kernel
theorem dX5_readsLine_1 : decode cX5_readsLine 1 = .ok (.invokevirtual 124, 3) := by decide +kernel
theorem dX5_readsLine_4 : decode cX5_readsLine 4 = .ok (.istore_n 1, 1) := by decide +kernel
theorem dX5_readsLine_5 : decode cX5_readsLine 5 = .ok (.iload_n 1, 1) := by decide +kernel
theorem dX5_readsLine_6 : decode cX5_readsLine 6 = .ok (.iconst (-1), 1) := by decide +kernel
theorem dX5_readsLine_7 : decode cX5_readsLine 7 = .ok (.if_icmp .eq 19, 3) := by decide +kernel
theorem dX5_readsLine_10 : decode cX5_readsLine 10 = .ok (.iload_n 1, 1) := by decide +kernel
theorem dX5_readsLine_11 : decode cX5_readsLine 11 = .ok (.invokestatic 127, 3) := by decide +kernel
theorem dX5_readsLine_14 : decode cX5_readsLine 14 = .ok (.ifCond .eq 14, 3) := by decide +kernel
theorem dX5_readsLine_17 : decode cX5_readsLine 17 = .ok (.aload_n 0, 1) := by decide +kernel
theorem dX5_readsLine_18 : decode cX5_readsLine 18 = .ok (.getfield 113, 3) := by decide +kernel
theorem dX5_readsLine_21 : decode cX5_readsLine 21 = .ok (.bipush 6, 2) := by decide +kernel
theorem dX5_readsLine_23 : decode cX5_readsLine 23 = .ok (.if_icmp .ne 5, 3) := by decide +kernel
theorem dX5_readsLine_26 : decode cX5_readsLine 26 = .ok (.iconst 0, 1) := by decide +kernel
theorem dX5_readsLine_27 : decode cX5_readsLine 27 = .ok (.ireturn, 1) := by decide +kernel
theorem dX5_readsLine_28 : decode cX5_readsLine 28 = .ok (.aload_n 0, 1) := by decide +kernel
theorem dX5_readsLine_29 : decode cX5_readsLine 29 = .ok (.invokevirtual 95, 3) := by decide +kernel
theorem dX5_readsLine_32 : decode cX5_readsLine 32 = .ok (.aload_n 0, 1) := by decide +kernel
theorem dX5_readsLine_33 : decode cX5_readsLine 33 = .ok (.getfield 20, 3) := by decide +kernel
theorem dX5_readsLine_36 : decode cX5_readsLine 36 = .ok (.iconst 5, 1) := by decide +kernel
theorem dX5_readsLine_37 : decode cX5_readsLine 37 = .ok (.aload_n 0, 1) := by decide +kernel
theorem dX5_readsLine_38 : decode cX5_readsLine 38 = .ok (.getfield 92, 3) := by decide +kernel
theorem dX5_readsLine_41 : decode cX5_readsLine 41 = .ok (.imul, 1) := by decide +kernel
theorem dX5_readsLine_42 : decode cX5_readsLine 42 = .ok (.iload_n 1, 1) := by decide +kernel
theorem dX5_readsLine_43 : decode cX5_readsLine 43 = .ok (.iastore, 1) := by decide +kernel
theorem dX5_readsLine_44 : decode cX5_readsLine 44 = .ok (.aload_n 0, 1) := by decide +kernel
theorem dX5_readsLine_45 : decode cX5_readsLine 45 = .ok (.iload_n 1, 1) := by decide +kernel
theorem dX5_readsLine_46 : decode cX5_readsLine 46 = .ok (.invokevirtual 131, 3) := by decide +kernel
theorem dX5_readsLine_49 : decode cX5_readsLine 49 = .ok (.ifCond .ne 5, 3) := by decide +kernel
theorem dX5_readsLine_52 : decode cX5_readsLine 52 = .ok (.iconst 0, 1) := by decide +kernel
theorem dX5_readsLine_53 : decode cX5_readsLine 53 = .ok (.ireturn, 1) := by decide +kernel
theorem dX5_readsLine_54 : decode cX5_readsLine 54 = .ok (.aload_n 0, 1) := by decide +kernel
theorem dX5_readsLine_55 : decode cX5_readsLine 55 = .ok (.getfield 20, 3) := by decide +kernel
theorem dX5_readsLine_58 : decode cX5_readsLine 58 = .ok (.iconst 5, 1) := by decide +kernel
theorem dX5_readsLine_59 : decode cX5_readsLine 59 = .ok (.aload_n 0, 1) := by decide +kernel
theorem dX5_readsLine_60 : decode cX5_readsLine 60 = .ok (.getfield 92, 3) := by decide +kernel
theorem dX5_readsLine_63 : decode cX5_readsLine 63 = .ok (.imul, 1) := by decide +kernel
theorem dX5_readsLine_64 : decode cX5_readsLine 64 = .ok (.iconst 1, 1) := by decide +kernel
theorem dX5_readsLine_65 : decode cX5_readsLine 65 = .ok (.iadd, 1) := by decide +kernel
theorem dX5_readsLine_66 : decode cX5_readsLine 66 = .ok (.iaload, 1) := by decide +kernel
theorem dX5_readsLine_67 : decode cX5_readsLine 67 = .ok (.istore_n 2, 1) := by decide +kernel
theorem dX5_readsLine_68 : decode cX5_readsLine 68 = .ok (.aload_n 0, 1) := by decide +kernel
theorem dX5_readsLine_69 : decode cX5_readsLine 69 = .ok (.iload_n 1, 1) := by decide +kernel
theorem dX5_readsLine_70 : decode cX5_readsLine 70 = .ok (.ifCond .ne 21, 3) := by decide +kernel
theorem dX5_readsLine_73 : decode cX5_readsLine 73 = .ok (.iload_n 2, 1) := by decide +kernel
theorem dX5_readsLine_74 : decode cX5_readsLine 74 = .ok (.aload_n 0, 1) := by decide +kernel
theorem dX5_readsLine_75 : decode cX5_readsLine 75 = .ok (.getfield 20, 3) := by decide +kernel
theorem dX5_readsLine_78 : decode cX5_readsLine 78 = .ok (.iconst 5, 1) := by decide +kernel
theorem dX5_readsLine_79 : decode cX5_readsLine 79 = .ok (.aload_n 0, 1) := by decide +kernel
theorem dX5_readsLine_80 : decode cX5_readsLine 80 = .ok (.getfield 92, 3) := by decide +kernel
theorem dX5_readsLine_83 : decode cX5_readsLine 83 = .ok (.imul, 1) := by decide +kernel
theorem dX5_readsLine_84 : decode cX5_readsLine 84 = .ok (.iconst 2, 1) := by decide +kernel
theorem dX5_readsLine_85 : decode cX5_readsLine 85 = .ok (.iadd, 1) := by decide +kernel
theorem dX5_readsLine_86 : decode cX5_readsLine 86 = .ok (.iaload, 1) := by decide +kernel
theorem dX5_readsLine_87 : decode cX5_readsLine 87 = .ok (.imul, 1) := by decide +kernel
theorem dX5_readsLine_88 : decode cX5_readsLine 88 = .ok (.goto 7, 3) := by decide +kernel
theorem dX5_readsLine_91 : decode cX5_readsLine 91 = .ok (.aload_n 0, 1) := by decide +kernel
theorem dX5_readsLine_92 : decode cX5_readsLine 92 = .ok (.getfield 98, 3) := by decide +kernel
theorem dX5_readsLine_95 : decode cX5_readsLine 95 = .ok (.putfield 98, 3) := by decide +kernel
theorem dX5_readsLine_98 : decode cX5_readsLine 98 = .ok (.aload_n 0, 1) := by decide +kernel
theorem dX5_readsLine_99 : decode cX5_readsLine 99 = .ok (.iload_n 1, 1) := by decide +kernel
theorem dX5_readsLine_100 : decode cX5_readsLine 100 = .ok (.ifCond .ne 7, 3) := by decide +kernel
theorem dX5_readsLine_103 : decode cX5_readsLine 103 = .ok (.lconst 0, 1) := by decide +kernel
theorem dX5_readsLine_104 : decode cX5_readsLine 104 = .ok (.goto 24, 3) := by decide +kernel
theorem dX5_readsLine_107 : decode cX5_readsLine 107 = .ok (.iload_n 1, 1) := by decide +kernel
theorem dX5_readsLine_108 : decode cX5_readsLine 108 = .ok (.bipush 9, 2) := by decide +kernel
theorem dX5_readsLine_110 : decode cX5_readsLine 110 = .ok (.if_icmp .ne 14, 3) := by decide +kernel
theorem dX5_readsLine_113 : decode cX5_readsLine 113 = .ok (.aload_n 0, 1) := by decide +kernel
theorem dX5_readsLine_114 : decode cX5_readsLine 114 = .ok (.getfield 101, 3) := by decide +kernel
theorem dX5_readsLine_117 : decode cX5_readsLine 117 = .ok (.lconst 1, 1) := by decide +kernel
theorem dX5_readsLine_118 : decode cX5_readsLine 118 = .ok (.iload_n 2, 1) := by decide +kernel
theorem dX5_readsLine_119 : decode cX5_readsLine 119 = .ok (.lshl, 1) := by decide +kernel
theorem dX5_readsLine_120 : decode cX5_readsLine 120 = .ok (.lor, 1) := by decide +kernel
theorem dX5_readsLine_121 : decode cX5_readsLine 121 = .ok (.goto 7, 3) := by decide +kernel
theorem dX5_readsLine_124 : decode cX5_readsLine 124 = .ok (.aload_n 0, 1) := by decide +kernel
theorem dX5_readsLine_125 : decode cX5_readsLine 125 = .ok (.getfield 101, 3) := by decide +kernel
theorem dX5_readsLine_128 : decode cX5_readsLine 128 = .ok (.putfield 101, 3) := by decide +kernel
theorem dX5_readsLine_131 : decode cX5_readsLine 131 = .ok (.aload_n 0, 1) := by decide +kernel
theorem dX5_readsLine_132 : decode cX5_readsLine 132 = .ok (.iload_n 1, 1) := by decide +kernel
theorem dX5_readsLine_133 : decode cX5_readsLine 133 = .ok (.ifCond .eq 9, 3) := by decide +kernel
theorem dX5_readsLine_136 : decode cX5_readsLine 136 = .ok (.iload_n 1, 1) := by decide +kernel
theorem dX5_readsLine_137 : decode cX5_readsLine 137 = .ok (.bipush 11, 2) := by decide +kernel
theorem dX5_readsLine_139 : decode cX5_readsLine 139 = .ok (.if_icmp .ne 7, 3) := by decide +kernel
theorem dX5_readsLine_142 : decode cX5_readsLine 142 = .ok (.iconst 0, 1) := by decide +kernel
theorem dX5_readsLine_143 : decode cX5_readsLine 143 = .ok (.goto 23, 3) := by decide +kernel
theorem dX5_readsLine_146 : decode cX5_readsLine 146 = .ok (.iload_n 1, 1) := by decide +kernel
theorem dX5_readsLine_147 : decode cX5_readsLine 147 = .ok (.invokestatic 127, 3) := by decide +kernel
theorem dX5_readsLine_150 : decode cX5_readsLine 150 = .ok (.ifCond .eq 12, 3) := by decide +kernel
theorem dX5_readsLine_153 : decode cX5_readsLine 153 = .ok (.aload_n 0, 1) := by decide +kernel
theorem dX5_readsLine_154 : decode cX5_readsLine 154 = .ok (.getfield 113, 3) := by decide +kernel
theorem dX5_readsLine_157 : decode cX5_readsLine 157 = .ok (.iconst 1, 1) := by decide +kernel
theorem dX5_readsLine_158 : decode cX5_readsLine 158 = .ok (.iadd, 1) := by decide +kernel
theorem dX5_readsLine_159 : decode cX5_readsLine 159 = .ok (.goto 7, 3) := by decide +kernel
theorem dX5_readsLine_162 : decode cX5_readsLine 162 = .ok (.aload_n 0, 1) := by decide +kernel
theorem dX5_readsLine_163 : decode cX5_readsLine 163 = .ok (.getfield 113, 3) := by decide +kernel
theorem dX5_readsLine_166 : decode cX5_readsLine 166 = .ok (.putfield 113, 3) := by decide +kernel
theorem dX5_readsLine_169 : decode cX5_readsLine 169 = .ok (.aload_n 0, 1) := by decide +kernel
theorem dX5_readsLine_170 : decode cX5_readsLine 170 = .ok (.dup, 1) := by decide +kernel
theorem dX5_readsLine_171 : decode cX5_readsLine 171 = .ok (.getfield 92, 3) := by decide +kernel
theorem dX5_readsLine_174 : decode cX5_readsLine 174 = .ok (.iconst 1, 1) := by decide +kernel
theorem dX5_readsLine_175 : decode cX5_readsLine 175 = .ok (.iadd, 1) := by decide +kernel
theorem dX5_readsLine_176 : decode cX5_readsLine 176 = .ok (.putfield 92, 3) := by decide +kernel
theorem dX5_readsLine_179 : decode cX5_readsLine 179 = .ok (.iconst 1, 1) := by decide +kernel
theorem dX5_readsLine_180 : decode cX5_readsLine 180 = .ok (.ireturn, 1) := by decide +kernel
theorem dX5_fault_0 : decode cX5_fault 0 = .ok (.aload_n 0, 1) := by decide +kernel
theorem dX5_fault_1 : decode cX5_fault 1 = .ok (.iconst 0, 1) := by decide +kernel
theorem dX5_fault_2 : decode cX5_fault 2 = .ok (.putfield 56, 3) := by decide +kernel
theorem dX5_fault_5 : decode cX5_fault 5 = .ok (.aload_n 0, 1) := by decide +kernel
theorem dX5_fault_6 : decode cX5_fault 6 = .ok (.iconst 0, 1) := by decide +kernel
theorem dX5_fault_7 : decode cX5_fault 7 = .ok (.putfield 92, 3) := by decide +kernel
theorem dX5_fault_10 : decode cX5_fault 10 = .ok (.aload_n 0, 1) := by decide +kernel
theorem dX5_fault_11 : decode cX5_fault 11 = .ok (.aload_n 0, 1) := by decide +kernel
theorem dX5_fault_12 : decode cX5_fault 12 = .ok (.getfield 23, 3) := by decide +kernel
theorem dX5_fault_15 : decode cX5_fault 15 = .ok (.aload_n 0, 1) := by decide +kernel
theorem dX5_fault_16 : decode cX5_fault 16 = .ok (.getfield 27, 3) := by decide +kernel
theorem dX5_fault_19 : decode cX5_fault 19 = .ok (.imul, 1) := by decide +kernel
theorem dX5_fault_20 : decode cX5_fault 20 = .ok (.putfield 98, 3) := by decide +kernel
theorem dX5_fault_23 : decode cX5_fault 23 = .ok (.aload_n 0, 1) := by decide +kernel
theorem dX5_fault_24 : decode cX5_fault 24 = .ok (.aload_n 0, 1) := by decide +kernel
theorem dX5_fault_25 : decode cX5_fault 25 = .ok (.getfield 134, 3) := by decide +kernel
theorem dX5_fault_28 : decode cX5_fault 28 = .ok (.putfield 113, 3) := by decide +kernel
theorem dX5_fault_31 : decode cX5_fault 31 = .ok (.aload_n 0, 1) := by decide +kernel
theorem dX5_fault_32 : decode cX5_fault 32 = .ok (.aload_n 0, 1) := by decide +kernel
theorem dX5_fault_33 : decode cX5_fault 33 = .ok (.getfield 137, 3) := by decide +kernel
theorem dX5_fault_36 : decode cX5_fault 36 = .ok (.putfield 101, 3) := by decide +kernel
theorem dX5_fault_39 : decode cX5_fault 39 = .ok (.aload_n 0, 1) := by decide +kernel
theorem dX5_fault_40 : decode cX5_fault 40 = .ok (.invokevirtual 95, 3) := by decide +kernel
theorem dX5_fault_43 : decode cX5_fault 43 = .ok (.aload_n 0, 1) := by decide +kernel
theorem dX5_fault_44 : decode cX5_fault 44 = .ok (.invokevirtual 140, 3) := by decide +kernel
theorem dX5_fault_47 : decode cX5_fault 47 = .ok (.ifCond .ne 8, 3) := by decide +kernel
theorem dX5_fault_50 : decode cX5_fault 50 = .ok (.aload_n 0, 1) := by decide +kernel
theorem dX5_fault_51 : decode cX5_fault 51 = .ok (.getfield 59, 3) := by decide +kernel
theorem dX5_fault_54 : decode cX5_fault 54 = .ok (.ireturn, 1) := by decide +kernel
theorem dX5_fault_55 : decode cX5_fault 55 = .ok (.aload_n 0, 1) := by decide +kernel
theorem dX5_fault_56 : decode cX5_fault 56 = .ok (.getfield 59, 3) := by decide +kernel
theorem dX5_fault_59 : decode cX5_fault 59 = .ok (.aload_n 0, 1) := by decide +kernel
theorem dX5_fault_60 : decode cX5_fault 60 = .ok (.getfield 51, 3) := by decide +kernel
theorem dX5_fault_63 : decode cX5_fault 63 = .ok (.if_icmp .ge 70, 3) := by decide +kernel
theorem dX5_fault_66 : decode cX5_fault 66 = .ok (.aload_n 0, 1) := by decide +kernel
theorem dX5_fault_67 : decode cX5_fault 67 = .ok (.getfield 66, 3) := by decide +kernel
theorem dX5_fault_70 : decode cX5_fault 70 = .ok (.aload_n 0, 1) := by decide +kernel
theorem dX5_fault_71 : decode cX5_fault 71 = .ok (.getfield 59, 3) := by decide +kernel
theorem dX5_fault_74 : decode cX5_fault 74 = .ok (.isub, 1) := by decide +kernel
theorem dX5_fault_75 : decode cX5_fault 75 = .ok (.iconst 1, 1) := by decide +kernel
theorem dX5_fault_76 : decode cX5_fault 76 = .ok (.if_icmp .ne 30, 3) := by decide +kernel
theorem dX5_fault_79 : decode cX5_fault 79 = .ok (.aload_n 0, 1) := by decide +kernel
theorem dX5_fault_80 : decode cX5_fault 80 = .ok (.getfield 17, 3) := by decide +kernel
theorem dX5_fault_83 : decode cX5_fault 83 = .ok (.aload_n 0, 1) := by decide +kernel
theorem dX5_fault_84 : decode cX5_fault 84 = .ok (.getfield 59, 3) := by decide +kernel
theorem dX5_fault_87 : decode cX5_fault 87 = .ok (.iaload, 1) := by decide +kernel
theorem dX5_fault_88 : decode cX5_fault 88 = .ok (.bipush 59, 2) := by decide +kernel
theorem dX5_fault_90 : decode cX5_fault 90 = .ok (.if_icmp .ne 16, 3) := by decide +kernel
theorem dX5_fault_93 : decode cX5_fault 93 = .ok (.aload_n 0, 1) := by decide +kernel
theorem dX5_fault_94 : decode cX5_fault 94 = .ok (.getfield 92, 3) := by decide +kernel
theorem dX5_fault_97 : decode cX5_fault 97 = .ok (.bipush 12, 2) := by decide +kernel
theorem dX5_fault_99 : decode cX5_fault 99 = .ok (.if_icmp .ge 7, 3) := by decide +kernel
theorem dX5_fault_102 : decode cX5_fault 102 = .ok (.iconst 1, 1) := by decide +kernel
theorem dX5_fault_103 : decode cX5_fault 103 = .ok (.goto 4, 3) := by decide +kernel
theorem dX5_fault_106 : decode cX5_fault 106 = .ok (.iconst 0, 1) := by decide +kernel
theorem dX5_fault_107 : decode cX5_fault 107 = .ok (.istore_n 1, 1) := by decide +kernel
theorem dX5_fault_108 : decode cX5_fault 108 = .ok (.iload_n 1, 1) := by decide +kernel
theorem dX5_fault_109 : decode cX5_fault 109 = .ok (.ifCond .eq 12, 3) := by decide +kernel
theorem dX5_fault_112 : decode cX5_fault 112 = .ok (.aload_n 0, 1) := by decide +kernel
theorem dX5_fault_113 : decode cX5_fault 113 = .ok (.invokevirtual 95, 3) := by decide +kernel
theorem dX5_fault_116 : decode cX5_fault 116 = .ok (.aload_n 0, 1) := by decide +kernel
theorem dX5_fault_117 : decode cX5_fault 117 = .ok (.invokevirtual 140, 3) := by decide +kernel
theorem dX5_fault_120 : decode cX5_fault 120 = .ok (.istore_n 1, 1) := by decide +kernel
theorem dX5_fault_121 : decode cX5_fault 121 = .ok (.iload_n 1, 1) := by decide +kernel
theorem dX5_fault_122 : decode cX5_fault 122 = .ok (.ifCond .ne 8, 3) := by decide +kernel
theorem dX5_fault_125 : decode cX5_fault 125 = .ok (.aload_n 0, 1) := by decide +kernel
theorem dX5_fault_126 : decode cX5_fault 126 = .ok (.getfield 59, 3) := by decide +kernel
theorem dX5_fault_129 : decode cX5_fault 129 = .ok (.ireturn, 1) := by decide +kernel
theorem dX5_fault_130 : decode cX5_fault 130 = .ok (.goto (-75), 3) := by decide +kernel
theorem dX5_fault_133 : decode cX5_fault 133 = .ok (.iconst (-1), 1) := by decide +kernel
theorem dX5_fault_134 : decode cX5_fault 134 = .ok (.ireturn, 1) := by decide +kernel
theorem dX5_clear_0 : decode cX5_clear 0 = .ok (.aload_n 0, 1) := by decide +kernel
theorem dX5_clear_1 : decode cX5_clear 1 = .ok (.iload_n 1, 1) := by decide +kernel
theorem dX5_clear_2 : decode cX5_clear 2 = .ok (.putfield 23, 3) := by decide +kernel
theorem dX5_clear_5 : decode cX5_clear 5 = .ok (.aload_n 0, 1) := by decide +kernel
theorem dX5_clear_6 : decode cX5_clear 6 = .ok (.iload_n 2, 1) := by decide +kernel
theorem dX5_clear_7 : decode cX5_clear 7 = .ok (.putfield 27, 3) := by decide +kernel
theorem dX5_clear_10 : decode cX5_clear 10 = .ok (.aload_n 0, 1) := by decide +kernel
theorem dX5_clear_11 : decode cX5_clear 11 = .ok (.iconst 2, 1) := by decide +kernel
theorem dX5_clear_12 : decode cX5_clear 12 = .ok (.putfield 30, 3) := by decide +kernel
theorem dX5_clear_15 : decode cX5_clear 15 = .ok (.aload_n 0, 1) := by decide +kernel
theorem dX5_clear_16 : decode cX5_clear 16 = .ok (.iconst 0, 1) := by decide +kernel
theorem dX5_clear_17 : decode cX5_clear 17 = .ok (.putfield 143, 3) := by decide +kernel
theorem dX5_clear_20 : decode cX5_clear 20 = .ok (.aload_n 0, 1) := by decide +kernel
theorem dX5_clear_21 : decode cX5_clear 21 = .ok (.bipush 50, 2) := by decide +kernel
theorem dX5_clear_23 : decode cX5_clear 23 = .ok (.putfield 33, 3) := by decide +kernel
theorem dX5_clear_26 : decode cX5_clear 26 = .ok (.aload_n 0, 1) := by decide +kernel
theorem dX5_clear_27 : decode cX5_clear 27 = .ok (.lconst 0, 1) := by decide +kernel
theorem dX5_clear_28 : decode cX5_clear 28 = .ok (.putfield 146, 3) := by decide +kernel
theorem dX5_clear_31 : decode cX5_clear 31 = .ok (.aload_n 0, 1) := by decide +kernel
theorem dX5_clear_32 : decode cX5_clear 32 = .ok (.lconst 0, 1) := by decide +kernel
theorem dX5_clear_33 : decode cX5_clear 33 = .ok (.putfield 137, 3) := by decide +kernel
theorem dX5_clear_36 : decode cX5_clear 36 = .ok (.aload_n 0, 1) := by decide +kernel
theorem dX5_clear_37 : decode cX5_clear 37 = .ok (.iconst 0, 1) := by decide +kernel
theorem dX5_clear_38 : decode cX5_clear 38 = .ok (.putfield 134, 3) := by decide +kernel
theorem dX5_clear_41 : decode cX5_clear 41 = .ok (.return_, 1) := by decide +kernel
theorem dX5_addBand_0 : decode cX5_addBand 0 = .ok (.bipush 7, 2) := by decide +kernel
theorem dX5_addBand_2 : decode cX5_addBand 2 = .ok (.aload_n 0, 1) := by decide +kernel
theorem dX5_addBand_3 : decode cX5_addBand 3 = .ok (.getfield 134, 3) := by decide +kernel
theorem dX5_addBand_6 : decode cX5_addBand 6 = .ok (.imul, 1) := by decide +kernel
theorem dX5_addBand_7 : decode cX5_addBand 7 = .ok (.istore_n 2, 1) := by decide +kernel
theorem dX5_addBand_8 : decode cX5_addBand 8 = .ok (.aload_n 0, 1) := by decide +kernel
theorem dX5_addBand_9 : decode cX5_addBand 9 = .ok (.getfield 36, 3) := by decide +kernel
theorem dX5_addBand_12 : decode cX5_addBand 12 = .ok (.iload_n 2, 1) := by decide +kernel
theorem dX5_addBand_13 : decode cX5_addBand 13 = .ok (.aload_n 0, 1) := by decide +kernel
theorem dX5_addBand_14 : decode cX5_addBand 14 = .ok (.getfield 20, 3) := by decide +kernel
theorem dX5_addBand_17 : decode cX5_addBand 17 = .ok (.iload_n 1, 1) := by decide +kernel
theorem dX5_addBand_18 : decode cX5_addBand 18 = .ok (.iaload, 1) := by decide +kernel
theorem dX5_addBand_19 : decode cX5_addBand 19 = .ok (.iconst 3, 1) := by decide +kernel
theorem dX5_addBand_20 : decode cX5_addBand 20 = .ok (.isub, 1) := by decide +kernel
theorem dX5_addBand_21 : decode cX5_addBand 21 = .ok (.iastore, 1) := by decide +kernel
theorem dX5_addBand_22 : decode cX5_addBand 22 = .ok (.iconst 0, 1) := by decide +kernel
theorem dX5_addBand_23 : decode cX5_addBand 23 = .ok (.istore_n 3, 1) := by decide +kernel
theorem dX5_addBand_24 : decode cX5_addBand 24 = .ok (.iload_n 3, 1) := by decide +kernel
theorem dX5_addBand_25 : decode cX5_addBand 25 = .ok (.iconst 4, 1) := by decide +kernel
theorem dX5_addBand_26 : decode cX5_addBand 26 = .ok (.if_icmp .ge 29, 3) := by decide +kernel
theorem dX5_addBand_29 : decode cX5_addBand 29 = .ok (.aload_n 0, 1) := by decide +kernel
theorem dX5_addBand_30 : decode cX5_addBand 30 = .ok (.getfield 36, 3) := by decide +kernel
theorem dX5_addBand_33 : decode cX5_addBand 33 = .ok (.iload_n 2, 1) := by decide +kernel
theorem dX5_addBand_34 : decode cX5_addBand 34 = .ok (.iconst 1, 1) := by decide +kernel
theorem dX5_addBand_35 : decode cX5_addBand 35 = .ok (.iadd, 1) := by decide +kernel
theorem dX5_addBand_36 : decode cX5_addBand 36 = .ok (.iload_n 3, 1) := by decide +kernel
theorem dX5_addBand_37 : decode cX5_addBand 37 = .ok (.iadd, 1) := by decide +kernel
theorem dX5_addBand_38 : decode cX5_addBand 38 = .ok (.aload_n 0, 1) := by decide +kernel
theorem dX5_addBand_39 : decode cX5_addBand 39 = .ok (.getfield 20, 3) := by decide +kernel
theorem dX5_addBand_42 : decode cX5_addBand 42 = .ok (.iload_n 1, 1) := by decide +kernel
theorem dX5_addBand_43 : decode cX5_addBand 43 = .ok (.iconst 1, 1) := by decide +kernel
theorem dX5_addBand_44 : decode cX5_addBand 44 = .ok (.iadd, 1) := by decide +kernel
theorem dX5_addBand_45 : decode cX5_addBand 45 = .ok (.iload_n 3, 1) := by decide +kernel
theorem dX5_addBand_46 : decode cX5_addBand 46 = .ok (.iadd, 1) := by decide +kernel
theorem dX5_addBand_47 : decode cX5_addBand 47 = .ok (.iaload, 1) := by decide +kernel
theorem dX5_addBand_48 : decode cX5_addBand 48 = .ok (.iastore, 1) := by decide +kernel
theorem dX5_addBand_49 : decode cX5_addBand 49 = .ok (.iinc 3 1, 3) := by decide +kernel
theorem dX5_addBand_52 : decode cX5_addBand 52 = .ok (.goto (-28), 3) := by decide +kernel
theorem dX5_addBand_55 : decode cX5_addBand 55 = .ok (.aload_n 0, 1) := by decide +kernel
theorem dX5_addBand_56 : decode cX5_addBand 56 = .ok (.getfield 36, 3) := by decide +kernel
theorem dX5_addBand_59 : decode cX5_addBand 59 = .ok (.iload_n 2, 1) := by decide +kernel
theorem dX5_addBand_60 : decode cX5_addBand 60 = .ok (.iconst 5, 1) := by decide +kernel
theorem dX5_addBand_61 : decode cX5_addBand 61 = .ok (.iadd, 1) := by decide +kernel
theorem dX5_addBand_62 : decode cX5_addBand 62 = .ok (.iconst 1, 1) := by decide +kernel
theorem dX5_addBand_63 : decode cX5_addBand 63 = .ok (.iastore, 1) := by decide +kernel
theorem dX5_addBand_64 : decode cX5_addBand 64 = .ok (.aload_n 0, 1) := by decide +kernel
theorem dX5_addBand_65 : decode cX5_addBand 65 = .ok (.getfield 36, 3) := by decide +kernel
theorem dX5_addBand_68 : decode cX5_addBand 68 = .ok (.iload_n 2, 1) := by decide +kernel
theorem dX5_addBand_69 : decode cX5_addBand 69 = .ok (.bipush 6, 2) := by decide +kernel
theorem dX5_addBand_71 : decode cX5_addBand 71 = .ok (.iadd, 1) := by decide +kernel
theorem dX5_addBand_72 : decode cX5_addBand 72 = .ok (.iconst 0, 1) := by decide +kernel
theorem dX5_addBand_73 : decode cX5_addBand 73 = .ok (.iastore, 1) := by decide +kernel
theorem dX5_addBand_74 : decode cX5_addBand 74 = .ok (.aload_n 0, 1) := by decide +kernel
theorem dX5_addBand_75 : decode cX5_addBand 75 = .ok (.dup, 1) := by decide +kernel
theorem dX5_addBand_76 : decode cX5_addBand 76 = .ok (.getfield 134, 3) := by decide +kernel
theorem dX5_addBand_79 : decode cX5_addBand 79 = .ok (.iconst 1, 1) := by decide +kernel
theorem dX5_addBand_80 : decode cX5_addBand 80 = .ok (.iadd, 1) := by decide +kernel
theorem dX5_addBand_81 : decode cX5_addBand 81 = .ok (.putfield 134, 3) := by decide +kernel
theorem dX5_addBand_84 : decode cX5_addBand 84 = .ok (.return_, 1) := by decide +kernel
theorem dX5_tell_0 : decode cX5_tell 0 = .ok (.aload_n 0, 1) := by decide +kernel
theorem dX5_tell_1 : decode cX5_tell 1 = .ok (.getfield 20, 3) := by decide +kernel
theorem dX5_tell_4 : decode cX5_tell 4 = .ok (.iload_n 1, 1) := by decide +kernel
theorem dX5_tell_5 : decode cX5_tell 5 = .ok (.iconst 1, 1) := by decide +kernel
theorem dX5_tell_6 : decode cX5_tell 6 = .ok (.iadd, 1) := by decide +kernel
theorem dX5_tell_7 : decode cX5_tell 7 = .ok (.iaload, 1) := by decide +kernel
theorem dX5_tell_8 : decode cX5_tell 8 = .ok (.istore_n 2, 1) := by decide +kernel
theorem dX5_tell_9 : decode cX5_tell 9 = .ok (.aload_n 0, 1) := by decide +kernel
theorem dX5_tell_10 : decode cX5_tell 10 = .ok (.getfield 20, 3) := by decide +kernel
theorem dX5_tell_13 : decode cX5_tell 13 = .ok (.iload_n 1, 1) := by decide +kernel
theorem dX5_tell_14 : decode cX5_tell 14 = .ok (.iconst 2, 1) := by decide +kernel
theorem dX5_tell_15 : decode cX5_tell 15 = .ok (.iadd, 1) := by decide +kernel
theorem dX5_tell_16 : decode cX5_tell 16 = .ok (.iaload, 1) := by decide +kernel
theorem dX5_tell_17 : decode cX5_tell 17 = .ok (.istore_n 3, 1) := by decide +kernel
theorem dX5_tell_18 : decode cX5_tell 18 = .ok (.aload_n 0, 1) := by decide +kernel
theorem dX5_tell_19 : decode cX5_tell 19 = .ok (.getfield 20, 3) := by decide +kernel
theorem dX5_tell_22 : decode cX5_tell 22 = .ok (.iload_n 1, 1) := by decide +kernel
theorem dX5_tell_23 : decode cX5_tell 23 = .ok (.iaload, 1) := by decide +kernel
theorem dX5_tell_24 : decode cX5_tell 24 = .ok (.tableswitch 163 0 11 #[64, 71, 77, 163, 163, 163, 163, 88, 101, 115, 128, 157], 64) := by decide +kernel
theorem dX5_tell_88 : decode cX5_tell 88 = .ok (.aload_n 0, 1) := by decide +kernel
theorem dX5_tell_89 : decode cX5_tell 89 = .ok (.iload_n 2, 1) := by decide +kernel
theorem dX5_tell_90 : decode cX5_tell 90 = .ok (.iload_n 3, 1) := by decide +kernel
theorem dX5_tell_91 : decode cX5_tell 91 = .ok (.invokevirtual 149, 3) := by decide +kernel
theorem dX5_tell_94 : decode cX5_tell 94 = .ok (.return_, 1) := by decide +kernel
theorem dX5_tell_95 : decode cX5_tell 95 = .ok (.aload_n 0, 1) := by decide +kernel
theorem dX5_tell_96 : decode cX5_tell 96 = .ok (.iload_n 2, 1) := by decide +kernel
theorem dX5_tell_97 : decode cX5_tell 97 = .ok (.putfield 30, 3) := by decide +kernel
theorem dX5_tell_100 : decode cX5_tell 100 = .ok (.return_, 1) := by decide +kernel
theorem dX5_tell_101 : decode cX5_tell 101 = .ok (.aload_n 0, 1) := by decide +kernel
theorem dX5_tell_102 : decode cX5_tell 102 = .ok (.iload_n 2, 1) := by decide +kernel
theorem dX5_tell_103 : decode cX5_tell 103 = .ok (.putfield 143, 3) := by decide +kernel
theorem dX5_tell_106 : decode cX5_tell 106 = .ok (.aload_n 0, 1) := by decide +kernel
theorem dX5_tell_107 : decode cX5_tell 107 = .ok (.iload_n 3, 1) := by decide +kernel
theorem dX5_tell_108 : decode cX5_tell 108 = .ok (.putfield 33, 3) := by decide +kernel
theorem dX5_tell_111 : decode cX5_tell 111 = .ok (.return_, 1) := by decide +kernel
theorem dX5_tell_112 : decode cX5_tell 112 = .ok (.aload_n 0, 1) := by decide +kernel
theorem dX5_tell_113 : decode cX5_tell 113 = .ok (.getfield 36, 3) := by decide +kernel
theorem dX5_tell_116 : decode cX5_tell 116 = .ok (.bipush 7, 2) := by decide +kernel
theorem dX5_tell_118 : decode cX5_tell 118 = .ok (.iload_n 2, 1) := by decide +kernel
theorem dX5_tell_119 : decode cX5_tell 119 = .ok (.imul, 1) := by decide +kernel
theorem dX5_tell_120 : decode cX5_tell 120 = .ok (.iconst 5, 1) := by decide +kernel
theorem dX5_tell_121 : decode cX5_tell 121 = .ok (.iadd, 1) := by decide +kernel
theorem dX5_tell_122 : decode cX5_tell 122 = .ok (.iload_n 3, 1) := by decide +kernel
theorem dX5_tell_123 : decode cX5_tell 123 = .ok (.iastore, 1) := by decide +kernel
theorem dX5_tell_124 : decode cX5_tell 124 = .ok (.return_, 1) := by decide +kernel
theorem dX5_tell_125 : decode cX5_tell 125 = .ok (.aload_n 0, 1) := by decide +kernel
theorem dX5_tell_126 : decode cX5_tell 126 = .ok (.getfield 36, 3) := by decide +kernel
theorem dX5_tell_129 : decode cX5_tell 129 = .ok (.bipush 7, 2) := by decide +kernel
theorem dX5_tell_131 : decode cX5_tell 131 = .ok (.iload_n 2, 1) := by decide +kernel
theorem dX5_tell_132 : decode cX5_tell 132 = .ok (.imul, 1) := by decide +kernel
theorem dX5_tell_133 : decode cX5_tell 133 = .ok (.bipush 6, 2) := by decide +kernel
theorem dX5_tell_135 : decode cX5_tell 135 = .ok (.iadd, 1) := by decide +kernel
theorem dX5_tell_136 : decode cX5_tell 136 = .ok (.iload_n 3, 1) := by decide +kernel
theorem dX5_tell_137 : decode cX5_tell 137 = .ok (.iastore, 1) := by decide +kernel
theorem dX5_tell_138 : decode cX5_tell 138 = .ok (.return_, 1) := by decide +kernel
theorem dX5_tell_139 : decode cX5_tell 139 = .ok (.aload_n 0, 1) := by decide +kernel
theorem dX5_tell_140 : decode cX5_tell 140 = .ok (.dup, 1) := by decide +kernel
theorem dX5_tell_141 : decode cX5_tell 141 = .ok (.getfield 137, 3) := by decide +kernel
theorem dX5_tell_144 : decode cX5_tell 144 = .ok (.lconst 1, 1) := by decide +kernel
theorem dX5_tell_145 : decode cX5_tell 145 = .ok (.iload_n 2, 1) := by decide +kernel
theorem dX5_tell_146 : decode cX5_tell 146 = .ok (.lshl, 1) := by decide +kernel
theorem dX5_tell_147 : decode cX5_tell 147 = .ok (.lor, 1) := by decide +kernel
theorem dX5_tell_148 : decode cX5_tell 148 = .ok (.putfield 137, 3) := by decide +kernel
theorem dX5_tell_151 : decode cX5_tell 151 = .ok (.return_, 1) := by decide +kernel
theorem dX5_tell_152 : decode cX5_tell 152 = .ok (.iload_n 2, 1) := by decide +kernel
theorem dX5_tell_153 : decode cX5_tell 153 = .ok (.istore 4, 2) := by decide +kernel
theorem dX5_tell_155 : decode cX5_tell 155 = .ok (.iload 4, 2) := by decide +kernel
theorem dX5_tell_157 : decode cX5_tell 157 = .ok (.iload_n 3, 1) := by decide +kernel
theorem dX5_tell_158 : decode cX5_tell 158 = .ok (.if_icmp .gt 22, 3) := by decide +kernel
theorem dX5_tell_161 : decode cX5_tell 161 = .ok (.aload_n 0, 1) := by decide +kernel
theorem dX5_tell_162 : decode cX5_tell 162 = .ok (.dup, 1) := by decide +kernel
theorem dX5_tell_163 : decode cX5_tell 163 = .ok (.getfield 146, 3) := by decide +kernel
theorem dX5_tell_166 : decode cX5_tell 166 = .ok (.lconst 1, 1) := by decide +kernel
theorem dX5_tell_167 : decode cX5_tell 167 = .ok (.iload 4, 2) := by decide +kernel
theorem dX5_tell_169 : decode cX5_tell 169 = .ok (.lshl, 1) := by decide +kernel
theorem dX5_tell_170 : decode cX5_tell 170 = .ok (.lor, 1) := by decide +kernel
theorem dX5_tell_171 : decode cX5_tell 171 = .ok (.putfield 146, 3) := by decide +kernel
theorem dX5_tell_174 : decode cX5_tell 174 = .ok (.iinc 4 1, 3) := by decide +kernel
theorem dX5_tell_177 : decode cX5_tell 177 = .ok (.goto (-22), 3) := by decide +kernel
theorem dX5_tell_180 : decode cX5_tell 180 = .ok (.return_, 1) := by decide +kernel
theorem dX5_tell_181 : decode cX5_tell 181 = .ok (.aload_n 0, 1) := by decide +kernel
theorem dX5_tell_182 : decode cX5_tell 182 = .ok (.iconst 0, 1) := by decide +kernel
theorem dX5_tell_183 : decode cX5_tell 183 = .ok (.putfield 134, 3) := by decide +kernel
theorem dX5_tell_186 : decode cX5_tell 186 = .ok (.return_, 1) := by decide +kernel
theorem dX5_tell_187 : decode cX5_tell 187 = .ok (.aload_n 0, 1) := by decide +kernel
theorem dX5_tell_188 : decode cX5_tell 188 = .ok (.iload_n 1, 1) := by decide +kernel
theorem dX5_tell_189 : decode cX5_tell 189 = .ok (.invokevirtual 153, 3) := by decide +kernel
theorem dX5_tell_192 : decode cX5_tell 192 = .ok (.return_, 1) := by decide +kernel
theorem dX5_park_0 : decode cX5_park 0 = .ok (.aload_n 0, 1) := by decide +kernel
theorem dX5_park_1 : decode cX5_park 1 = .ok (.invokevirtual 157, 3) := by decide +kernel
theorem dX5_park_4 : decode cX5_park 4 = .ok (.iconst (-1), 1) := by decide +kernel
theorem dX5_park_5 : decode cX5_park 5 = .ok (.if_icmp .eq 6, 3) := by decide +kernel
theorem dX5_park_8 : decode cX5_park 8 = .ok (.bipush (-4), 2) := by decide +kernel
theorem dX5_park_10 : decode cX5_park 10 = .ok (.ireturn, 1) := by decide +kernel
theorem dX5_park_11 : decode cX5_park 11 = .ok (.iconst 0, 1) := by decide +kernel
theorem dX5_park_12 : decode cX5_park 12 = .ok (.istore_n 1, 1) := by decide +kernel
theorem dX5_park_13 : decode cX5_park 13 = .ok (.iload_n 1, 1) := by decide +kernel
theorem dX5_park_14 : decode cX5_park 14 = .ok (.aload_n 0, 1) := by decide +kernel
theorem dX5_park_15 : decode cX5_park 15 = .ok (.getfield 92, 3) := by decide +kernel
theorem dX5_park_18 : decode cX5_park 18 = .ok (.if_icmp .ge 16, 3) := by decide +kernel
theorem dX5_park_21 : decode cX5_park 21 = .ok (.aload_n 0, 1) := by decide +kernel
theorem dX5_park_22 : decode cX5_park 22 = .ok (.iconst 5, 1) := by decide +kernel
theorem dX5_park_23 : decode cX5_park 23 = .ok (.iload_n 1, 1) := by decide +kernel
theorem dX5_park_24 : decode cX5_park 24 = .ok (.imul, 1) := by decide +kernel
theorem dX5_park_25 : decode cX5_park 25 = .ok (.invokevirtual 160, 3) := by decide +kernel
theorem dX5_park_28 : decode cX5_park 28 = .ok (.iinc 1 1, 3) := by decide +kernel
theorem dX5_park_31 : decode cX5_park 31 = .ok (.goto (-18), 3) := by decide +kernel
theorem dX5_park_34 : decode cX5_park 34 = .ok (.aload_n 0, 1) := by decide +kernel
theorem dX5_park_35 : decode cX5_park 35 = .ok (.getfield 7, 3) := by decide +kernel
theorem dX5_park_38 : decode cX5_park 38 = .ok (.iconst 0, 1) := by decide +kernel
theorem dX5_park_39 : decode cX5_park 39 = .ok (.iconst 1, 1) := by decide +kernel
theorem dX5_park_40 : decode cX5_park 40 = .ok (.aload_n 0, 1) := by decide +kernel
theorem dX5_park_41 : decode cX5_park 41 = .ok (.getfield 134, 3) := by decide +kernel
theorem dX5_park_44 : decode cX5_park 44 = .ok (.ishl, 1) := by decide +kernel
theorem dX5_park_45 : decode cX5_park 45 = .ok (.iconst 1, 1) := by decide +kernel
theorem dX5_park_46 : decode cX5_park 46 = .ok (.isub, 1) := by decide +kernel
theorem dX5_park_47 : decode cX5_park 47 = .ok (.iastore, 1) := by decide +kernel
theorem dX5_park_48 : decode cX5_park 48 = .ok (.aload_n 0, 1) := by decide +kernel
theorem dX5_park_49 : decode cX5_park 49 = .ok (.getfield 7, 3) := by decide +kernel
theorem dX5_park_52 : decode cX5_park 52 = .ok (.iconst 1, 1) := by decide +kernel
theorem dX5_park_53 : decode cX5_park 53 = .ok (.iconst (-1), 1) := by decide +kernel
theorem dX5_park_54 : decode cX5_park 54 = .ok (.iastore, 1) := by decide +kernel
theorem dX5_park_55 : decode cX5_park 55 = .ok (.aload_n 0, 1) := by decide +kernel
theorem dX5_park_56 : decode cX5_park 56 = .ok (.getfield 23, 3) := by decide +kernel
theorem dX5_park_59 : decode cX5_park 59 = .ok (.aload_n 0, 1) := by decide +kernel
theorem dX5_park_60 : decode cX5_park 60 = .ok (.getfield 27, 3) := by decide +kernel
theorem dX5_park_63 : decode cX5_park 63 = .ok (.imul, 1) := by decide +kernel
theorem dX5_park_64 : decode cX5_park 64 = .ok (.iconst 1, 1) := by decide +kernel
theorem dX5_park_65 : decode cX5_park 65 = .ok (.isub, 1) := by decide +kernel
theorem dX5_park_66 : decode cX5_park 66 = .ok (.istore_n 1, 1) := by decide +kernel
theorem dX5_park_67 : decode cX5_park 67 = .ok (.iload_n 1, 1) := by decide +kernel
theorem dX5_park_68 : decode cX5_park 68 = .ok (.ifCond .lt 36, 3) := by decide +kernel
theorem dX5_park_71 : decode cX5_park 71 = .ok (.aload_n 0, 1) := by decide +kernel
theorem dX5_park_72 : decode cX5_park 72 = .ok (.getfield 7, 3) := by decide +kernel
theorem dX5_park_75 : decode cX5_park 75 = .ok (.iconst 1, 1) := by decide +kernel
theorem dX5_park_76 : decode cX5_park 76 = .ok (.aload_n 0, 1) := by decide +kernel
theorem dX5_park_77 : decode cX5_park 77 = .ok (.getfield 146, 3) := by decide +kernel
theorem dX5_park_80 : decode cX5_park 80 = .ok (.iload_n 1, 1) := by decide +kernel
theorem dX5_park_81 : decode cX5_park 81 = .ok (.invokestatic 105, 3) := by decide +kernel
theorem dX5_park_84 : decode cX5_park 84 = .ok (.ifCond .eq 7, 3) := by decide +kernel
theorem dX5_park_87 : decode cX5_park 87 = .ok (.iload_n 1, 1) := by decide +kernel
theorem dX5_park_88 : decode cX5_park 88 = .ok (.goto 9, 3) := by decide +kernel
theorem dX5_park_91 : decode cX5_park 91 = .ok (.aload_n 0, 1) := by decide +kernel
theorem dX5_park_92 : decode cX5_park 92 = .ok (.getfield 7, 3) := by decide +kernel
theorem dX5_park_95 : decode cX5_park 95 = .ok (.iconst 1, 1) := by decide +kernel
theorem dX5_park_96 : decode cX5_park 96 = .ok (.iaload, 1) := by decide +kernel
theorem dX5_park_97 : decode cX5_park 97 = .ok (.iastore, 1) := by decide +kernel
theorem dX5_park_98 : decode cX5_park 98 = .ok (.iinc 1 (-1), 3) := by decide +kernel
theorem dX5_park_101 : decode cX5_park 101 = .ok (.goto (-34), 3) := by decide +kernel
theorem dX5_park_104 : decode cX5_park 104 = .ok (.aload_n 0, 1) := by decide +kernel
theorem dX5_park_105 : decode cX5_park 105 = .ok (.getfield 7, 3) := by decide +kernel
theorem dX5_park_108 : decode cX5_park 108 = .ok (.iconst 2, 1) := by decide +kernel
theorem dX5_park_109 : decode cX5_park 109 = .ok (.iconst 0, 1) := by decide +kernel
theorem dX5_park_110 : decode cX5_park 110 = .ok (.iastore, 1) := by decide +kernel
theorem dX5_park_111 : decode cX5_park 111 = .ok (.aload_n 0, 1) := by decide +kernel
theorem dX5_park_112 : decode cX5_park 112 = .ok (.iconst 0, 1) := by decide +kernel
theorem dX5_park_113 : decode cX5_park 113 = .ok (.putfield 163, 3) := by decide +kernel
theorem dX5_park_116 : decode cX5_park 116 = .ok (.aload_n 0, 1) := by decide +kernel
theorem dX5_park_117 : decode cX5_park 117 = .ok (.getfield 13, 3) := by decide +kernel
theorem dX5_park_120 : decode cX5_park 120 = .ok (.iconst 0, 1) := by decide +kernel
theorem dX5_park_121 : decode cX5_park 121 = .ok (.iconst 0, 1) := by decide +kernel
theorem dX5_park_122 : decode cX5_park 122 = .ok (.bastore, 1) := by decide +kernel
theorem dX5_park_123 : decode cX5_park 123 = .ok (.aload_n 0, 1) := by decide +kernel
theorem dX5_park_124 : decode cX5_park 124 = .ok (.getfield 13, 3) := by decide +kernel
theorem dX5_park_127 : decode cX5_park 127 = .ok (.iconst 1, 1) := by decide +kernel
theorem dX5_park_128 : decode cX5_park 128 = .ok (.iconst 0, 1) := by decide +kernel
theorem dX5_park_129 : decode cX5_park 129 = .ok (.bastore, 1) := by decide +kernel
theorem dX5_park_130 : decode cX5_park 130 = .ok (.aload_n 0, 1) := by decide +kernel
theorem dX5_park_131 : decode cX5_park 131 = .ok (.iconst 0, 1) := by decide +kernel
theorem dX5_park_132 : decode cX5_park 132 = .ok (.putfield 51, 3) := by decide +kernel
theorem dX5_park_135 : decode cX5_park 135 = .ok (.aload_n 0, 1) := by decide +kernel
theorem dX5_park_136 : decode cX5_park 136 = .ok (.getfield 92, 3) := by decide +kernel
theorem dX5_park_139 : decode cX5_park 139 = .ok (.ireturn, 1) := by decide +kernel
theorem dX5_isPlace_0 : decode cX5_isPlace 0 = .ok (.iload_n 1, 1) := by decide +kernel
theorem dX5_isPlace_1 : decode cX5_isPlace 1 = .ok (.i2l, 1) := by decide +kernel
theorem dX5_isPlace_2 : decode cX5_isPlace 2 = .ok (.lconst 0, 1) := by decide +kernel
theorem dX5_isPlace_3 : decode cX5_isPlace 3 = .ok (.aload_n 0, 1) := by decide +kernel
theorem dX5_isPlace_4 : decode cX5_isPlace 4 = .ok (.getfield 23, 3) := by decide +kernel
theorem dX5_isPlace_7 : decode cX5_isPlace 7 = .ok (.aload_n 0, 1) := by decide +kernel
theorem dX5_isPlace_8 : decode cX5_isPlace 8 = .ok (.getfield 27, 3) := by decide +kernel
theorem dX5_isPlace_11 : decode cX5_isPlace 11 = .ok (.imul, 1) := by decide +kernel
theorem dX5_isPlace_12 : decode cX5_isPlace 12 = .ok (.iconst 1, 1) := by decide +kernel
theorem dX5_isPlace_13 : decode cX5_isPlace 13 = .ok (.isub, 1) := by decide +kernel
theorem dX5_isPlace_14 : decode cX5_isPlace 14 = .ok (.i2l, 1) := by decide +kernel
theorem dX5_isPlace_15 : decode cX5_isPlace 15 = .ok (.invokestatic 47, 3) := by decide +kernel
theorem dX5_isPlace_18 : decode cX5_isPlace 18 = .ok (.ireturn, 1) := by decide +kernel
theorem dX5_isBand_0 : decode cX5_isBand 0 = .ok (.iload_n 1, 1) := by decide +kernel
theorem dX5_isBand_1 : decode cX5_isBand 1 = .ok (.i2l, 1) := by decide +kernel
theorem dX5_isBand_2 : decode cX5_isBand 2 = .ok (.lconst 0, 1) := by decide +kernel
theorem dX5_isBand_3 : decode cX5_isBand 3 = .ok (.aload_n 0, 1) := by decide +kernel
theorem dX5_isBand_4 : decode cX5_isBand 4 = .ok (.getfield 134, 3) := by decide +kernel
theorem dX5_isBand_7 : decode cX5_isBand 7 = .ok (.iconst 1, 1) := by decide +kernel
theorem dX5_isBand_8 : decode cX5_isBand 8 = .ok (.isub, 1) := by decide +kernel
theorem dX5_isBand_9 : decode cX5_isBand 9 = .ok (.i2l, 1) := by decide +kernel
theorem dX5_isBand_10 : decode cX5_isBand 10 = .ok (.invokestatic 47, 3) := by decide +kernel
theorem dX5_isBand_13 : decode cX5_isBand 13 = .ok (.ireturn, 1) := by decide +kernel
theorem dX5_far_0 : decode cX5_far 0 = .ok (.iload_n 1, 1) := by decide +kernel
theorem dX5_far_1 : decode cX5_far 1 = .ok (.aload_n 0, 1) := by decide +kernel
theorem dX5_far_2 : decode cX5_far 2 = .ok (.getfield 23, 3) := by decide +kernel
theorem dX5_far_5 : decode cX5_far 5 = .ok (.irem, 1) := by decide +kernel
theorem dX5_far_6 : decode cX5_far 6 = .ok (.iload_n 2, 1) := by decide +kernel
theorem dX5_far_7 : decode cX5_far 7 = .ok (.aload_n 0, 1) := by decide +kernel
theorem dX5_far_8 : decode cX5_far 8 = .ok (.getfield 23, 3) := by decide +kernel
theorem dX5_far_11 : decode cX5_far 11 = .ok (.irem, 1) := by decide +kernel
theorem dX5_far_12 : decode cX5_far 12 = .ok (.isub, 1) := by decide +kernel
theorem dX5_far_13 : decode cX5_far 13 = .ok (.istore_n 3, 1) := by decide +kernel
theorem dX5_far_14 : decode cX5_far 14 = .ok (.iload_n 1, 1) := by decide +kernel
theorem dX5_far_15 : decode cX5_far 15 = .ok (.aload_n 0, 1) := by decide +kernel
theorem dX5_far_16 : decode cX5_far 16 = .ok (.getfield 23, 3) := by decide +kernel
theorem dX5_far_19 : decode cX5_far 19 = .ok (.idiv, 1) := by decide +kernel
theorem dX5_far_20 : decode cX5_far 20 = .ok (.iload_n 2, 1) := by decide +kernel
theorem dX5_far_21 : decode cX5_far 21 = .ok (.aload_n 0, 1) := by decide +kernel
theorem dX5_far_22 : decode cX5_far 22 = .ok (.getfield 23, 3) := by decide +kernel
theorem dX5_far_25 : decode cX5_far 25 = .ok (.idiv, 1) := by decide +kernel
theorem dX5_far_26 : decode cX5_far 26 = .ok (.isub, 1) := by decide +kernel
theorem dX5_far_27 : decode cX5_far 27 = .ok (.istore 4, 2) := by decide +kernel
theorem dX5_far_29 : decode cX5_far 29 = .ok (.iload_n 3, 1) := by decide +kernel
theorem dX5_far_30 : decode cX5_far 30 = .ok (.ifCond .ge 8, 3) := by decide +kernel
theorem dX5_far_33 : decode cX5_far 33 = .ok (.iload_n 3, 1) := by decide +kernel
theorem dX5_far_34 : decode cX5_far 34 = .ok (.ineg, 1) := by decide +kernel
theorem dX5_far_35 : decode cX5_far 35 = .ok (.goto 4, 3) := by decide +kernel
theorem dX5_far_38 : decode cX5_far 38 = .ok (.iload_n 3, 1) := by decide +kernel
theorem dX5_far_39 : decode cX5_far 39 = .ok (.iload 4, 2) := by decide +kernel
theorem dX5_far_41 : decode cX5_far 41 = .ok (.ifCond .ge 9, 3) := by decide +kernel
theorem dX5_far_44 : decode cX5_far 44 = .ok (.iload 4, 2) := by decide +kernel
theorem dX5_far_46 : decode cX5_far 46 = .ok (.ineg, 1) := by decide +kernel
theorem dX5_far_47 : decode cX5_far 47 = .ok (.goto 5, 3) := by decide +kernel
theorem dX5_far_50 : decode cX5_far 50 = .ok (.iload 4, 2) := by decide +kernel
theorem dX5_far_52 : decode cX5_far 52 = .ok (.iadd, 1) := by decide +kernel
theorem dX5_far_53 : decode cX5_far 53 = .ok (.ireturn, 1) := by decide +kernel
theorem dX5_fluteAt_0 : decode cX5_fluteAt 0 = .ok (.aload_n 0, 1) := by decide +kernel
theorem dX5_fluteAt_1 : decode cX5_fluteAt 1 = .ok (.getfield 33, 3) := by decide +kernel
theorem dX5_fluteAt_4 : decode cX5_fluteAt 4 = .ok (.aload_n 0, 1) := by decide +kernel
theorem dX5_fluteAt_5 : decode cX5_fluteAt 5 = .ok (.getfield 30, 3) := by decide +kernel
theorem dX5_fluteAt_8 : decode cX5_fluteAt 8 = .ok (.aload_n 0, 1) := by decide +kernel
theorem dX5_fluteAt_9 : decode cX5_fluteAt 9 = .ok (.aload_n 0, 1) := by decide +kernel
theorem dX5_fluteAt_10 : decode cX5_fluteAt 10 = .ok (.getfield 143, 3) := by decide +kernel
theorem dX5_fluteAt_13 : decode cX5_fluteAt 13 = .ok (.iload_n 1, 1) := by decide +kernel
theorem dX5_fluteAt_14 : decode cX5_fluteAt 14 = .ok (.invokevirtual 166, 3) := by decide +kernel
theorem dX5_fluteAt_17 : decode cX5_fluteAt 17 = .ok (.imul, 1) := by decide +kernel
theorem dX5_fluteAt_18 : decode cX5_fluteAt 18 = .ok (.isub, 1) := by decide +kernel
theorem dX5_fluteAt_19 : decode cX5_fluteAt 19 = .ok (.istore_n 2, 1) := by decide +kernel
theorem dX5_fluteAt_20 : decode cX5_fluteAt 20 = .ok (.iload_n 2, 1) := by decide +kernel
theorem dX5_fluteAt_21 : decode cX5_fluteAt 21 = .ok (.ifCond .le 7, 3) := by decide +kernel
theorem dX5_fluteAt_24 : decode cX5_fluteAt 24 = .ok (.iload_n 2, 1) := by decide +kernel
theorem dX5_fluteAt_25 : decode cX5_fluteAt 25 = .ok (.goto 4, 3) := by decide +kernel
theorem dX5_fluteAt_28 : decode cX5_fluteAt 28 = .ok (.iconst 0, 1) := by decide +kernel
theorem dX5_fluteAt_29 : decode cX5_fluteAt 29 = .ok (.ireturn, 1) := by decide +kernel
theorem dX5_isToSide_0 : decode cX5_isToSide 0 = .ok (.aload_n 0, 1) := by decide +kernel
theorem dX5_isToSide_1 : decode cX5_isToSide 1 = .ok (.getfield 36, 3) := by decide +kernel
theorem dX5_isToSide_4 : decode cX5_isToSide 4 = .ok (.bipush 7, 2) := by decide +kernel
theorem dX5_isToSide_6 : decode cX5_isToSide 6 = .ok (.iload_n 1, 1) := by decide +kernel
theorem dX5_isToSide_7 : decode cX5_isToSide 7 = .ok (.imul, 1) := by decide +kernel
theorem dX5_isToSide_8 : decode cX5_isToSide 8 = .ok (.iconst 1, 1) := by decide +kernel
theorem dX5_isToSide_9 : decode cX5_isToSide 9 = .ok (.iadd, 1) := by decide +kernel
theorem dX5_isToSide_10 : decode cX5_isToSide 10 = .ok (.iaload, 1) := by decide +kernel
theorem dX5_isToSide_11 : decode cX5_isToSide 11 = .ok (.istore_n 3, 1) := by decide +kernel
theorem dX5_isToSide_12 : decode cX5_isToSide 12 = .ok (.aload_n 0, 1) := by decide +kernel
theorem dX5_isToSide_13 : decode cX5_isToSide 13 = .ok (.getfield 36, 3) := by decide +kernel
theorem dX5_isToSide_16 : decode cX5_isToSide 16 = .ok (.bipush 7, 2) := by decide +kernel
theorem dX5_isToSide_18 : decode cX5_isToSide 18 = .ok (.iload_n 1, 1) := by decide +kernel
theorem dX5_isToSide_19 : decode cX5_isToSide 19 = .ok (.imul, 1) := by decide +kernel
theorem dX5_isToSide_20 : decode cX5_isToSide 20 = .ok (.bipush 6, 2) := by decide +kernel
theorem dX5_isToSide_22 : decode cX5_isToSide 22 = .ok (.iadd, 1) := by decide +kernel
theorem dX5_isToSide_23 : decode cX5_isToSide 23 = .ok (.iaload, 1) := by decide +kernel
theorem dX5_isToSide_24 : decode cX5_isToSide 24 = .ok (.istore 4, 2) := by decide +kernel
theorem dX5_isToSide_26 : decode cX5_isToSide 26 = .ok (.iload_n 2, 1) := by decide +kernel
theorem dX5_isToSide_27 : decode cX5_isToSide 27 = .ok (.aload_n 0, 1) := by decide +kernel
theorem dX5_isToSide_28 : decode cX5_isToSide 28 = .ok (.getfield 23, 3) := by decide +kernel
theorem dX5_isToSide_31 : decode cX5_isToSide 31 = .ok (.irem, 1) := by decide +kernel
theorem dX5_isToSide_32 : decode cX5_isToSide 32 = .ok (.iload_n 3, 1) := by decide +kernel
theorem dX5_isToSide_33 : decode cX5_isToSide 33 = .ok (.aload_n 0, 1) := by decide +kernel
theorem dX5_isToSide_34 : decode cX5_isToSide 34 = .ok (.getfield 23, 3) := by decide +kernel
theorem dX5_isToSide_37 : decode cX5_isToSide 37 = .ok (.irem, 1) := by decide +kernel
theorem dX5_isToSide_38 : decode cX5_isToSide 38 = .ok (.isub, 1) := by decide +kernel
theorem dX5_isToSide_39 : decode cX5_isToSide 39 = .ok (.istore 5, 2) := by decide +kernel
theorem dX5_isToSide_41 : decode cX5_isToSide 41 = .ok (.iload_n 2, 1) := by decide +kernel
theorem dX5_isToSide_42 : decode cX5_isToSide 42 = .ok (.aload_n 0, 1) := by decide +kernel
theorem dX5_isToSide_43 : decode cX5_isToSide 43 = .ok (.getfield 23, 3) := by decide +kernel
theorem dX5_isToSide_46 : decode cX5_isToSide 46 = .ok (.idiv, 1) := by decide +kernel
theorem dX5_isToSide_47 : decode cX5_isToSide 47 = .ok (.iload_n 3, 1) := by decide +kernel
theorem dX5_isToSide_48 : decode cX5_isToSide 48 = .ok (.aload_n 0, 1) := by decide +kernel
theorem dX5_isToSide_49 : decode cX5_isToSide 49 = .ok (.getfield 23, 3) := by decide +kernel
theorem dX5_isToSide_52 : decode cX5_isToSide 52 = .ok (.idiv, 1) := by decide +kernel
theorem dX5_isToSide_53 : decode cX5_isToSide 53 = .ok (.isub, 1) := by decide +kernel
theorem dX5_isToSide_54 : decode cX5_isToSide 54 = .ok (.istore 6, 2) := by decide +kernel
theorem dX5_isToSide_56 : decode cX5_isToSide 56 = .ok (.iload 4, 2) := by decide +kernel
theorem dX5_isToSide_58 : decode cX5_isToSide 58 = .ok (.ifCond .ne 16, 3) := by decide +kernel
theorem dX5_isToSide_61 : decode cX5_isToSide 61 = .ok (.iload 6, 2) := by decide +kernel
theorem dX5_isToSide_63 : decode cX5_isToSide 63 = .ok (.ifCond .ge 7, 3) := by decide +kernel
theorem dX5_isToSide_66 : decode cX5_isToSide 66 = .ok (.iconst 1, 1) := by decide +kernel
theorem dX5_isToSide_67 : decode cX5_isToSide 67 = .ok (.goto 55, 3) := by decide +kernel
theorem dX5_isToSide_70 : decode cX5_isToSide 70 = .ok (.iconst 0, 1) := by decide +kernel
theorem dX5_isToSide_71 : decode cX5_isToSide 71 = .ok (.goto 51, 3) := by decide +kernel
theorem dX5_isToSide_74 : decode cX5_isToSide 74 = .ok (.iload 4, 2) := by decide +kernel
theorem dX5_isToSide_76 : decode cX5_isToSide 76 = .ok (.iconst 1, 1) := by decide +kernel
theorem dX5_isToSide_77 : decode cX5_isToSide 77 = .ok (.if_icmp .ne 16, 3) := by decide +kernel
theorem dX5_isToSide_80 : decode cX5_isToSide 80 = .ok (.iload 5, 2) := by decide +kernel
theorem dX5_isToSide_82 : decode cX5_isToSide 82 = .ok (.ifCond .le 7, 3) := by decide +kernel
theorem dX5_isToSide_85 : decode cX5_isToSide 85 = .ok (.iconst 1, 1) := by decide +kernel
theorem dX5_isToSide_86 : decode cX5_isToSide 86 = .ok (.goto 36, 3) := by decide +kernel
theorem dX5_isToSide_89 : decode cX5_isToSide 89 = .ok (.iconst 0, 1) := by decide +kernel
theorem dX5_isToSide_90 : decode cX5_isToSide 90 = .ok (.goto 32, 3) := by decide +kernel
theorem dX5_isToSide_93 : decode cX5_isToSide 93 = .ok (.iload 4, 2) := by decide +kernel
theorem dX5_isToSide_95 : decode cX5_isToSide 95 = .ok (.iconst 2, 1) := by decide +kernel
theorem dX5_isToSide_96 : decode cX5_isToSide 96 = .ok (.if_icmp .ne 16, 3) := by decide +kernel
theorem dX5_isToSide_99 : decode cX5_isToSide 99 = .ok (.iload 6, 2) := by decide +kernel
theorem dX5_isToSide_101 : decode cX5_isToSide 101 = .ok (.ifCond .le 7, 3) := by decide +kernel
theorem dX5_isToSide_104 : decode cX5_isToSide 104 = .ok (.iconst 1, 1) := by decide +kernel
theorem dX5_isToSide_105 : decode cX5_isToSide 105 = .ok (.goto 17, 3) := by decide +kernel
theorem dX5_isToSide_108 : decode cX5_isToSide 108 = .ok (.iconst 0, 1) := by decide +kernel
theorem dX5_isToSide_109 : decode cX5_isToSide 109 = .ok (.goto 13, 3) := by decide +kernel
theorem dX5_isToSide_112 : decode cX5_isToSide 112 = .ok (.iload 5, 2) := by decide +kernel
theorem dX5_isToSide_114 : decode cX5_isToSide 114 = .ok (.ifCond .ge 7, 3) := by decide +kernel
theorem dX5_isToSide_117 : decode cX5_isToSide 117 = .ok (.iconst 1, 1) := by decide +kernel
theorem dX5_isToSide_118 : decode cX5_isToSide 118 = .ok (.goto 4, 3) := by decide +kernel
theorem dX5_isToSide_121 : decode cX5_isToSide 121 = .ok (.iconst 0, 1) := by decide +kernel
theorem dX5_isToSide_122 : decode cX5_isToSide 122 = .ok (.ireturn, 1) := by decide +kernel
theorem dX5_soundOf_0 : decode cX5_soundOf 0 = .ok (.bipush 7, 2) := by decide +kernel
theorem dX5_soundOf_2 : decode cX5_soundOf 2 = .ok (.iload_n 1, 1) := by decide +kernel
theorem dX5_soundOf_3 : decode cX5_soundOf 3 = .ok (.imul, 1) := by decide +kernel
theorem dX5_soundOf_4 : decode cX5_soundOf 4 = .ok (.istore 4, 2) := by decide +kernel
theorem dX5_soundOf_6 : decode cX5_soundOf 6 = .ok (.aload_n 0, 1) := by decide +kernel
theorem dX5_soundOf_7 : decode cX5_soundOf 7 = .ok (.getfield 36, 3) := by decide +kernel
theorem dX5_soundOf_10 : decode cX5_soundOf 10 = .ok (.iload 4, 2) := by decide +kernel
theorem dX5_soundOf_12 : decode cX5_soundOf 12 = .ok (.iaload, 1) := by decide +kernel
theorem dX5_soundOf_13 : decode cX5_soundOf 13 = .ok (.istore 5, 2) := by decide +kernel
theorem dX5_soundOf_15 : decode cX5_soundOf 15 = .ok (.iload_n 3, 1) := by decide +kernel
theorem dX5_soundOf_16 : decode cX5_soundOf 16 = .ok (.i2l, 1) := by decide +kernel
theorem dX5_soundOf_17 : decode cX5_soundOf 17 = .ok (.aload_n 0, 1) := by decide +kernel
theorem dX5_soundOf_18 : decode cX5_soundOf 18 = .ok (.getfield 36, 3) := by decide +kernel
theorem dX5_soundOf_21 : decode cX5_soundOf 21 = .ok (.iload 4, 2) := by decide +kernel
theorem dX5_soundOf_23 : decode cX5_soundOf 23 = .ok (.iconst 3, 1) := by decide +kernel
theorem dX5_soundOf_24 : decode cX5_soundOf 24 = .ok (.iadd, 1) := by decide +kernel
theorem dX5_soundOf_25 : decode cX5_soundOf 25 = .ok (.iaload, 1) := by decide +kernel
theorem dX5_soundOf_26 : decode cX5_soundOf 26 = .ok (.i2l, 1) := by decide +kernel
theorem dX5_soundOf_27 : decode cX5_soundOf 27 = .ok (.aload_n 0, 1) := by decide +kernel
theorem dX5_soundOf_28 : decode cX5_soundOf 28 = .ok (.getfield 36, 3) := by decide +kernel
theorem dX5_soundOf_31 : decode cX5_soundOf 31 = .ok (.iload 4, 2) := by decide +kernel
theorem dX5_soundOf_33 : decode cX5_soundOf 33 = .ok (.iconst 4, 1) := by decide +kernel
theorem dX5_soundOf_34 : decode cX5_soundOf 34 = .ok (.iadd, 1) := by decide +kernel
theorem dX5_soundOf_35 : decode cX5_soundOf 35 = .ok (.iaload, 1) := by decide +kernel
theorem dX5_soundOf_36 : decode cX5_soundOf 36 = .ok (.i2l, 1) := by decide +kernel
theorem dX5_soundOf_37 : decode cX5_soundOf 37 = .ok (.invokestatic 47, 3) := by decide +kernel
theorem dX5_soundOf_40 : decode cX5_soundOf 40 = .ok (.ifCond .eq 31, 3) := by decide +kernel
theorem dX5_soundOf_43 : decode cX5_soundOf 43 = .ok (.iload 5, 2) := by decide +kernel
theorem dX5_soundOf_45 : decode cX5_soundOf 45 = .ok (.iconst 2, 1) := by decide +kernel
theorem dX5_soundOf_46 : decode cX5_soundOf 46 = .ok (.if_icmp .ne 10, 3) := by decide +kernel
theorem dX5_soundOf_49 : decode cX5_soundOf 49 = .ok (.iload_n 3, 1) := by decide +kernel
theorem dX5_soundOf_50 : decode cX5_soundOf 50 = .ok (.iconst 2, 1) := by decide +kernel
theorem dX5_soundOf_51 : decode cX5_soundOf 51 = .ok (.irem, 1) := by decide +kernel
theorem dX5_soundOf_52 : decode cX5_soundOf 52 = .ok (.iconst 1, 1) := by decide +kernel
theorem dX5_soundOf_53 : decode cX5_soundOf 53 = .ok (.if_icmp .eq 18, 3) := by decide +kernel
theorem dX5_soundOf_56 : decode cX5_soundOf 56 = .ok (.iload 5, 2) := by decide +kernel
theorem dX5_soundOf_58 : decode cX5_soundOf 58 = .ok (.iconst 1, 1) := by decide +kernel
theorem dX5_soundOf_59 : decode cX5_soundOf 59 = .ok (.if_icmp .ne 14, 3) := by decide +kernel
theorem dX5_soundOf_62 : decode cX5_soundOf 62 = .ok (.aload_n 0, 1) := by decide +kernel
theorem dX5_soundOf_63 : decode cX5_soundOf 63 = .ok (.iload_n 1, 1) := by decide +kernel
theorem dX5_soundOf_64 : decode cX5_soundOf 64 = .ok (.iload_n 2, 1) := by decide +kernel
theorem dX5_soundOf_65 : decode cX5_soundOf 65 = .ok (.invokevirtual 170, 3) := by decide +kernel
theorem dX5_soundOf_68 : decode cX5_soundOf 68 = .ok (.ifCond .ne 5, 3) := by decide +kernel
theorem dX5_soundOf_71 : decode cX5_soundOf 71 = .ok (.iconst 0, 1) := by decide +kernel
theorem dX5_soundOf_72 : decode cX5_soundOf 72 = .ok (.ireturn, 1) := by decide +kernel
theorem dX5_soundOf_73 : decode cX5_soundOf 73 = .ok (.aload_n 0, 1) := by decide +kernel
theorem dX5_soundOf_74 : decode cX5_soundOf 74 = .ok (.getfield 36, 3) := by decide +kernel
theorem dX5_soundOf_77 : decode cX5_soundOf 77 = .ok (.iload 4, 2) := by decide +kernel
theorem dX5_soundOf_79 : decode cX5_soundOf 79 = .ok (.iconst 2, 1) := by decide +kernel
theorem dX5_soundOf_80 : decode cX5_soundOf 80 = .ok (.iadd, 1) := by decide +kernel
theorem dX5_soundOf_81 : decode cX5_soundOf 81 = .ok (.iaload, 1) := by decide +kernel
theorem dX5_soundOf_82 : decode cX5_soundOf 82 = .ok (.aload_n 0, 1) := by decide +kernel
theorem dX5_soundOf_83 : decode cX5_soundOf 83 = .ok (.getfield 30, 3) := by decide +kernel
theorem dX5_soundOf_86 : decode cX5_soundOf 86 = .ok (.aload_n 0, 1) := by decide +kernel
theorem dX5_soundOf_87 : decode cX5_soundOf 87 = .ok (.aload_n 0, 1) := by decide +kernel
theorem dX5_soundOf_88 : decode cX5_soundOf 88 = .ok (.getfield 36, 3) := by decide +kernel
theorem dX5_soundOf_91 : decode cX5_soundOf 91 = .ok (.iload 4, 2) := by decide +kernel
theorem dX5_soundOf_93 : decode cX5_soundOf 93 = .ok (.iconst 1, 1) := by decide +kernel
theorem dX5_soundOf_94 : decode cX5_soundOf 94 = .ok (.iadd, 1) := by decide +kernel
theorem dX5_soundOf_95 : decode cX5_soundOf 95 = .ok (.iaload, 1) := by decide +kernel
theorem dX5_soundOf_96 : decode cX5_soundOf 96 = .ok (.iload_n 2, 1) := by decide +kernel
theorem dX5_soundOf_97 : decode cX5_soundOf 97 = .ok (.invokevirtual 166, 3) := by decide +kernel
theorem dX5_soundOf_100 : decode cX5_soundOf 100 = .ok (.imul, 1) := by decide +kernel
theorem dX5_soundOf_101 : decode cX5_soundOf 101 = .ok (.isub, 1) := by decide +kernel
theorem dX5_soundOf_102 : decode cX5_soundOf 102 = .ok (.istore 6, 2) := by decide +kernel
theorem dX5_soundOf_104 : decode cX5_soundOf 104 = .ok (.iload 6, 2) := by decide +kernel
theorem dX5_soundOf_106 : decode cX5_soundOf 106 = .ok (.ifCond .le 8, 3) := by decide +kernel
theorem dX5_soundOf_109 : decode cX5_soundOf 109 = .ok (.iload 6, 2) := by decide +kernel
theorem dX5_soundOf_111 : decode cX5_soundOf 111 = .ok (.goto 4, 3) := by decide +kernel
theorem dX5_soundOf_114 : decode cX5_soundOf 114 = .ok (.iconst 0, 1) := by decide +kernel
theorem dX5_soundOf_115 : decode cX5_soundOf 115 = .ok (.istore 6, 2) := by decide +kernel
theorem dX5_soundOf_117 : decode cX5_soundOf 117 = .ok (.iload 5, 2) := by decide +kernel
theorem dX5_soundOf_119 : decode cX5_soundOf 119 = .ok (.iconst 3, 1) := by decide +kernel
theorem dX5_soundOf_120 : decode cX5_soundOf 120 = .ok (.if_icmp .eq 29, 3) := by decide +kernel
theorem dX5_soundOf_123 : decode cX5_soundOf 123 = .ok (.aload_n 0, 1) := by decide +kernel
theorem dX5_soundOf_124 : decode cX5_soundOf 124 = .ok (.getfield 137, 3) := by decide +kernel
theorem dX5_soundOf_127 : decode cX5_soundOf 127 = .ok (.aload_n 0, 1) := by decide +kernel
theorem dX5_soundOf_128 : decode cX5_soundOf 128 = .ok (.getfield 36, 3) := by decide +kernel
theorem dX5_soundOf_131 : decode cX5_soundOf 131 = .ok (.iload 4, 2) := by decide +kernel
theorem dX5_soundOf_133 : decode cX5_soundOf 133 = .ok (.iconst 1, 1) := by decide +kernel
theorem dX5_soundOf_134 : decode cX5_soundOf 134 = .ok (.iadd, 1) := by decide +kernel
theorem dX5_soundOf_135 : decode cX5_soundOf 135 = .ok (.iaload, 1) := by decide +kernel
theorem dX5_soundOf_136 : decode cX5_soundOf 136 = .ok (.invokestatic 105, 3) := by decide +kernel
theorem dX5_soundOf_139 : decode cX5_soundOf 139 = .ok (.ifCond .eq 10, 3) := by decide +kernel
theorem dX5_soundOf_142 : decode cX5_soundOf 142 = .ok (.iload 6, 2) := by decide +kernel
theorem dX5_soundOf_144 : decode cX5_soundOf 144 = .ok (.iconst 2, 1) := by decide +kernel
theorem dX5_soundOf_145 : decode cX5_soundOf 145 = .ok (.idiv, 1) := by decide +kernel
theorem dX5_soundOf_146 : decode cX5_soundOf 146 = .ok (.goto 5, 3) := by decide +kernel
theorem dX5_soundOf_149 : decode cX5_soundOf 149 = .ok (.iload 6, 2) := by decide +kernel
theorem dX5_soundOf_151 : decode cX5_soundOf 151 = .ok (.ireturn, 1) := by decide +kernel
theorem dX5_noiseBy_0 : decode cX5_noiseBy 0 = .ok (.iconst 0, 1) := by decide +kernel
theorem dX5_noiseBy_1 : decode cX5_noiseBy 1 = .ok (.istore 4, 2) := by decide +kernel
theorem dX5_noiseBy_3 : decode cX5_noiseBy 3 = .ok (.iconst 0, 1) := by decide +kernel
theorem dX5_noiseBy_4 : decode cX5_noiseBy 4 = .ok (.istore 5, 2) := by decide +kernel
theorem dX5_noiseBy_6 : decode cX5_noiseBy 6 = .ok (.iload 5, 2) := by decide +kernel
theorem dX5_noiseBy_8 : decode cX5_noiseBy 8 = .ok (.aload_n 0, 1) := by decide +kernel
theorem dX5_noiseBy_9 : decode cX5_noiseBy 9 = .ok (.getfield 134, 3) := by decide +kernel
theorem dX5_noiseBy_12 : decode cX5_noiseBy 12 = .ok (.if_icmp .ge 36, 3) := by decide +kernel
theorem dX5_noiseBy_15 : decode cX5_noiseBy 15 = .ok (.iload 4, 2) := by decide +kernel
theorem dX5_noiseBy_17 : decode cX5_noiseBy 17 = .ok (.iload_n 1, 1) := by decide +kernel
theorem dX5_noiseBy_18 : decode cX5_noiseBy 18 = .ok (.i2l, 1) := by decide +kernel
theorem dX5_noiseBy_19 : decode cX5_noiseBy 19 = .ok (.iload 5, 2) := by decide +kernel
theorem dX5_noiseBy_21 : decode cX5_noiseBy 21 = .ok (.invokestatic 105, 3) := by decide +kernel
theorem dX5_noiseBy_24 : decode cX5_noiseBy 24 = .ok (.ifCond .eq 14, 3) := by decide +kernel
theorem dX5_noiseBy_27 : decode cX5_noiseBy 27 = .ok (.aload_n 0, 1) := by decide +kernel
theorem dX5_noiseBy_28 : decode cX5_noiseBy 28 = .ok (.iload 5, 2) := by decide +kernel
theorem dX5_noiseBy_30 : decode cX5_noiseBy 30 = .ok (.iload_n 2, 1) := by decide +kernel
theorem dX5_noiseBy_31 : decode cX5_noiseBy 31 = .ok (.iload_n 3, 1) := by decide +kernel
theorem dX5_noiseBy_32 : decode cX5_noiseBy 32 = .ok (.invokevirtual 173, 3) := by decide +kernel
theorem dX5_noiseBy_35 : decode cX5_noiseBy 35 = .ok (.goto 4, 3) := by decide +kernel
theorem dX5_noiseBy_38 : decode cX5_noiseBy 38 = .ok (.iconst 0, 1) := by decide +kernel
theorem dX5_noiseBy_39 : decode cX5_noiseBy 39 = .ok (.iadd, 1) := by decide +kernel
theorem dX5_noiseBy_40 : decode cX5_noiseBy 40 = .ok (.istore 4, 2) := by decide +kernel
theorem dX5_noiseBy_42 : decode cX5_noiseBy 42 = .ok (.iinc 5 1, 3) := by decide +kernel
theorem dX5_noiseBy_45 : decode cX5_noiseBy 45 = .ok (.goto (-39), 3) := by decide +kernel
theorem dX5_noiseBy_48 : decode cX5_noiseBy 48 = .ok (.iload 4, 2) := by decide +kernel
theorem dX5_noiseBy_50 : decode cX5_noiseBy 50 = .ok (.ireturn, 1) := by decide +kernel
theorem dX5_isHeard_0 : decode cX5_isHeard 0 = .ok (.aload_n 0, 1) := by decide +kernel
theorem dX5_isHeard_1 : decode cX5_isHeard 1 = .ok (.iload_n 2, 1) := by decide +kernel
theorem dX5_isHeard_2 : decode cX5_isHeard 2 = .ok (.invokevirtual 177, 3) := by decide +kernel
theorem dX5_isHeard_5 : decode cX5_isHeard 5 = .ok (.aload_n 0, 1) := by decide +kernel
theorem dX5_isHeard_6 : decode cX5_isHeard 6 = .ok (.iload_n 1, 1) := by decide +kernel
theorem dX5_isHeard_7 : decode cX5_isHeard 7 = .ok (.iload_n 2, 1) := by decide +kernel
theorem dX5_isHeard_8 : decode cX5_isHeard 8 = .ok (.iload_n 3, 1) := by decide +kernel
theorem dX5_isHeard_9 : decode cX5_isHeard 9 = .ok (.invokevirtual 180, 3) := by decide +kernel
theorem dX5_isHeard_12 : decode cX5_isHeard 12 = .ok (.if_icmp .le 7, 3) := by decide +kernel
theorem dX5_isHeard_15 : decode cX5_isHeard 15 = .ok (.iconst 1, 1) := by decide +kernel
theorem dX5_isHeard_16 : decode cX5_isHeard 16 = .ok (.goto 4, 3) := by decide +kernel
theorem dX5_isHeard_19 : decode cX5_isHeard 19 = .ok (.iconst 0, 1) := by decide +kernel
theorem dX5_isHeard_20 : decode cX5_isHeard 20 = .ok (.ireturn, 1) := by decide +kernel
theorem dX5_marginBy_0 : decode cX5_marginBy 0 = .ok (.sipush 999, 3) := by decide +kernel
theorem dX5_marginBy_3 : decode cX5_marginBy 3 = .ok (.istore_n 2, 1) := by decide +kernel
theorem dX5_marginBy_4 : decode cX5_marginBy 4 = .ok (.iconst 0, 1) := by decide +kernel
theorem dX5_marginBy_5 : decode cX5_marginBy 5 = .ok (.istore_n 3, 1) := by decide +kernel
theorem dX5_marginBy_6 : decode cX5_marginBy 6 = .ok (.iload_n 3, 1) := by decide +kernel
theorem dX5_marginBy_7 : decode cX5_marginBy 7 = .ok (.bipush 12, 2) := by decide +kernel
theorem dX5_marginBy_9 : decode cX5_marginBy 9 = .ok (.if_icmp .ge 80, 3) := by decide +kernel
theorem dX5_marginBy_12 : decode cX5_marginBy 12 = .ok (.iconst 0, 1) := by decide +kernel
theorem dX5_marginBy_13 : decode cX5_marginBy 13 = .ok (.istore 4, 2) := by decide +kernel
theorem dX5_marginBy_15 : decode cX5_marginBy 15 = .ok (.iload 4, 2) := by decide +kernel
theorem dX5_marginBy_17 : decode cX5_marginBy 17 = .ok (.aload_n 0, 1) := by decide +kernel
theorem dX5_marginBy_18 : decode cX5_marginBy 18 = .ok (.getfield 23, 3) := by decide +kernel
theorem dX5_marginBy_21 : decode cX5_marginBy 21 = .ok (.aload_n 0, 1) := by decide +kernel
theorem dX5_marginBy_22 : decode cX5_marginBy 22 = .ok (.getfield 27, 3) := by decide +kernel
theorem dX5_marginBy_25 : decode cX5_marginBy 25 = .ok (.imul, 1) := by decide +kernel
theorem dX5_marginBy_26 : decode cX5_marginBy 26 = .ok (.if_icmp .ge 57, 3) := by decide +kernel
theorem dX5_marginBy_29 : decode cX5_marginBy 29 = .ok (.aload_n 0, 1) := by decide +kernel
theorem dX5_marginBy_30 : decode cX5_marginBy 30 = .ok (.getfield 146, 3) := by decide +kernel
theorem dX5_marginBy_33 : decode cX5_marginBy 33 = .ok (.iload 4, 2) := by decide +kernel
theorem dX5_marginBy_35 : decode cX5_marginBy 35 = .ok (.invokestatic 105, 3) := by decide +kernel
theorem dX5_marginBy_38 : decode cX5_marginBy 38 = .ok (.ifCond .eq 21, 3) := by decide +kernel
theorem dX5_marginBy_41 : decode cX5_marginBy 41 = .ok (.aload_n 0, 1) := by decide +kernel
theorem dX5_marginBy_42 : decode cX5_marginBy 42 = .ok (.iload 4, 2) := by decide +kernel
theorem dX5_marginBy_44 : decode cX5_marginBy 44 = .ok (.invokevirtual 177, 3) := by decide +kernel
theorem dX5_marginBy_47 : decode cX5_marginBy 47 = .ok (.aload_n 0, 1) := by decide +kernel
theorem dX5_marginBy_48 : decode cX5_marginBy 48 = .ok (.iload_n 1, 1) := by decide +kernel
theorem dX5_marginBy_49 : decode cX5_marginBy 49 = .ok (.iload 4, 2) := by decide +kernel
theorem dX5_marginBy_51 : decode cX5_marginBy 51 = .ok (.iload_n 3, 1) := by decide +kernel
theorem dX5_marginBy_52 : decode cX5_marginBy 52 = .ok (.invokevirtual 180, 3) := by decide +kernel
theorem dX5_marginBy_55 : decode cX5_marginBy 55 = .ok (.isub, 1) := by decide +kernel
theorem dX5_marginBy_56 : decode cX5_marginBy 56 = .ok (.goto 6, 3) := by decide +kernel
theorem dX5_marginBy_59 : decode cX5_marginBy 59 = .ok (.sipush 999, 3) := by decide +kernel
theorem dX5_marginBy_62 : decode cX5_marginBy 62 = .ok (.istore 5, 2) := by decide +kernel
theorem dX5_marginBy_64 : decode cX5_marginBy 64 = .ok (.iload 5, 2) := by decide +kernel
theorem dX5_marginBy_66 : decode cX5_marginBy 66 = .ok (.iload_n 2, 1) := by decide +kernel
theorem dX5_marginBy_67 : decode cX5_marginBy 67 = .ok (.if_icmp .ge 8, 3) := by decide +kernel
theorem dX5_marginBy_70 : decode cX5_marginBy 70 = .ok (.iload 5, 2) := by decide +kernel
theorem dX5_marginBy_72 : decode cX5_marginBy 72 = .ok (.goto 4, 3) := by decide +kernel
theorem dX5_marginBy_75 : decode cX5_marginBy 75 = .ok (.iload_n 2, 1) := by decide +kernel
theorem dX5_marginBy_76 : decode cX5_marginBy 76 = .ok (.istore_n 2, 1) := by decide +kernel
theorem dX5_marginBy_77 : decode cX5_marginBy 77 = .ok (.iinc 4 1, 3) := by decide +kernel
theorem dX5_marginBy_80 : decode cX5_marginBy 80 = .ok (.goto (-65), 3) := by decide +kernel
theorem dX5_marginBy_83 : decode cX5_marginBy 83 = .ok (.iinc 3 1, 3) := by decide +kernel
theorem dX5_marginBy_86 : decode cX5_marginBy 86 = .ok (.goto (-80), 3) := by decide +kernel
theorem dX5_marginBy_89 : decode cX5_marginBy 89 = .ok (.iload_n 2, 1) := by decide +kernel
theorem dX5_marginBy_90 : decode cX5_marginBy 90 = .ok (.ireturn, 1) := by decide +kernel
theorem dX5_holdsBy_0 : decode cX5_holdsBy 0 = .ok (.aload_n 0, 1) := by decide +kernel
theorem dX5_holdsBy_1 : decode cX5_holdsBy 1 = .ok (.iload_n 1, 1) := by decide +kernel
theorem dX5_holdsBy_2 : decode cX5_holdsBy 2 = .ok (.invokevirtual 183, 3) := by decide +kernel
theorem dX5_holdsBy_5 : decode cX5_holdsBy 5 = .ok (.ifCond .le 7, 3) := by decide +kernel
theorem dX5_holdsBy_8 : decode cX5_holdsBy 8 = .ok (.iconst 1, 1) := by decide +kernel
theorem dX5_holdsBy_9 : decode cX5_holdsBy 9 = .ok (.goto 4, 3) := by decide +kernel
theorem dX5_holdsBy_12 : decode cX5_holdsBy 12 = .ok (.iconst 0, 1) := by decide +kernel
theorem dX5_holdsBy_13 : decode cX5_holdsBy 13 = .ok (.ireturn, 1) := by decide +kernel
theorem dX5_place_0 : decode cX5_place 0 = .ok (.aload_n 0, 1) := by decide +kernel
theorem dX5_place_1 : decode cX5_place 1 = .ok (.iload_n 1, 1) := by decide +kernel
theorem dX5_place_2 : decode cX5_place 2 = .ok (.invokevirtual 186, 3) := by decide +kernel
theorem dX5_place_5 : decode cX5_place 5 = .ok (.ifCond .ne 6, 3) := by decide +kernel
theorem dX5_place_8 : decode cX5_place 8 = .ok (.bipush (-2), 2) := by decide +kernel
theorem dX5_place_10 : decode cX5_place 10 = .ok (.ireturn, 1) := by decide +kernel
theorem dX5_place_11 : decode cX5_place 11 = .ok (.iconst 0, 1) := by decide +kernel
theorem dX5_place_12 : decode cX5_place 12 = .ok (.istore_n 3, 1) := by decide +kernel
theorem dX5_place_13 : decode cX5_place 13 = .ok (.iconst 0, 1) := by decide +kernel
theorem dX5_place_14 : decode cX5_place 14 = .ok (.istore 4, 2) := by decide +kernel
theorem dX5_place_16 : decode cX5_place 16 = .ok (.iload 4, 2) := by decide +kernel
theorem dX5_place_18 : decode cX5_place 18 = .ok (.aload_n 0, 1) := by decide +kernel
theorem dX5_place_19 : decode cX5_place 19 = .ok (.getfield 134, 3) := by decide +kernel
theorem dX5_place_22 : decode cX5_place 22 = .ok (.if_icmp .ge 36, 3) := by decide +kernel
theorem dX5_place_25 : decode cX5_place 25 = .ok (.iload_n 3, 1) := by decide +kernel
theorem dX5_place_26 : decode cX5_place 26 = .ok (.aload_n 0, 1) := by decide +kernel
theorem dX5_place_27 : decode cX5_place 27 = .ok (.getfield 36, 3) := by decide +kernel
theorem dX5_place_30 : decode cX5_place 30 = .ok (.bipush 7, 2) := by decide +kernel
theorem dX5_place_32 : decode cX5_place 32 = .ok (.iload 4, 2) := by decide +kernel
theorem dX5_place_34 : decode cX5_place 34 = .ok (.imul, 1) := by decide +kernel
theorem dX5_place_35 : decode cX5_place 35 = .ok (.iconst 1, 1) := by decide +kernel
theorem dX5_place_36 : decode cX5_place 36 = .ok (.iadd, 1) := by decide +kernel
theorem dX5_place_37 : decode cX5_place 37 = .ok (.iaload, 1) := by decide +kernel
theorem dX5_place_38 : decode cX5_place 38 = .ok (.iload_n 1, 1) := by decide +kernel
theorem dX5_place_39 : decode cX5_place 39 = .ok (.if_icmp .ne 10, 3) := by decide +kernel
theorem dX5_place_42 : decode cX5_place 42 = .ok (.iconst 1, 1) := by decide +kernel
theorem dX5_place_43 : decode cX5_place 43 = .ok (.iload 4, 2) := by decide +kernel
theorem dX5_place_45 : decode cX5_place 45 = .ok (.ishl, 1) := by decide +kernel
theorem dX5_place_46 : decode cX5_place 46 = .ok (.goto 4, 3) := by decide +kernel
theorem dX5_place_49 : decode cX5_place 49 = .ok (.iconst 0, 1) := by decide +kernel
theorem dX5_place_50 : decode cX5_place 50 = .ok (.ior, 1) := by decide +kernel
theorem dX5_place_51 : decode cX5_place 51 = .ok (.istore_n 3, 1) := by decide +kernel
theorem dX5_place_52 : decode cX5_place 52 = .ok (.iinc 4 1, 3) := by decide +kernel
theorem dX5_place_55 : decode cX5_place 55 = .ok (.goto (-39), 3) := by decide +kernel
theorem dX5_place_58 : decode cX5_place 58 = .ok (.iload_n 2, 1) := by decide +kernel
theorem dX5_place_59 : decode cX5_place 59 = .ok (.ifCond .ne 22, 3) := by decide +kernel
theorem dX5_place_62 : decode cX5_place 62 = .ok (.aload_n 0, 1) := by decide +kernel
theorem dX5_place_63 : decode cX5_place 63 = .ok (.getfield 146, 3) := by decide +kernel
theorem dX5_place_66 : decode cX5_place 66 = .ok (.iload_n 1, 1) := by decide +kernel
theorem dX5_place_67 : decode cX5_place 67 = .ok (.invokestatic 105, 3) := by decide +kernel
theorem dX5_place_70 : decode cX5_place 70 = .ok (.ifCond .eq 7, 3) := by decide +kernel
theorem dX5_place_73 : decode cX5_place 73 = .ok (.iconst 1, 1) := by decide +kernel
theorem dX5_place_74 : decode cX5_place 74 = .ok (.goto 55, 3) := by decide +kernel
theorem dX5_place_77 : decode cX5_place 77 = .ok (.iconst 0, 1) := by decide +kernel
theorem dX5_place_78 : decode cX5_place 78 = .ok (.goto 51, 3) := by decide +kernel
theorem dX5_place_81 : decode cX5_place 81 = .ok (.iload_n 2, 1) := by decide +kernel
theorem dX5_place_82 : decode cX5_place 82 = .ok (.iconst 1, 1) := by decide +kernel
theorem dX5_place_83 : decode cX5_place 83 = .ok (.if_icmp .ne 22, 3) := by decide +kernel
theorem dX5_place_86 : decode cX5_place 86 = .ok (.aload_n 0, 1) := by decide +kernel
theorem dX5_place_87 : decode cX5_place 87 = .ok (.getfield 137, 3) := by decide +kernel
theorem dX5_place_90 : decode cX5_place 90 = .ok (.iload_n 1, 1) := by decide +kernel
theorem dX5_place_91 : decode cX5_place 91 = .ok (.invokestatic 105, 3) := by decide +kernel
theorem dX5_place_94 : decode cX5_place 94 = .ok (.ifCond .eq 7, 3) := by decide +kernel
theorem dX5_place_97 : decode cX5_place 97 = .ok (.iconst 1, 1) := by decide +kernel
theorem dX5_place_98 : decode cX5_place 98 = .ok (.goto 31, 3) := by decide +kernel
theorem dX5_place_101 : decode cX5_place 101 = .ok (.iconst 0, 1) := by decide +kernel
theorem dX5_place_102 : decode cX5_place 102 = .ok (.goto 27, 3) := by decide +kernel
theorem dX5_place_105 : decode cX5_place 105 = .ok (.iload_n 2, 1) := by decide +kernel
theorem dX5_place_106 : decode cX5_place 106 = .ok (.iconst 2, 1) := by decide +kernel
theorem dX5_place_107 : decode cX5_place 107 = .ok (.if_icmp .ne 7, 3) := by decide +kernel
theorem dX5_place_110 : decode cX5_place 110 = .ok (.iload_n 3, 1) := by decide +kernel
theorem dX5_place_111 : decode cX5_place 111 = .ok (.goto 18, 3) := by decide +kernel
theorem dX5_place_114 : decode cX5_place 114 = .ok (.iload_n 2, 1) := by decide +kernel
theorem dX5_place_115 : decode cX5_place 115 = .ok (.iconst 3, 1) := by decide +kernel
theorem dX5_place_116 : decode cX5_place 116 = .ok (.if_icmp .ne 11, 3) := by decide +kernel
theorem dX5_place_119 : decode cX5_place 119 = .ok (.aload_n 0, 1) := by decide +kernel
theorem dX5_place_120 : decode cX5_place 120 = .ok (.iload_n 1, 1) := by decide +kernel
theorem dX5_place_121 : decode cX5_place 121 = .ok (.invokevirtual 177, 3) := by decide +kernel
theorem dX5_place_124 : decode cX5_place 124 = .ok (.goto 5, 3) := by decide +kernel
theorem dX5_place_127 : decode cX5_place 127 = .ok (.bipush (-3), 2) := by decide +kernel
theorem dX5_place_129 : decode cX5_place 129 = .ok (.ireturn, 1) := by decide +kernel
theorem dX5_band_0 : decode cX5_band 0 = .ok (.aload_n 0, 1) := by decide +kernel
theorem dX5_band_1 : decode cX5_band 1 = .ok (.iload_n 1, 1) := by decide +kernel
theorem dX5_band_2 : decode cX5_band 2 = .ok (.invokevirtual 189, 3) := by decide +kernel
theorem dX5_band_5 : decode cX5_band 5 = .ok (.ifCond .ne 6, 3) := by decide +kernel
theorem dX5_band_8 : decode cX5_band 8 = .ok (.bipush (-2), 2) := by decide +kernel
theorem dX5_band_10 : decode cX5_band 10 = .ok (.ireturn, 1) := by decide +kernel
theorem dX5_band_11 : decode cX5_band 11 = .ok (.iload_n 2, 1) := by decide +kernel
theorem dX5_band_12 : decode cX5_band 12 = .ok (.i2l, 1) := by decide +kernel
theorem dX5_band_13 : decode cX5_band 13 = .ok (.lconst 0, 1) := by decide +kernel
theorem dX5_band_14 : decode cX5_band 14 = .ok (.ldc2_w 122, 3) := by decide +kernel
theorem dX5_band_17 : decode cX5_band 17 = .ok (.invokestatic 47, 3) := by decide +kernel
theorem dX5_band_20 : decode cX5_band 20 = .ok (.ifCond .eq 17, 3) := by decide +kernel
theorem dX5_band_23 : decode cX5_band 23 = .ok (.aload_n 0, 1) := by decide +kernel
theorem dX5_band_24 : decode cX5_band 24 = .ok (.getfield 36, 3) := by decide +kernel
theorem dX5_band_27 : decode cX5_band 27 = .ok (.bipush 7, 2) := by decide +kernel
theorem dX5_band_29 : decode cX5_band 29 = .ok (.iload_n 1, 1) := by decide +kernel
theorem dX5_band_30 : decode cX5_band 30 = .ok (.imul, 1) := by decide +kernel
theorem dX5_band_31 : decode cX5_band 31 = .ok (.iload_n 2, 1) := by decide +kernel
theorem dX5_band_32 : decode cX5_band 32 = .ok (.iadd, 1) := by decide +kernel
theorem dX5_band_33 : decode cX5_band 33 = .ok (.iaload, 1) := by decide +kernel
theorem dX5_band_34 : decode cX5_band 34 = .ok (.goto 24, 3) := by decide +kernel
theorem dX5_band_37 : decode cX5_band 37 = .ok (.iload_n 2, 1) := by decide +kernel
theorem dX5_band_38 : decode cX5_band 38 = .ok (.bipush 7, 2) := by decide +kernel
theorem dX5_band_40 : decode cX5_band 40 = .ok (.if_icmp .ne 16, 3) := by decide +kernel
theorem dX5_band_43 : decode cX5_band 43 = .ok (.aload_n 0, 1) := by decide +kernel
theorem dX5_band_44 : decode cX5_band 44 = .ok (.getfield 7, 3) := by decide +kernel
theorem dX5_band_47 : decode cX5_band 47 = .ok (.iconst 0, 1) := by decide +kernel
theorem dX5_band_48 : decode cX5_band 48 = .ok (.iaload, 1) := by decide +kernel
theorem dX5_band_49 : decode cX5_band 49 = .ok (.iload_n 1, 1) := by decide +kernel
theorem dX5_band_50 : decode cX5_band 50 = .ok (.ishr, 1) := by decide +kernel
theorem dX5_band_51 : decode cX5_band 51 = .ok (.iconst 1, 1) := by decide +kernel
theorem dX5_band_52 : decode cX5_band 52 = .ok (.iand, 1) := by decide +kernel
theorem dX5_band_53 : decode cX5_band 53 = .ok (.goto 5, 3) := by decide +kernel
theorem dX5_band_56 : decode cX5_band 56 = .ok (.bipush (-3), 2) := by decide +kernel
theorem dX5_band_58 : decode cX5_band 58 = .ok (.ireturn, 1) := by decide +kernel
theorem dX5_as_0 : decode cX5_as 0 = .ok (.aload_n 0, 1) := by decide +kernel
theorem dX5_as_1 : decode cX5_as 1 = .ok (.iload_n 1, 1) := by decide +kernel
theorem dX5_as_2 : decode cX5_as 2 = .ok (.invokevirtual 189, 3) := by decide +kernel
theorem dX5_as_5 : decode cX5_as 5 = .ok (.ifCond .ne 6, 3) := by decide +kernel
theorem dX5_as_8 : decode cX5_as 8 = .ok (.bipush (-2), 2) := by decide +kernel
theorem dX5_as_10 : decode cX5_as 10 = .ok (.ireturn, 1) := by decide +kernel
theorem dX5_as_11 : decode cX5_as 11 = .ok (.iload_n 2, 1) := by decide +kernel
theorem dX5_as_12 : decode cX5_as 12 = .ok (.i2l, 1) := by decide +kernel
theorem dX5_as_13 : decode cX5_as 13 = .ok (.lconst 0, 1) := by decide +kernel
theorem dX5_as_14 : decode cX5_as 14 = .ok (.ldc2_w 192, 3) := by decide +kernel
theorem dX5_as_17 : decode cX5_as 17 = .ok (.invokestatic 47, 3) := by decide +kernel
theorem dX5_as_20 : decode cX5_as 20 = .ok (.ifCond .ne 6, 3) := by decide +kernel
theorem dX5_as_23 : decode cX5_as 23 = .ok (.bipush (-3), 2) := by decide +kernel
theorem dX5_as_25 : decode cX5_as 25 = .ok (.ireturn, 1) := by decide +kernel
theorem dX5_as_26 : decode cX5_as 26 = .ok (.aload_n 0, 1) := by decide +kernel
theorem dX5_as_27 : decode cX5_as 27 = .ok (.getfield 36, 3) := by decide +kernel
theorem dX5_as_30 : decode cX5_as 30 = .ok (.bipush 7, 2) := by decide +kernel
theorem dX5_as_32 : decode cX5_as 32 = .ok (.iload_n 1, 1) := by decide +kernel
theorem dX5_as_33 : decode cX5_as 33 = .ok (.imul, 1) := by decide +kernel
theorem dX5_as_34 : decode cX5_as 34 = .ok (.iaload, 1) := by decide +kernel
theorem dX5_as_35 : decode cX5_as 35 = .ok (.istore_n 3, 1) := by decide +kernel
theorem dX5_as_36 : decode cX5_as 36 = .ok (.iload_n 2, 1) := by decide +kernel
theorem dX5_as_37 : decode cX5_as 37 = .ok (.ifCond .eq 43, 3) := by decide +kernel
theorem dX5_as_40 : decode cX5_as 40 = .ok (.iload_n 2, 1) := by decide +kernel
theorem dX5_as_41 : decode cX5_as 41 = .ok (.iconst 1, 1) := by decide +kernel
theorem dX5_as_42 : decode cX5_as 42 = .ok (.if_icmp .ne 8, 3) := by decide +kernel
theorem dX5_as_45 : decode cX5_as 45 = .ok (.iload_n 3, 1) := by decide +kernel
theorem dX5_as_46 : decode cX5_as 46 = .ok (.iconst 3, 1) := by decide +kernel
theorem dX5_as_47 : decode cX5_as 47 = .ok (.if_icmp .ne 33, 3) := by decide +kernel
theorem dX5_as_50 : decode cX5_as 50 = .ok (.iload_n 2, 1) := by decide +kernel
theorem dX5_as_51 : decode cX5_as 51 = .ok (.iconst 2, 1) := by decide +kernel
theorem dX5_as_52 : decode cX5_as 52 = .ok (.if_icmp .ne 8, 3) := by decide +kernel
theorem dX5_as_55 : decode cX5_as 55 = .ok (.iload_n 3, 1) := by decide +kernel
theorem dX5_as_56 : decode cX5_as 56 = .ok (.iconst 1, 1) := by decide +kernel
theorem dX5_as_57 : decode cX5_as 57 = .ok (.if_icmp .eq 23, 3) := by decide +kernel
theorem dX5_as_60 : decode cX5_as 60 = .ok (.iload_n 2, 1) := by decide +kernel
theorem dX5_as_61 : decode cX5_as 61 = .ok (.iconst 3, 1) := by decide +kernel
theorem dX5_as_62 : decode cX5_as 62 = .ok (.if_icmp .ne 8, 3) := by decide +kernel
theorem dX5_as_65 : decode cX5_as 65 = .ok (.iload_n 3, 1) := by decide +kernel
theorem dX5_as_66 : decode cX5_as 66 = .ok (.iconst 2, 1) := by decide +kernel
theorem dX5_as_67 : decode cX5_as 67 = .ok (.if_icmp .eq 13, 3) := by decide +kernel
theorem dX5_as_70 : decode cX5_as 70 = .ok (.iload_n 2, 1) := by decide +kernel
theorem dX5_as_71 : decode cX5_as 71 = .ok (.iconst 4, 1) := by decide +kernel
theorem dX5_as_72 : decode cX5_as 72 = .ok (.if_icmp .ne 12, 3) := by decide +kernel
theorem dX5_as_75 : decode cX5_as 75 = .ok (.iload_n 3, 1) := by decide +kernel
theorem dX5_as_76 : decode cX5_as 76 = .ok (.iconst 3, 1) := by decide +kernel
theorem dX5_as_77 : decode cX5_as 77 = .ok (.if_icmp .ne 7, 3) := by decide +kernel
theorem dX5_as_80 : decode cX5_as 80 = .ok (.iconst 1, 1) := by decide +kernel
theorem dX5_as_81 : decode cX5_as 81 = .ok (.goto 4, 3) := by decide +kernel
theorem dX5_as_84 : decode cX5_as 84 = .ok (.iconst 0, 1) := by decide +kernel
theorem dX5_as_85 : decode cX5_as 85 = .ok (.istore 4, 2) := by decide +kernel
theorem dX5_as_87 : decode cX5_as 87 = .ok (.iload 4, 2) := by decide +kernel
theorem dX5_as_89 : decode cX5_as 89 = .ok (.ifCond .eq 28, 3) := by decide +kernel
theorem dX5_as_92 : decode cX5_as 92 = .ok (.aload_n 0, 1) := by decide +kernel
theorem dX5_as_93 : decode cX5_as 93 = .ok (.iload_n 1, 1) := by decide +kernel
theorem dX5_as_94 : decode cX5_as 94 = .ok (.aload_n 0, 1) := by decide +kernel
theorem dX5_as_95 : decode cX5_as 95 = .ok (.getfield 36, 3) := by decide +kernel
theorem dX5_as_98 : decode cX5_as 98 = .ok (.bipush 7, 2) := by decide +kernel
theorem dX5_as_100 : decode cX5_as 100 = .ok (.iload_n 1, 1) := by decide +kernel
theorem dX5_as_101 : decode cX5_as 101 = .ok (.imul, 1) := by decide +kernel
theorem dX5_as_102 : decode cX5_as 102 = .ok (.iconst 1, 1) := by decide +kernel
theorem dX5_as_103 : decode cX5_as 103 = .ok (.iadd, 1) := by decide +kernel
theorem dX5_as_104 : decode cX5_as 104 = .ok (.iaload, 1) := by decide +kernel
theorem dX5_as_105 : decode cX5_as 105 = .ok (.aload_n 0, 1) := by decide +kernel
theorem dX5_as_106 : decode cX5_as 106 = .ok (.getfield 7, 3) := by decide +kernel
theorem dX5_as_109 : decode cX5_as 109 = .ok (.iconst 2, 1) := by decide +kernel
theorem dX5_as_110 : decode cX5_as 110 = .ok (.iaload, 1) := by decide +kernel
theorem dX5_as_111 : decode cX5_as 111 = .ok (.invokevirtual 173, 3) := by decide +kernel
theorem dX5_as_114 : decode cX5_as 114 = .ok (.goto 5, 3) := by decide +kernel
theorem dX5_as_117 : decode cX5_as 117 = .ok (.bipush (-4), 2) := by decide +kernel
theorem dX5_as_119 : decode cX5_as 119 = .ok (.ireturn, 1) := by decide +kernel
theorem dX5_licence_0 : decode cX5_licence 0 = .ok (.aload_n 0, 1) := by decide +kernel
theorem dX5_licence_1 : decode cX5_licence 1 = .ok (.iload_n 1, 1) := by decide +kernel
theorem dX5_licence_2 : decode cX5_licence 2 = .ok (.invokevirtual 189, 3) := by decide +kernel
theorem dX5_licence_5 : decode cX5_licence 5 = .ok (.ifCond .ne 6, 3) := by decide +kernel
theorem dX5_licence_8 : decode cX5_licence 8 = .ok (.bipush (-2), 2) := by decide +kernel
theorem dX5_licence_10 : decode cX5_licence 10 = .ok (.ireturn, 1) := by decide +kernel
theorem dX5_licence_11 : decode cX5_licence 11 = .ok (.iload_n 2, 1) := by decide +kernel
theorem dX5_licence_12 : decode cX5_licence 12 = .ok (.i2l, 1) := by decide +kernel
theorem dX5_licence_13 : decode cX5_licence 13 = .ok (.lconst 0, 1) := by decide +kernel
theorem dX5_licence_14 : decode cX5_licence 14 = .ok (.lconst 1, 1) := by decide +kernel
theorem dX5_licence_15 : decode cX5_licence 15 = .ok (.invokestatic 47, 3) := by decide +kernel
theorem dX5_licence_18 : decode cX5_licence 18 = .ok (.ifCond .ne 6, 3) := by decide +kernel
theorem dX5_licence_21 : decode cX5_licence 21 = .ok (.bipush (-3), 2) := by decide +kernel
theorem dX5_licence_23 : decode cX5_licence 23 = .ok (.ireturn, 1) := by decide +kernel
theorem dX5_licence_24 : decode cX5_licence 24 = .ok (.aload_n 0, 1) := by decide +kernel
theorem dX5_licence_25 : decode cX5_licence 25 = .ok (.getfield 7, 3) := by decide +kernel
theorem dX5_licence_28 : decode cX5_licence 28 = .ok (.iconst 0, 1) := by decide +kernel
theorem dX5_licence_29 : decode cX5_licence 29 = .ok (.iaload, 1) := by decide +kernel
theorem dX5_licence_30 : decode cX5_licence 30 = .ok (.iload_n 1, 1) := by decide +kernel
theorem dX5_licence_31 : decode cX5_licence 31 = .ok (.ishr, 1) := by decide +kernel
theorem dX5_licence_32 : decode cX5_licence 32 = .ok (.iconst 1, 1) := by decide +kernel
theorem dX5_licence_33 : decode cX5_licence 33 = .ok (.iand, 1) := by decide +kernel
theorem dX5_licence_34 : decode cX5_licence 34 = .ok (.istore_n 3, 1) := by decide +kernel
theorem dX5_licence_35 : decode cX5_licence 35 = .ok (.aload_n 0, 1) := by decide +kernel
theorem dX5_licence_36 : decode cX5_licence 36 = .ok (.getfield 7, 3) := by decide +kernel
theorem dX5_licence_39 : decode cX5_licence 39 = .ok (.iconst 0, 1) := by decide +kernel
theorem dX5_licence_40 : decode cX5_licence 40 = .ok (.aload_n 0, 1) := by decide +kernel
theorem dX5_licence_41 : decode cX5_licence 41 = .ok (.getfield 7, 3) := by decide +kernel
theorem dX5_licence_44 : decode cX5_licence 44 = .ok (.iconst 0, 1) := by decide +kernel
theorem dX5_licence_45 : decode cX5_licence 45 = .ok (.iaload, 1) := by decide +kernel
theorem dX5_licence_46 : decode cX5_licence 46 = .ok (.iconst 1, 1) := by decide +kernel
theorem dX5_licence_47 : decode cX5_licence 47 = .ok (.iload_n 1, 1) := by decide +kernel
theorem dX5_licence_48 : decode cX5_licence 48 = .ok (.ishl, 1) := by decide +kernel
theorem dX5_licence_49 : decode cX5_licence 49 = .ok (.iconst (-1), 1) := by decide +kernel
theorem dX5_licence_50 : decode cX5_licence 50 = .ok (.ixor, 1) := by decide +kernel
theorem dX5_licence_51 : decode cX5_licence 51 = .ok (.iand, 1) := by decide +kernel
theorem dX5_licence_52 : decode cX5_licence 52 = .ok (.iload_n 2, 1) := by decide +kernel
theorem dX5_licence_53 : decode cX5_licence 53 = .ok (.iload_n 1, 1) := by decide +kernel
theorem dX5_licence_54 : decode cX5_licence 54 = .ok (.ishl, 1) := by decide +kernel
theorem dX5_licence_55 : decode cX5_licence 55 = .ok (.ior, 1) := by decide +kernel
theorem dX5_licence_56 : decode cX5_licence 56 = .ok (.iastore, 1) := by decide +kernel
theorem dX5_licence_57 : decode cX5_licence 57 = .ok (.iload_n 3, 1) := by decide +kernel
theorem dX5_licence_58 : decode cX5_licence 58 = .ok (.ireturn, 1) := by decide +kernel
theorem dX5_isHour_0 : decode cX5_isHour 0 = .ok (.iload_n 0, 1) := by decide +kernel
theorem dX5_isHour_1 : decode cX5_isHour 1 = .ok (.i2l, 1) := by decide +kernel
theorem dX5_isHour_2 : decode cX5_isHour 2 = .ok (.lconst 0, 1) := by decide +kernel
theorem dX5_isHour_3 : decode cX5_isHour 3 = .ok (.ldc2_w 194, 3) := by decide +kernel
theorem dX5_isHour_6 : decode cX5_isHour 6 = .ok (.invokestatic 47, 3) := by decide +kernel
theorem dX5_isHour_9 : decode cX5_isHour 9 = .ok (.ireturn, 1) := by decide +kernel
theorem dX5_sound_0 : decode cX5_sound 0 = .ok (.aload_n 0, 1) := by decide +kernel
theorem dX5_sound_1 : decode cX5_sound 1 = .ok (.iload_n 1, 1) := by decide +kernel
theorem dX5_sound_2 : decode cX5_sound 2 = .ok (.invokevirtual 189, 3) := by decide +kernel
theorem dX5_sound_5 : decode cX5_sound 5 = .ok (.ifCond .eq 11, 3) := by decide +kernel
theorem dX5_sound_8 : decode cX5_sound 8 = .ok (.aload_n 0, 1) := by decide +kernel
theorem dX5_sound_9 : decode cX5_sound 9 = .ok (.iload_n 2, 1) := by decide +kernel
theorem dX5_sound_10 : decode cX5_sound 10 = .ok (.invokevirtual 186, 3) := by decide +kernel
theorem dX5_sound_13 : decode cX5_sound 13 = .ok (.ifCond .ne 6, 3) := by decide +kernel
theorem dX5_sound_16 : decode cX5_sound 16 = .ok (.bipush (-2), 2) := by decide +kernel
theorem dX5_sound_18 : decode cX5_sound 18 = .ok (.ireturn, 1) := by decide +kernel
theorem dX5_sound_19 : decode cX5_sound 19 = .ok (.iload_n 3, 1) := by decide +kernel
theorem dX5_sound_20 : decode cX5_sound 20 = .ok (.invokestatic 196, 3) := by decide +kernel
theorem dX5_sound_23 : decode cX5_sound 23 = .ok (.ifCond .eq 13, 3) := by decide +kernel
theorem dX5_sound_26 : decode cX5_sound 26 = .ok (.aload_n 0, 1) := by decide +kernel
theorem dX5_sound_27 : decode cX5_sound 27 = .ok (.iload_n 1, 1) := by decide +kernel
theorem dX5_sound_28 : decode cX5_sound 28 = .ok (.iload_n 2, 1) := by decide +kernel
theorem dX5_sound_29 : decode cX5_sound 29 = .ok (.iload_n 3, 1) := by decide +kernel
theorem dX5_sound_30 : decode cX5_sound 30 = .ok (.invokevirtual 173, 3) := by decide +kernel
theorem dX5_sound_33 : decode cX5_sound 33 = .ok (.goto 5, 3) := by decide +kernel
theorem dX5_sound_36 : decode cX5_sound 36 = .ok (.bipush (-3), 2) := by decide +kernel
theorem dX5_sound_38 : decode cX5_sound 38 = .ok (.ireturn, 1) := by decide +kernel
theorem dX5_noise_0 : decode cX5_noise 0 = .ok (.aload_n 0, 1) := by decide +kernel
theorem dX5_noise_1 : decode cX5_noise 1 = .ok (.iload_n 1, 1) := by decide +kernel
theorem dX5_noise_2 : decode cX5_noise 2 = .ok (.invokevirtual 186, 3) := by decide +kernel
theorem dX5_noise_5 : decode cX5_noise 5 = .ok (.ifCond .ne 6, 3) := by decide +kernel
theorem dX5_noise_8 : decode cX5_noise 8 = .ok (.bipush (-2), 2) := by decide +kernel
theorem dX5_noise_10 : decode cX5_noise 10 = .ok (.ireturn, 1) := by decide +kernel
theorem dX5_noise_11 : decode cX5_noise 11 = .ok (.iload_n 2, 1) := by decide +kernel
theorem dX5_noise_12 : decode cX5_noise 12 = .ok (.invokestatic 196, 3) := by decide +kernel
theorem dX5_noise_15 : decode cX5_noise 15 = .ok (.ifCond .eq 18, 3) := by decide +kernel
theorem dX5_noise_18 : decode cX5_noise 18 = .ok (.aload_n 0, 1) := by decide +kernel
theorem dX5_noise_19 : decode cX5_noise 19 = .ok (.aload_n 0, 1) := by decide +kernel
theorem dX5_noise_20 : decode cX5_noise 20 = .ok (.getfield 7, 3) := by decide +kernel
theorem dX5_noise_23 : decode cX5_noise 23 = .ok (.iconst 0, 1) := by decide +kernel
theorem dX5_noise_24 : decode cX5_noise 24 = .ok (.iaload, 1) := by decide +kernel
theorem dX5_noise_25 : decode cX5_noise 25 = .ok (.iload_n 1, 1) := by decide +kernel
theorem dX5_noise_26 : decode cX5_noise 26 = .ok (.iload_n 2, 1) := by decide +kernel
theorem dX5_noise_27 : decode cX5_noise 27 = .ok (.invokevirtual 180, 3) := by decide +kernel
theorem dX5_noise_30 : decode cX5_noise 30 = .ok (.goto 5, 3) := by decide +kernel
theorem dX5_noise_33 : decode cX5_noise 33 = .ok (.bipush (-3), 2) := by decide +kernel
theorem dX5_noise_35 : decode cX5_noise 35 = .ok (.ireturn, 1) := by decide +kernel
theorem dX5_step_0 : decode cX5_step 0 = .ok (.aload_n 0, 1) := by decide +kernel
theorem dX5_step_1 : decode cX5_step 1 = .ok (.iload_n 1, 1) := by decide +kernel
theorem dX5_step_2 : decode cX5_step 2 = .ok (.invokevirtual 186, 3) := by decide +kernel
theorem dX5_step_5 : decode cX5_step 5 = .ok (.ifCond .ne 6, 3) := by decide +kernel
theorem dX5_step_8 : decode cX5_step 8 = .ok (.bipush (-2), 2) := by decide +kernel
theorem dX5_step_10 : decode cX5_step 10 = .ok (.ireturn, 1) := by decide +kernel
theorem dX5_step_11 : decode cX5_step 11 = .ok (.aload_n 0, 1) := by decide +kernel
theorem dX5_step_12 : decode cX5_step 12 = .ok (.getfield 7, 3) := by decide +kernel
theorem dX5_step_15 : decode cX5_step 15 = .ok (.iconst 1, 1) := by decide +kernel
theorem dX5_step_16 : decode cX5_step 16 = .ok (.iaload, 1) := by decide +kernel
theorem dX5_step_17 : decode cX5_step 17 = .ok (.iconst (-1), 1) := by decide +kernel
theorem dX5_step_18 : decode cX5_step 18 = .ok (.if_icmp .eq 29, 3) := by decide +kernel
theorem dX5_step_21 : decode cX5_step 21 = .ok (.aload_n 0, 1) := by decide +kernel
theorem dX5_step_22 : decode cX5_step 22 = .ok (.aload_n 0, 1) := by decide +kernel
theorem dX5_step_23 : decode cX5_step 23 = .ok (.getfield 7, 3) := by decide +kernel
theorem dX5_step_26 : decode cX5_step 26 = .ok (.iconst 1, 1) := by decide +kernel
theorem dX5_step_27 : decode cX5_step 27 = .ok (.iaload, 1) := by decide +kernel
theorem dX5_step_28 : decode cX5_step 28 = .ok (.iload_n 1, 1) := by decide +kernel
theorem dX5_step_29 : decode cX5_step 29 = .ok (.invokevirtual 166, 3) := by decide +kernel
theorem dX5_step_32 : decode cX5_step 32 = .ok (.iconst 1, 1) := by decide +kernel
theorem dX5_step_33 : decode cX5_step 33 = .ok (.if_icmp .gt 14, 3) := by decide +kernel
theorem dX5_step_36 : decode cX5_step 36 = .ok (.aload_n 0, 1) := by decide +kernel
theorem dX5_step_37 : decode cX5_step 37 = .ok (.getfield 146, 3) := by decide +kernel
theorem dX5_step_40 : decode cX5_step 40 = .ok (.iload_n 1, 1) := by decide +kernel
theorem dX5_step_41 : decode cX5_step 41 = .ok (.invokestatic 105, 3) := by decide +kernel
theorem dX5_step_44 : decode cX5_step 44 = .ok (.ifCond .ne 6, 3) := by decide +kernel
theorem dX5_step_47 : decode cX5_step 47 = .ok (.bipush (-4), 2) := by decide +kernel
theorem dX5_step_49 : decode cX5_step 49 = .ok (.ireturn, 1) := by decide +kernel
theorem dX5_step_50 : decode cX5_step 50 = .ok (.aload_n 0, 1) := by decide +kernel
theorem dX5_step_51 : decode cX5_step 51 = .ok (.getfield 7, 3) := by decide +kernel
theorem dX5_step_54 : decode cX5_step 54 = .ok (.iconst 1, 1) := by decide +kernel
theorem dX5_step_55 : decode cX5_step 55 = .ok (.iload_n 1, 1) := by decide +kernel
theorem dX5_step_56 : decode cX5_step 56 = .ok (.iastore, 1) := by decide +kernel
theorem dX5_step_57 : decode cX5_step 57 = .ok (.aload_n 0, 1) := by decide +kernel
theorem dX5_step_58 : decode cX5_step 58 = .ok (.getfield 7, 3) := by decide +kernel
theorem dX5_step_61 : decode cX5_step 61 = .ok (.iconst 2, 1) := by decide +kernel
theorem dX5_step_62 : decode cX5_step 62 = .ok (.aload_n 0, 1) := by decide +kernel
theorem dX5_step_63 : decode cX5_step 63 = .ok (.getfield 7, 3) := by decide +kernel
theorem dX5_step_66 : decode cX5_step 66 = .ok (.iconst 2, 1) := by decide +kernel
theorem dX5_step_67 : decode cX5_step 67 = .ok (.iaload, 1) := by decide +kernel
theorem dX5_step_68 : decode cX5_step 68 = .ok (.iconst 1, 1) := by decide +kernel
theorem dX5_step_69 : decode cX5_step 69 = .ok (.iadd, 1) := by decide +kernel
theorem dX5_step_70 : decode cX5_step 70 = .ok (.bipush 12, 2) := by decide +kernel
theorem dX5_step_72 : decode cX5_step 72 = .ok (.irem, 1) := by decide +kernel
theorem dX5_step_73 : decode cX5_step 73 = .ok (.iastore, 1) := by decide +kernel
theorem dX5_step_74 : decode cX5_step 74 = .ok (.aload_n 0, 1) := by decide +kernel
theorem dX5_step_75 : decode cX5_step 75 = .ok (.aload_n 0, 1) := by decide +kernel
theorem dX5_step_76 : decode cX5_step 76 = .ok (.getfield 7, 3) := by decide +kernel
theorem dX5_step_79 : decode cX5_step 79 = .ok (.iconst 0, 1) := by decide +kernel
theorem dX5_step_80 : decode cX5_step 80 = .ok (.iaload, 1) := by decide +kernel
theorem dX5_step_81 : decode cX5_step 81 = .ok (.iload_n 1, 1) := by decide +kernel
theorem dX5_step_82 : decode cX5_step 82 = .ok (.aload_n 0, 1) := by decide +kernel
theorem dX5_step_83 : decode cX5_step 83 = .ok (.getfield 7, 3) := by decide +kernel
theorem dX5_step_86 : decode cX5_step 86 = .ok (.iconst 2, 1) := by decide +kernel
theorem dX5_step_87 : decode cX5_step 87 = .ok (.iaload, 1) := by decide +kernel
theorem dX5_step_88 : decode cX5_step 88 = .ok (.invokevirtual 199, 3) := by decide +kernel
theorem dX5_step_91 : decode cX5_step 91 = .ok (.ifCond .eq 7, 3) := by decide +kernel
theorem dX5_step_94 : decode cX5_step 94 = .ok (.iconst 1, 1) := by decide +kernel
theorem dX5_step_95 : decode cX5_step 95 = .ok (.goto 4, 3) := by decide +kernel
theorem dX5_step_98 : decode cX5_step 98 = .ok (.iconst 0, 1) := by decide +kernel
theorem dX5_step_99 : decode cX5_step 99 = .ok (.ireturn, 1) := by decide +kernel
theorem dX5_copy_0 : decode cX5_copy 0 = .ok (.iconst 0, 1) := by decide +kernel
theorem dX5_copy_1 : decode cX5_copy 1 = .ok (.istore_n 3, 1) := by decide +kernel
theorem dX5_copy_2 : decode cX5_copy 2 = .ok (.iload_n 3, 1) := by decide +kernel
theorem dX5_copy_3 : decode cX5_copy 3 = .ok (.iconst 3, 1) := by decide +kernel
theorem dX5_copy_4 : decode cX5_copy 4 = .ok (.if_icmp .ge 29, 3) := by decide +kernel
theorem dX5_copy_7 : decode cX5_copy 7 = .ok (.aload_n 0, 1) := by decide +kernel
theorem dX5_copy_8 : decode cX5_copy 8 = .ok (.getfield 7, 3) := by decide +kernel
theorem dX5_copy_11 : decode cX5_copy 11 = .ok (.iconst 3, 1) := by decide +kernel
theorem dX5_copy_12 : decode cX5_copy 12 = .ok (.iload_n 2, 1) := by decide +kernel
theorem dX5_copy_13 : decode cX5_copy 13 = .ok (.imul, 1) := by decide +kernel
theorem dX5_copy_14 : decode cX5_copy 14 = .ok (.iload_n 3, 1) := by decide +kernel
theorem dX5_copy_15 : decode cX5_copy 15 = .ok (.iadd, 1) := by decide +kernel
theorem dX5_copy_16 : decode cX5_copy 16 = .ok (.aload_n 0, 1) := by decide +kernel
theorem dX5_copy_17 : decode cX5_copy 17 = .ok (.getfield 7, 3) := by decide +kernel
theorem dX5_copy_20 : decode cX5_copy 20 = .ok (.iconst 3, 1) := by decide +kernel
theorem dX5_copy_21 : decode cX5_copy 21 = .ok (.iload_n 1, 1) := by decide +kernel
theorem dX5_copy_22 : decode cX5_copy 22 = .ok (.imul, 1) := by decide +kernel
theorem dX5_copy_23 : decode cX5_copy 23 = .ok (.iload_n 3, 1) := by decide +kernel
theorem dX5_copy_24 : decode cX5_copy 24 = .ok (.iadd, 1) := by decide +kernel
theorem dX5_copy_25 : decode cX5_copy 25 = .ok (.iaload, 1) := by decide +kernel
theorem dX5_copy_26 : decode cX5_copy 26 = .ok (.iastore, 1) := by decide +kernel
theorem dX5_copy_27 : decode cX5_copy 27 = .ok (.iinc 3 1, 3) := by decide +kernel
theorem dX5_copy_30 : decode cX5_copy 30 = .ok (.goto (-28), 3) := by decide +kernel
theorem dX5_copy_33 : decode cX5_copy 33 = .ok (.return_, 1) := by decide +kernel
theorem dX5_keep_0 : decode cX5_keep 0 = .ok (.iload_n 1, 1) := by decide +kernel
theorem dX5_keep_1 : decode cX5_keep 1 = .ok (.i2l, 1) := by decide +kernel
theorem dX5_keep_2 : decode cX5_keep 2 = .ok (.lconst 0, 1) := by decide +kernel
theorem dX5_keep_3 : decode cX5_keep 3 = .ok (.lconst 1, 1) := by decide +kernel
theorem dX5_keep_4 : decode cX5_keep 4 = .ok (.invokestatic 47, 3) := by decide +kernel
theorem dX5_keep_7 : decode cX5_keep 7 = .ok (.ifCond .ne 6, 3) := by decide +kernel
theorem dX5_keep_10 : decode cX5_keep 10 = .ok (.bipush (-2), 2) := by decide +kernel
theorem dX5_keep_12 : decode cX5_keep 12 = .ok (.ireturn, 1) := by decide +kernel
theorem dX5_keep_13 : decode cX5_keep 13 = .ok (.aload_n 0, 1) := by decide +kernel
theorem dX5_keep_14 : decode cX5_keep 14 = .ok (.iconst 0, 1) := by decide +kernel
theorem dX5_keep_15 : decode cX5_keep 15 = .ok (.iconst 1, 1) := by decide +kernel
theorem dX5_keep_16 : decode cX5_keep 16 = .ok (.iload_n 1, 1) := by decide +kernel
theorem dX5_keep_17 : decode cX5_keep 17 = .ok (.iadd, 1) := by decide +kernel
theorem dX5_keep_18 : decode cX5_keep 18 = .ok (.invokevirtual 202, 3) := by decide +kernel
theorem dX5_keep_21 : decode cX5_keep 21 = .ok (.aload_n 0, 1) := by decide +kernel
theorem dX5_keep_22 : decode cX5_keep 22 = .ok (.getfield 13, 3) := by decide +kernel
theorem dX5_keep_25 : decode cX5_keep 25 = .ok (.iload_n 1, 1) := by decide +kernel
theorem dX5_keep_26 : decode cX5_keep 26 = .ok (.iconst 1, 1) := by decide +kernel
theorem dX5_keep_27 : decode cX5_keep 27 = .ok (.bastore, 1) := by decide +kernel
theorem dX5_keep_28 : decode cX5_keep 28 = .ok (.aload_n 0, 1) := by decide +kernel
theorem dX5_keep_29 : decode cX5_keep 29 = .ok (.getfield 7, 3) := by decide +kernel
theorem dX5_keep_32 : decode cX5_keep 32 = .ok (.iconst 2, 1) := by decide +kernel
theorem dX5_keep_33 : decode cX5_keep 33 = .ok (.iaload, 1) := by decide +kernel
theorem dX5_keep_34 : decode cX5_keep 34 = .ok (.ireturn, 1) := by decide +kernel
theorem dX5_back_0 : decode cX5_back 0 = .ok (.iload_n 1, 1) := by decide +kernel
theorem dX5_back_1 : decode cX5_back 1 = .ok (.i2l, 1) := by decide +kernel
theorem dX5_back_2 : decode cX5_back 2 = .ok (.lconst 0, 1) := by decide +kernel
theorem dX5_back_3 : decode cX5_back 3 = .ok (.lconst 1, 1) := by decide +kernel
theorem dX5_back_4 : decode cX5_back 4 = .ok (.invokestatic 47, 3) := by decide +kernel
theorem dX5_back_7 : decode cX5_back 7 = .ok (.ifCond .ne 6, 3) := by decide +kernel
theorem dX5_back_10 : decode cX5_back 10 = .ok (.bipush (-2), 2) := by decide +kernel
theorem dX5_back_12 : decode cX5_back 12 = .ok (.ireturn, 1) := by decide +kernel
theorem dX5_back_13 : decode cX5_back 13 = .ok (.aload_n 0, 1) := by decide +kernel
theorem dX5_back_14 : decode cX5_back 14 = .ok (.getfield 13, 3) := by decide +kernel
theorem dX5_back_17 : decode cX5_back 17 = .ok (.iload_n 1, 1) := by decide +kernel
theorem dX5_back_18 : decode cX5_back 18 = .ok (.baload, 1) := by decide +kernel
theorem dX5_back_19 : decode cX5_back 19 = .ok (.ifCond .ne 6, 3) := by decide +kernel
theorem dX5_back_22 : decode cX5_back 22 = .ok (.bipush (-4), 2) := by decide +kernel
theorem dX5_back_24 : decode cX5_back 24 = .ok (.ireturn, 1) := by decide +kernel
theorem dX5_back_25 : decode cX5_back 25 = .ok (.aload_n 0, 1) := by decide +kernel
theorem dX5_back_26 : decode cX5_back 26 = .ok (.iconst 1, 1) := by decide +kernel
theorem dX5_back_27 : decode cX5_back 27 = .ok (.iload_n 1, 1) := by decide +kernel
theorem dX5_back_28 : decode cX5_back 28 = .ok (.iadd, 1) := by decide +kernel
theorem dX5_back_29 : decode cX5_back 29 = .ok (.iconst 0, 1) := by decide +kernel
theorem dX5_back_30 : decode cX5_back 30 = .ok (.invokevirtual 202, 3) := by decide +kernel
theorem dX5_back_33 : decode cX5_back 33 = .ok (.aload_n 0, 1) := by decide +kernel
theorem dX5_back_34 : decode cX5_back 34 = .ok (.getfield 7, 3) := by decide +kernel
theorem dX5_back_37 : decode cX5_back 37 = .ok (.iconst 2, 1) := by decide +kernel
theorem dX5_back_38 : decode cX5_back 38 = .ok (.iaload, 1) := by decide +kernel
theorem dX5_back_39 : decode cX5_back 39 = .ok (.ireturn, 1) := by decide +kernel
theorem dX5_loudest_0 : decode cX5_loudest 0 = .ok (.iconst (-1), 1) := by decide +kernel
theorem dX5_loudest_1 : decode cX5_loudest 1 = .ok (.istore 4, 2) := by decide +kernel
theorem dX5_loudest_3 : decode cX5_loudest 3 = .ok (.iconst 0, 1) := by decide +kernel
theorem dX5_loudest_4 : decode cX5_loudest 4 = .ok (.istore 5, 2) := by decide +kernel
theorem dX5_loudest_6 : decode cX5_loudest 6 = .ok (.iconst 0, 1) := by decide +kernel
theorem dX5_loudest_7 : decode cX5_loudest 7 = .ok (.istore 6, 2) := by decide +kernel
theorem dX5_loudest_9 : decode cX5_loudest 9 = .ok (.iload 6, 2) := by decide +kernel
theorem dX5_loudest_11 : decode cX5_loudest 11 = .ok (.aload_n 0, 1) := by decide +kernel
theorem dX5_loudest_12 : decode cX5_loudest 12 = .ok (.getfield 134, 3) := by decide +kernel
theorem dX5_loudest_15 : decode cX5_loudest 15 = .ok (.if_icmp .ge 65, 3) := by decide +kernel
theorem dX5_loudest_18 : decode cX5_loudest 18 = .ok (.iload_n 1, 1) := by decide +kernel
theorem dX5_loudest_19 : decode cX5_loudest 19 = .ok (.i2l, 1) := by decide +kernel
theorem dX5_loudest_20 : decode cX5_loudest 20 = .ok (.iload 6, 2) := by decide +kernel
theorem dX5_loudest_22 : decode cX5_loudest 22 = .ok (.invokestatic 105, 3) := by decide +kernel
theorem dX5_loudest_25 : decode cX5_loudest 25 = .ok (.ifCond .eq 14, 3) := by decide +kernel
theorem dX5_loudest_28 : decode cX5_loudest 28 = .ok (.aload_n 0, 1) := by decide +kernel
theorem dX5_loudest_29 : decode cX5_loudest 29 = .ok (.iload 6, 2) := by decide +kernel
theorem dX5_loudest_31 : decode cX5_loudest 31 = .ok (.iload_n 2, 1) := by decide +kernel
theorem dX5_loudest_32 : decode cX5_loudest 32 = .ok (.iload_n 3, 1) := by decide +kernel
theorem dX5_loudest_33 : decode cX5_loudest 33 = .ok (.invokevirtual 173, 3) := by decide +kernel
theorem dX5_loudest_36 : decode cX5_loudest 36 = .ok (.goto 4, 3) := by decide +kernel
theorem dX5_loudest_39 : decode cX5_loudest 39 = .ok (.iconst 0, 1) := by decide +kernel
theorem dX5_loudest_40 : decode cX5_loudest 40 = .ok (.istore 7, 2) := by decide +kernel
theorem dX5_loudest_42 : decode cX5_loudest 42 = .ok (.iload 7, 2) := by decide +kernel
theorem dX5_loudest_44 : decode cX5_loudest 44 = .ok (.iload 5, 2) := by decide +kernel
theorem dX5_loudest_46 : decode cX5_loudest 46 = .ok (.if_icmp .le 8, 3) := by decide +kernel
theorem dX5_loudest_49 : decode cX5_loudest 49 = .ok (.iload 6, 2) := by decide +kernel
theorem dX5_loudest_51 : decode cX5_loudest 51 = .ok (.goto 5, 3) := by decide +kernel
theorem dX5_loudest_54 : decode cX5_loudest 54 = .ok (.iload 4, 2) := by decide +kernel
theorem dX5_loudest_56 : decode cX5_loudest 56 = .ok (.istore 4, 2) := by decide +kernel
theorem dX5_loudest_58 : decode cX5_loudest 58 = .ok (.iload 7, 2) := by decide +kernel
theorem dX5_loudest_60 : decode cX5_loudest 60 = .ok (.iload 5, 2) := by decide +kernel
theorem dX5_loudest_62 : decode cX5_loudest 62 = .ok (.if_icmp .le 8, 3) := by decide +kernel
theorem dX5_loudest_65 : decode cX5_loudest 65 = .ok (.iload 7, 2) := by decide +kernel
theorem dX5_loudest_67 : decode cX5_loudest 67 = .ok (.goto 5, 3) := by decide +kernel
theorem dX5_loudest_70 : decode cX5_loudest 70 = .ok (.iload 5, 2) := by decide +kernel
theorem dX5_loudest_72 : decode cX5_loudest 72 = .ok (.istore 5, 2) := by decide +kernel
theorem dX5_loudest_74 : decode cX5_loudest 74 = .ok (.iinc 6 1, 3) := by decide +kernel
theorem dX5_loudest_77 : decode cX5_loudest 77 = .ok (.goto (-68), 3) := by decide +kernel
theorem dX5_loudest_80 : decode cX5_loudest 80 = .ok (.iload 4, 2) := by decide +kernel
theorem dX5_loudest_82 : decode cX5_loudest 82 = .ok (.ireturn, 1) := by decide +kernel
theorem dX5_first_0 : decode cX5_first 0 = .ok (.iload_n 1, 1) := by decide +kernel
theorem dX5_first_1 : decode cX5_first 1 = .ok (.i2l, 1) := by decide +kernel
theorem dX5_first_2 : decode cX5_first 2 = .ok (.lconst 0, 1) := by decide +kernel
theorem dX5_first_3 : decode cX5_first 3 = .ok (.ldc2_w 205, 3) := by decide +kernel
theorem dX5_first_6 : decode cX5_first 6 = .ok (.invokestatic 47, 3) := by decide +kernel
theorem dX5_first_9 : decode cX5_first 9 = .ok (.ifCond .ne 6, 3) := by decide +kernel
theorem dX5_first_12 : decode cX5_first 12 = .ok (.bipush (-3), 2) := by decide +kernel
theorem dX5_first_14 : decode cX5_first 14 = .ok (.ireturn, 1) := by decide +kernel
theorem dX5_first_15 : decode cX5_first 15 = .ok (.iconst 0, 1) := by decide +kernel
theorem dX5_first_16 : decode cX5_first 16 = .ok (.istore_n 2, 1) := by decide +kernel
theorem dX5_first_17 : decode cX5_first 17 = .ok (.iload_n 2, 1) := by decide +kernel
theorem dX5_first_18 : decode cX5_first 18 = .ok (.bipush 12, 2) := by decide +kernel
theorem dX5_first_20 : decode cX5_first 20 = .ok (.if_icmp .ge 86, 3) := by decide +kernel
theorem dX5_first_23 : decode cX5_first 23 = .ok (.iconst 0, 1) := by decide +kernel
theorem dX5_first_24 : decode cX5_first 24 = .ok (.istore_n 3, 1) := by decide +kernel
theorem dX5_first_25 : decode cX5_first 25 = .ok (.iload_n 3, 1) := by decide +kernel
theorem dX5_first_26 : decode cX5_first 26 = .ok (.aload_n 0, 1) := by decide +kernel
theorem dX5_first_27 : decode cX5_first 27 = .ok (.getfield 23, 3) := by decide +kernel
theorem dX5_first_30 : decode cX5_first 30 = .ok (.aload_n 0, 1) := by decide +kernel
theorem dX5_first_31 : decode cX5_first 31 = .ok (.getfield 27, 3) := by decide +kernel
theorem dX5_first_34 : decode cX5_first 34 = .ok (.imul, 1) := by decide +kernel
theorem dX5_first_35 : decode cX5_first 35 = .ok (.if_icmp .ge 65, 3) := by decide +kernel
theorem dX5_first_38 : decode cX5_first 38 = .ok (.aload_n 0, 1) := by decide +kernel
theorem dX5_first_39 : decode cX5_first 39 = .ok (.getfield 146, 3) := by decide +kernel
theorem dX5_first_42 : decode cX5_first 42 = .ok (.iload_n 3, 1) := by decide +kernel
theorem dX5_first_43 : decode cX5_first 43 = .ok (.invokestatic 105, 3) := by decide +kernel
theorem dX5_first_46 : decode cX5_first 46 = .ok (.ifCond .eq 48, 3) := by decide +kernel
theorem dX5_first_49 : decode cX5_first 49 = .ok (.aload_n 0, 1) := by decide +kernel
theorem dX5_first_50 : decode cX5_first 50 = .ok (.aload_n 0, 1) := by decide +kernel
theorem dX5_first_51 : decode cX5_first 51 = .ok (.getfield 7, 3) := by decide +kernel
theorem dX5_first_54 : decode cX5_first 54 = .ok (.iconst 0, 1) := by decide +kernel
theorem dX5_first_55 : decode cX5_first 55 = .ok (.iaload, 1) := by decide +kernel
theorem dX5_first_56 : decode cX5_first 56 = .ok (.iload_n 3, 1) := by decide +kernel
theorem dX5_first_57 : decode cX5_first 57 = .ok (.iload_n 2, 1) := by decide +kernel
theorem dX5_first_58 : decode cX5_first 58 = .ok (.invokevirtual 199, 3) := by decide +kernel
theorem dX5_first_61 : decode cX5_first 61 = .ok (.ifCond .ne 33, 3) := by decide +kernel
theorem dX5_first_64 : decode cX5_first 64 = .ok (.iload_n 1, 1) := by decide +kernel
theorem dX5_first_65 : decode cX5_first 65 = .ok (.ifCond .ne 7, 3) := by decide +kernel
theorem dX5_first_68 : decode cX5_first 68 = .ok (.iload_n 2, 1) := by decide +kernel
theorem dX5_first_69 : decode cX5_first 69 = .ok (.goto 24, 3) := by decide +kernel
theorem dX5_first_72 : decode cX5_first 72 = .ok (.iload_n 1, 1) := by decide +kernel
theorem dX5_first_73 : decode cX5_first 73 = .ok (.iconst 1, 1) := by decide +kernel
theorem dX5_first_74 : decode cX5_first 74 = .ok (.if_icmp .ne 7, 3) := by decide +kernel
theorem dX5_first_77 : decode cX5_first 77 = .ok (.iload_n 3, 1) := by decide +kernel
theorem dX5_first_78 : decode cX5_first 78 = .ok (.goto 15, 3) := by decide +kernel
theorem dX5_first_81 : decode cX5_first 81 = .ok (.aload_n 0, 1) := by decide +kernel
theorem dX5_first_82 : decode cX5_first 82 = .ok (.aload_n 0, 1) := by decide +kernel
theorem dX5_first_83 : decode cX5_first 83 = .ok (.getfield 7, 3) := by decide +kernel
theorem dX5_first_86 : decode cX5_first 86 = .ok (.iconst 0, 1) := by decide +kernel
theorem dX5_first_87 : decode cX5_first 87 = .ok (.iaload, 1) := by decide +kernel
theorem dX5_first_88 : decode cX5_first 88 = .ok (.iload_n 3, 1) := by decide +kernel
theorem dX5_first_89 : decode cX5_first 89 = .ok (.iload_n 2, 1) := by decide +kernel
theorem dX5_first_90 : decode cX5_first 90 = .ok (.invokevirtual 207, 3) := by decide +kernel
theorem dX5_first_93 : decode cX5_first 93 = .ok (.ireturn, 1) := by decide +kernel
theorem dX5_first_94 : decode cX5_first 94 = .ok (.iinc 3 1, 3) := by decide +kernel
theorem dX5_first_97 : decode cX5_first 97 = .ok (.goto (-72), 3) := by decide +kernel
theorem dX5_first_100 : decode cX5_first 100 = .ok (.iinc 2 1, 3) := by decide +kernel
theorem dX5_first_103 : decode cX5_first 103 = .ok (.goto (-86), 3) := by decide +kernel
theorem dX5_first_106 : decode cX5_first 106 = .ok (.iconst (-1), 1) := by decide +kernel
theorem dX5_first_107 : decode cX5_first 107 = .ok (.ireturn, 1) := by decide +kernel
theorem dX5_worthOf_0 : decode cX5_worthOf 0 = .ok (.iconst 0, 1) := by decide +kernel
theorem dX5_worthOf_1 : decode cX5_worthOf 1 = .ok (.istore_n 2, 1) := by decide +kernel
theorem dX5_worthOf_2 : decode cX5_worthOf 2 = .ok (.iconst 0, 1) := by decide +kernel
theorem dX5_worthOf_3 : decode cX5_worthOf 3 = .ok (.istore_n 3, 1) := by decide +kernel
theorem dX5_worthOf_4 : decode cX5_worthOf 4 = .ok (.iload_n 3, 1) := by decide +kernel
theorem dX5_worthOf_5 : decode cX5_worthOf 5 = .ok (.aload_n 0, 1) := by decide +kernel
theorem dX5_worthOf_6 : decode cX5_worthOf 6 = .ok (.getfield 134, 3) := by decide +kernel
theorem dX5_worthOf_9 : decode cX5_worthOf 9 = .ok (.if_icmp .ge 36, 3) := by decide +kernel
theorem dX5_worthOf_12 : decode cX5_worthOf 12 = .ok (.iload_n 2, 1) := by decide +kernel
theorem dX5_worthOf_13 : decode cX5_worthOf 13 = .ok (.iload_n 1, 1) := by decide +kernel
theorem dX5_worthOf_14 : decode cX5_worthOf 14 = .ok (.i2l, 1) := by decide +kernel
theorem dX5_worthOf_15 : decode cX5_worthOf 15 = .ok (.iload_n 3, 1) := by decide +kernel
theorem dX5_worthOf_16 : decode cX5_worthOf 16 = .ok (.invokestatic 105, 3) := by decide +kernel
theorem dX5_worthOf_19 : decode cX5_worthOf 19 = .ok (.ifCond .eq 17, 3) := by decide +kernel
theorem dX5_worthOf_22 : decode cX5_worthOf 22 = .ok (.aload_n 0, 1) := by decide +kernel
theorem dX5_worthOf_23 : decode cX5_worthOf 23 = .ok (.getfield 36, 3) := by decide +kernel
theorem dX5_worthOf_26 : decode cX5_worthOf 26 = .ok (.bipush 7, 2) := by decide +kernel
theorem dX5_worthOf_28 : decode cX5_worthOf 28 = .ok (.iload_n 3, 1) := by decide +kernel
theorem dX5_worthOf_29 : decode cX5_worthOf 29 = .ok (.imul, 1) := by decide +kernel
theorem dX5_worthOf_30 : decode cX5_worthOf 30 = .ok (.iconst 5, 1) := by decide +kernel
theorem dX5_worthOf_31 : decode cX5_worthOf 31 = .ok (.iadd, 1) := by decide +kernel
theorem dX5_worthOf_32 : decode cX5_worthOf 32 = .ok (.iaload, 1) := by decide +kernel
theorem dX5_worthOf_33 : decode cX5_worthOf 33 = .ok (.goto 4, 3) := by decide +kernel
theorem dX5_worthOf_36 : decode cX5_worthOf 36 = .ok (.iconst 0, 1) := by decide +kernel
theorem dX5_worthOf_37 : decode cX5_worthOf 37 = .ok (.iadd, 1) := by decide +kernel
theorem dX5_worthOf_38 : decode cX5_worthOf 38 = .ok (.istore_n 2, 1) := by decide +kernel
theorem dX5_worthOf_39 : decode cX5_worthOf 39 = .ok (.iinc 3 1, 3) := by decide +kernel
theorem dX5_worthOf_42 : decode cX5_worthOf 42 = .ok (.goto (-38), 3) := by decide +kernel
theorem dX5_worthOf_45 : decode cX5_worthOf 45 = .ok (.iload_n 2, 1) := by decide +kernel
theorem dX5_worthOf_46 : decode cX5_worthOf 46 = .ok (.ireturn, 1) := by decide +kernel
theorem dX5_most_0 : decode cX5_most 0 = .ok (.iload_n 1, 1) := by decide +kernel
theorem dX5_most_1 : decode cX5_most 1 = .ok (.i2l, 1) := by decide +kernel
theorem dX5_most_2 : decode cX5_most 2 = .ok (.lconst 0, 1) := by decide +kernel
theorem dX5_most_3 : decode cX5_most 3 = .ok (.lconst 1, 1) := by decide +kernel
theorem dX5_most_4 : decode cX5_most 4 = .ok (.invokestatic 47, 3) := by decide +kernel
theorem dX5_most_7 : decode cX5_most 7 = .ok (.ifCond .ne 6, 3) := by decide +kernel
theorem dX5_most_10 : decode cX5_most 10 = .ok (.bipush (-3), 2) := by decide +kernel
theorem dX5_most_12 : decode cX5_most 12 = .ok (.ireturn, 1) := by decide +kernel
theorem dX5_most_13 : decode cX5_most 13 = .ok (.iconst (-1), 1) := by decide +kernel
theorem dX5_most_14 : decode cX5_most 14 = .ok (.istore_n 2, 1) := by decide +kernel
theorem dX5_most_15 : decode cX5_most 15 = .ok (.iconst 0, 1) := by decide +kernel
theorem dX5_most_16 : decode cX5_most 16 = .ok (.istore_n 3, 1) := by decide +kernel
theorem dX5_most_17 : decode cX5_most 17 = .ok (.iload_n 3, 1) := by decide +kernel
theorem dX5_most_18 : decode cX5_most 18 = .ok (.iconst 1, 1) := by decide +kernel
theorem dX5_most_19 : decode cX5_most 19 = .ok (.aload_n 0, 1) := by decide +kernel
theorem dX5_most_20 : decode cX5_most 20 = .ok (.getfield 134, 3) := by decide +kernel
theorem dX5_most_23 : decode cX5_most 23 = .ok (.ishl, 1) := by decide +kernel
theorem dX5_most_24 : decode cX5_most 24 = .ok (.if_icmp .ge 41, 3) := by decide +kernel
theorem dX5_most_27 : decode cX5_most 27 = .ok (.iload_n 2, 1) := by decide +kernel
theorem dX5_most_28 : decode cX5_most 28 = .ok (.iconst (-1), 1) := by decide +kernel
theorem dX5_most_29 : decode cX5_most 29 = .ok (.if_icmp .eq 16, 3) := by decide +kernel
theorem dX5_most_32 : decode cX5_most 32 = .ok (.aload_n 0, 1) := by decide +kernel
theorem dX5_most_33 : decode cX5_most 33 = .ok (.iload_n 3, 1) := by decide +kernel
theorem dX5_most_34 : decode cX5_most 34 = .ok (.invokevirtual 210, 3) := by decide +kernel
theorem dX5_most_37 : decode cX5_most 37 = .ok (.aload_n 0, 1) := by decide +kernel
theorem dX5_most_38 : decode cX5_most 38 = .ok (.iload_n 2, 1) := by decide +kernel
theorem dX5_most_39 : decode cX5_most 39 = .ok (.invokevirtual 210, 3) := by decide +kernel
theorem dX5_most_42 : decode cX5_most 42 = .ok (.if_icmp .le 15, 3) := by decide +kernel
theorem dX5_most_45 : decode cX5_most 45 = .ok (.aload_n 0, 1) := by decide +kernel
theorem dX5_most_46 : decode cX5_most 46 = .ok (.iload_n 3, 1) := by decide +kernel
theorem dX5_most_47 : decode cX5_most 47 = .ok (.invokevirtual 213, 3) := by decide +kernel
theorem dX5_most_50 : decode cX5_most 50 = .ok (.ifCond .eq 7, 3) := by decide +kernel
theorem dX5_most_53 : decode cX5_most 53 = .ok (.iload_n 3, 1) := by decide +kernel
theorem dX5_most_54 : decode cX5_most 54 = .ok (.goto 4, 3) := by decide +kernel
theorem dX5_most_57 : decode cX5_most 57 = .ok (.iload_n 2, 1) := by decide +kernel
theorem dX5_most_58 : decode cX5_most 58 = .ok (.istore_n 2, 1) := by decide +kernel
theorem dX5_most_59 : decode cX5_most 59 = .ok (.iinc 3 1, 3) := by decide +kernel
theorem dX5_most_62 : decode cX5_most 62 = .ok (.goto (-45), 3) := by decide +kernel
theorem dX5_most_65 : decode cX5_most 65 = .ok (.iload_n 2, 1) := by decide +kernel
theorem dX5_most_66 : decode cX5_most 66 = .ok (.iconst (-1), 1) := by decide +kernel
theorem dX5_most_67 : decode cX5_most 67 = .ok (.if_icmp .ne 7, 3) := by decide +kernel
theorem dX5_most_70 : decode cX5_most 70 = .ok (.iconst (-1), 1) := by decide +kernel
theorem dX5_most_71 : decode cX5_most 71 = .ok (.goto 16, 3) := by decide +kernel
theorem dX5_most_74 : decode cX5_most 74 = .ok (.iload_n 1, 1) := by decide +kernel
theorem dX5_most_75 : decode cX5_most 75 = .ok (.ifCond .ne 11, 3) := by decide +kernel
theorem dX5_most_78 : decode cX5_most 78 = .ok (.aload_n 0, 1) := by decide +kernel
theorem dX5_most_79 : decode cX5_most 79 = .ok (.iload_n 2, 1) := by decide +kernel
theorem dX5_most_80 : decode cX5_most 80 = .ok (.invokevirtual 210, 3) := by decide +kernel
theorem dX5_most_83 : decode cX5_most 83 = .ok (.goto 4, 3) := by decide +kernel
theorem dX5_most_86 : decode cX5_most 86 = .ok (.iload_n 2, 1) := by decide +kernel
theorem dX5_most_87 : decode cX5_most 87 = .ok (.ireturn, 1) := by decide +kernel
theorem dX5_stands_0 : decode cX5_stands 0 = .ok (.aload_n 0, 1) := by decide +kernel
theorem dX5_stands_1 : decode cX5_stands 1 = .ok (.iload_n 1, 1) := by decide +kernel
theorem dX5_stands_2 : decode cX5_stands 2 = .ok (.invokevirtual 189, 3) := by decide +kernel
theorem dX5_stands_5 : decode cX5_stands 5 = .ok (.ifCond .ne 7, 3) := by decide +kernel
theorem dX5_stands_8 : decode cX5_stands 8 = .ok (.ldc2_w 216, 3) := by decide +kernel
theorem dX5_stands_11 : decode cX5_stands 11 = .ok (.lreturn, 1) := by decide +kernel
theorem dX5_stands_12 : decode cX5_stands 12 = .ok (.aload_n 0, 1) := by decide +kernel
theorem dX5_stands_13 : decode cX5_stands 13 = .ok (.getfield 36, 3) := by decide +kernel
theorem dX5_stands_16 : decode cX5_stands 16 = .ok (.bipush 7, 2) := by decide +kernel
theorem dX5_stands_18 : decode cX5_stands 18 = .ok (.iload_n 1, 1) := by decide +kernel
theorem dX5_stands_19 : decode cX5_stands 19 = .ok (.imul, 1) := by decide +kernel
theorem dX5_stands_20 : decode cX5_stands 20 = .ok (.iconst 1, 1) := by decide +kernel
theorem dX5_stands_21 : decode cX5_stands 21 = .ok (.iadd, 1) := by decide +kernel
theorem dX5_stands_22 : decode cX5_stands 22 = .ok (.iaload, 1) := by decide +kernel
theorem dX5_stands_23 : decode cX5_stands 23 = .ok (.istore_n 2, 1) := by decide +kernel
theorem dX5_stands_24 : decode cX5_stands 24 = .ok (.lconst 0, 1) := by decide +kernel
theorem dX5_stands_25 : decode cX5_stands 25 = .ok (.lstore_n 3, 1) := by decide +kernel
theorem dX5_stands_26 : decode cX5_stands 26 = .ok (.iconst 0, 1) := by decide +kernel
theorem dX5_stands_27 : decode cX5_stands 27 = .ok (.istore 5, 2) := by decide +kernel
theorem dX5_stands_29 : decode cX5_stands 29 = .ok (.iload 5, 2) := by decide +kernel
theorem dX5_stands_31 : decode cX5_stands 31 = .ok (.aload_n 0, 1) := by decide +kernel
theorem dX5_stands_32 : decode cX5_stands 32 = .ok (.getfield 23, 3) := by decide +kernel
theorem dX5_stands_35 : decode cX5_stands 35 = .ok (.aload_n 0, 1) := by decide +kernel
theorem dX5_stands_36 : decode cX5_stands 36 = .ok (.getfield 27, 3) := by decide +kernel
theorem dX5_stands_39 : decode cX5_stands 39 = .ok (.imul, 1) := by decide +kernel
theorem dX5_stands_40 : decode cX5_stands 40 = .ok (.if_icmp .ge 50, 3) := by decide +kernel
theorem dX5_stands_43 : decode cX5_stands 43 = .ok (.aload_n 0, 1) := by decide +kernel
theorem dX5_stands_44 : decode cX5_stands 44 = .ok (.getfield 36, 3) := by decide +kernel
theorem dX5_stands_47 : decode cX5_stands 47 = .ok (.bipush 7, 2) := by decide +kernel
theorem dX5_stands_49 : decode cX5_stands 49 = .ok (.iload_n 1, 1) := by decide +kernel
theorem dX5_stands_50 : decode cX5_stands 50 = .ok (.imul, 1) := by decide +kernel
theorem dX5_stands_51 : decode cX5_stands 51 = .ok (.iconst 1, 1) := by decide +kernel
theorem dX5_stands_52 : decode cX5_stands 52 = .ok (.iadd, 1) := by decide +kernel
theorem dX5_stands_53 : decode cX5_stands 53 = .ok (.iload 5, 2) := by decide +kernel
theorem dX5_stands_55 : decode cX5_stands 55 = .ok (.iastore, 1) := by decide +kernel
theorem dX5_stands_56 : decode cX5_stands 56 = .ok (.lload_n 3, 1) := by decide +kernel
theorem dX5_stands_57 : decode cX5_stands 57 = .ok (.aload_n 0, 1) := by decide +kernel
theorem dX5_stands_58 : decode cX5_stands 58 = .ok (.aload_n 0, 1) := by decide +kernel
theorem dX5_stands_59 : decode cX5_stands 59 = .ok (.getfield 7, 3) := by decide +kernel
theorem dX5_stands_62 : decode cX5_stands 62 = .ok (.iconst 0, 1) := by decide +kernel
theorem dX5_stands_63 : decode cX5_stands 63 = .ok (.iaload, 1) := by decide +kernel
theorem dX5_stands_64 : decode cX5_stands 64 = .ok (.iconst 1, 1) := by decide +kernel
theorem dX5_stands_65 : decode cX5_stands 65 = .ok (.iload_n 1, 1) := by decide +kernel
theorem dX5_stands_66 : decode cX5_stands 66 = .ok (.ishl, 1) := by decide +kernel
theorem dX5_stands_67 : decode cX5_stands 67 = .ok (.ior, 1) := by decide +kernel
theorem dX5_stands_68 : decode cX5_stands 68 = .ok (.invokevirtual 213, 3) := by decide +kernel
theorem dX5_stands_71 : decode cX5_stands 71 = .ok (.ifCond .eq 10, 3) := by decide +kernel
theorem dX5_stands_74 : decode cX5_stands 74 = .ok (.lconst 1, 1) := by decide +kernel
theorem dX5_stands_75 : decode cX5_stands 75 = .ok (.iload 5, 2) := by decide +kernel
theorem dX5_stands_77 : decode cX5_stands 77 = .ok (.lshl, 1) := by decide +kernel
theorem dX5_stands_78 : decode cX5_stands 78 = .ok (.goto 4, 3) := by decide +kernel
theorem dX5_stands_81 : decode cX5_stands 81 = .ok (.lconst 0, 1) := by decide +kernel
theorem dX5_stands_82 : decode cX5_stands 82 = .ok (.lor, 1) := by decide +kernel
theorem dX5_stands_83 : decode cX5_stands 83 = .ok (.lstore_n 3, 1) := by decide +kernel
theorem dX5_stands_84 : decode cX5_stands 84 = .ok (.iinc 5 1, 3) := by decide +kernel
theorem dX5_stands_87 : decode cX5_stands 87 = .ok (.goto (-58), 3) := by decide +kernel
theorem dX5_stands_90 : decode cX5_stands 90 = .ok (.aload_n 0, 1) := by decide +kernel
theorem dX5_stands_91 : decode cX5_stands 91 = .ok (.getfield 36, 3) := by decide +kernel
theorem dX5_stands_94 : decode cX5_stands 94 = .ok (.bipush 7, 2) := by decide +kernel
theorem dX5_stands_96 : decode cX5_stands 96 = .ok (.iload_n 1, 1) := by decide +kernel
theorem dX5_stands_97 : decode cX5_stands 97 = .ok (.imul, 1) := by decide +kernel
theorem dX5_stands_98 : decode cX5_stands 98 = .ok (.iconst 1, 1) := by decide +kernel
theorem dX5_stands_99 : decode cX5_stands 99 = .ok (.iadd, 1) := by decide +kernel
theorem dX5_stands_100 : decode cX5_stands 100 = .ok (.iload_n 2, 1) := by decide +kernel
theorem dX5_stands_101 : decode cX5_stands 101 = .ok (.iastore, 1) := by decide +kernel
theorem dX5_stands_102 : decode cX5_stands 102 = .ok (.lload_n 3, 1) := by decide +kernel
theorem dX5_stands_103 : decode cX5_stands 103 = .ok (.lreturn, 1) := by decide +kernel
theorem dX5_sides_0 : decode cX5_sides 0 = .ok (.aload_n 0, 1) := by decide +kernel
theorem dX5_sides_1 : decode cX5_sides 1 = .ok (.iload_n 1, 1) := by decide +kernel
theorem dX5_sides_2 : decode cX5_sides 2 = .ok (.invokevirtual 189, 3) := by decide +kernel
theorem dX5_sides_5 : decode cX5_sides 5 = .ok (.ifCond .ne 6, 3) := by decide +kernel
theorem dX5_sides_8 : decode cX5_sides 8 = .ok (.bipush (-2), 2) := by decide +kernel
theorem dX5_sides_10 : decode cX5_sides 10 = .ok (.ireturn, 1) := by decide +kernel
theorem dX5_sides_11 : decode cX5_sides 11 = .ok (.aload_n 0, 1) := by decide +kernel
theorem dX5_sides_12 : decode cX5_sides 12 = .ok (.getfield 36, 3) := by decide +kernel
theorem dX5_sides_15 : decode cX5_sides 15 = .ok (.bipush 7, 2) := by decide +kernel
theorem dX5_sides_17 : decode cX5_sides 17 = .ok (.iload_n 1, 1) := by decide +kernel
theorem dX5_sides_18 : decode cX5_sides 18 = .ok (.imul, 1) := by decide +kernel
theorem dX5_sides_19 : decode cX5_sides 19 = .ok (.iaload, 1) := by decide +kernel
theorem dX5_sides_20 : decode cX5_sides 20 = .ok (.iconst 1, 1) := by decide +kernel
theorem dX5_sides_21 : decode cX5_sides 21 = .ok (.if_icmp .eq 6, 3) := by decide +kernel
theorem dX5_sides_24 : decode cX5_sides 24 = .ok (.bipush (-4), 2) := by decide +kernel
theorem dX5_sides_26 : decode cX5_sides 26 = .ok (.ireturn, 1) := by decide +kernel
theorem dX5_sides_27 : decode cX5_sides 27 = .ok (.aload_n 0, 1) := by decide +kernel
theorem dX5_sides_28 : decode cX5_sides 28 = .ok (.getfield 36, 3) := by decide +kernel
theorem dX5_sides_31 : decode cX5_sides 31 = .ok (.bipush 7, 2) := by decide +kernel
theorem dX5_sides_33 : decode cX5_sides 33 = .ok (.iload_n 1, 1) := by decide +kernel
theorem dX5_sides_34 : decode cX5_sides 34 = .ok (.imul, 1) := by decide +kernel
theorem dX5_sides_35 : decode cX5_sides 35 = .ok (.bipush 6, 2) := by decide +kernel
theorem dX5_sides_37 : decode cX5_sides 37 = .ok (.iadd, 1) := by decide +kernel
theorem dX5_sides_38 : decode cX5_sides 38 = .ok (.iaload, 1) := by decide +kernel
theorem dX5_sides_39 : decode cX5_sides 39 = .ok (.istore_n 2, 1) := by decide +kernel
theorem dX5_sides_40 : decode cX5_sides 40 = .ok (.iconst 0, 1) := by decide +kernel
theorem dX5_sides_41 : decode cX5_sides 41 = .ok (.istore_n 3, 1) := by decide +kernel
theorem dX5_sides_42 : decode cX5_sides 42 = .ok (.iconst 0, 1) := by decide +kernel
theorem dX5_sides_43 : decode cX5_sides 43 = .ok (.istore 4, 2) := by decide +kernel
theorem dX5_sides_45 : decode cX5_sides 45 = .ok (.iload 4, 2) := by decide +kernel
theorem dX5_sides_47 : decode cX5_sides 47 = .ok (.iconst 4, 1) := by decide +kernel
theorem dX5_sides_48 : decode cX5_sides 48 = .ok (.if_icmp .ge 51, 3) := by decide +kernel
theorem dX5_sides_51 : decode cX5_sides 51 = .ok (.aload_n 0, 1) := by decide +kernel
theorem dX5_sides_52 : decode cX5_sides 52 = .ok (.getfield 36, 3) := by decide +kernel
theorem dX5_sides_55 : decode cX5_sides 55 = .ok (.bipush 7, 2) := by decide +kernel
theorem dX5_sides_57 : decode cX5_sides 57 = .ok (.iload_n 1, 1) := by decide +kernel
theorem dX5_sides_58 : decode cX5_sides 58 = .ok (.imul, 1) := by decide +kernel
theorem dX5_sides_59 : decode cX5_sides 59 = .ok (.bipush 6, 2) := by decide +kernel
theorem dX5_sides_61 : decode cX5_sides 61 = .ok (.iadd, 1) := by decide +kernel
theorem dX5_sides_62 : decode cX5_sides 62 = .ok (.iload 4, 2) := by decide +kernel
theorem dX5_sides_64 : decode cX5_sides 64 = .ok (.iastore, 1) := by decide +kernel
theorem dX5_sides_65 : decode cX5_sides 65 = .ok (.iload_n 3, 1) := by decide +kernel
theorem dX5_sides_66 : decode cX5_sides 66 = .ok (.aload_n 0, 1) := by decide +kernel
theorem dX5_sides_67 : decode cX5_sides 67 = .ok (.aload_n 0, 1) := by decide +kernel
theorem dX5_sides_68 : decode cX5_sides 68 = .ok (.getfield 7, 3) := by decide +kernel
theorem dX5_sides_71 : decode cX5_sides 71 = .ok (.iconst 0, 1) := by decide +kernel
theorem dX5_sides_72 : decode cX5_sides 72 = .ok (.iaload, 1) := by decide +kernel
theorem dX5_sides_73 : decode cX5_sides 73 = .ok (.iconst 1, 1) := by decide +kernel
theorem dX5_sides_74 : decode cX5_sides 74 = .ok (.iload_n 1, 1) := by decide +kernel
theorem dX5_sides_75 : decode cX5_sides 75 = .ok (.ishl, 1) := by decide +kernel
theorem dX5_sides_76 : decode cX5_sides 76 = .ok (.ior, 1) := by decide +kernel
theorem dX5_sides_77 : decode cX5_sides 77 = .ok (.invokevirtual 213, 3) := by decide +kernel
theorem dX5_sides_80 : decode cX5_sides 80 = .ok (.ifCond .eq 10, 3) := by decide +kernel
theorem dX5_sides_83 : decode cX5_sides 83 = .ok (.iconst 1, 1) := by decide +kernel
theorem dX5_sides_84 : decode cX5_sides 84 = .ok (.iload 4, 2) := by decide +kernel
theorem dX5_sides_86 : decode cX5_sides 86 = .ok (.ishl, 1) := by decide +kernel
theorem dX5_sides_87 : decode cX5_sides 87 = .ok (.goto 4, 3) := by decide +kernel
theorem dX5_sides_90 : decode cX5_sides 90 = .ok (.iconst 0, 1) := by decide +kernel
theorem dX5_sides_91 : decode cX5_sides 91 = .ok (.ior, 1) := by decide +kernel
theorem dX5_sides_92 : decode cX5_sides 92 = .ok (.istore_n 3, 1) := by decide +kernel
theorem dX5_sides_93 : decode cX5_sides 93 = .ok (.iinc 4 1, 3) := by decide +kernel
theorem dX5_sides_96 : decode cX5_sides 96 = .ok (.goto (-51), 3) := by decide +kernel
theorem dX5_sides_99 : decode cX5_sides 99 = .ok (.aload_n 0, 1) := by decide +kernel
theorem dX5_sides_100 : decode cX5_sides 100 = .ok (.getfield 36, 3) := by decide +kernel
theorem dX5_sides_103 : decode cX5_sides 103 = .ok (.bipush 7, 2) := by decide +kernel
theorem dX5_sides_105 : decode cX5_sides 105 = .ok (.iload_n 1, 1) := by decide +kernel
theorem dX5_sides_106 : decode cX5_sides 106 = .ok (.imul, 1) := by decide +kernel
theorem dX5_sides_107 : decode cX5_sides 107 = .ok (.bipush 6, 2) := by decide +kernel
theorem dX5_sides_109 : decode cX5_sides 109 = .ok (.iadd, 1) := by decide +kernel
theorem dX5_sides_110 : decode cX5_sides 110 = .ok (.iload_n 2, 1) := by decide +kernel
theorem dX5_sides_111 : decode cX5_sides 111 = .ok (.iastore, 1) := by decide +kernel
theorem dX5_sides_112 : decode cX5_sides 112 = .ok (.iload_n 3, 1) := by decide +kernel
theorem dX5_sides_113 : decode cX5_sides 113 = .ok (.ireturn, 1) := by decide +kernel
theorem dX5_laySpots_0 : decode cX5_laySpots 0 = .ok (.aload_n 0, 1) := by decide +kernel
theorem dX5_laySpots_1 : decode cX5_laySpots 1 = .ok (.iconst 0, 1) := by decide +kernel
theorem dX5_laySpots_2 : decode cX5_laySpots 2 = .ok (.putfield 218, 3) := by decide +kernel
theorem dX5_laySpots_5 : decode cX5_laySpots 5 = .ok (.iconst 0, 1) := by decide +kernel
theorem dX5_laySpots_6 : decode cX5_laySpots 6 = .ok (.istore_n 1, 1) := by decide +kernel
theorem dX5_laySpots_7 : decode cX5_laySpots 7 = .ok (.iload_n 1, 1) := by decide +kernel
theorem dX5_laySpots_8 : decode cX5_laySpots 8 = .ok (.aload_n 0, 1) := by decide +kernel
theorem dX5_laySpots_9 : decode cX5_laySpots 9 = .ok (.getfield 23, 3) := by decide +kernel
theorem dX5_laySpots_12 : decode cX5_laySpots 12 = .ok (.aload_n 0, 1) := by decide +kernel
theorem dX5_laySpots_13 : decode cX5_laySpots 13 = .ok (.getfield 27, 3) := by decide +kernel
theorem dX5_laySpots_16 : decode cX5_laySpots 16 = .ok (.imul, 1) := by decide +kernel
theorem dX5_laySpots_17 : decode cX5_laySpots 17 = .ok (.if_icmp .ge 87, 3) := by decide +kernel
theorem dX5_laySpots_20 : decode cX5_laySpots 20 = .ok (.iconst 0, 1) := by decide +kernel
theorem dX5_laySpots_21 : decode cX5_laySpots 21 = .ok (.istore_n 2, 1) := by decide +kernel
theorem dX5_laySpots_22 : decode cX5_laySpots 22 = .ok (.iconst 0, 1) := by decide +kernel
theorem dX5_laySpots_23 : decode cX5_laySpots 23 = .ok (.istore_n 3, 1) := by decide +kernel
theorem dX5_laySpots_24 : decode cX5_laySpots 24 = .ok (.iload_n 3, 1) := by decide +kernel
theorem dX5_laySpots_25 : decode cX5_laySpots 25 = .ok (.aload_n 0, 1) := by decide +kernel
theorem dX5_laySpots_26 : decode cX5_laySpots 26 = .ok (.getfield 134, 3) := by decide +kernel
theorem dX5_laySpots_29 : decode cX5_laySpots 29 = .ok (.if_icmp .ge 34, 3) := by decide +kernel
theorem dX5_laySpots_32 : decode cX5_laySpots 32 = .ok (.iload_n 2, 1) := by decide +kernel
theorem dX5_laySpots_33 : decode cX5_laySpots 33 = .ok (.ifCond .ne 18, 3) := by decide +kernel
theorem dX5_laySpots_36 : decode cX5_laySpots 36 = .ok (.aload_n 0, 1) := by decide +kernel
theorem dX5_laySpots_37 : decode cX5_laySpots 37 = .ok (.getfield 36, 3) := by decide +kernel
theorem dX5_laySpots_40 : decode cX5_laySpots 40 = .ok (.bipush 7, 2) := by decide +kernel
theorem dX5_laySpots_42 : decode cX5_laySpots 42 = .ok (.iload_n 3, 1) := by decide +kernel
theorem dX5_laySpots_43 : decode cX5_laySpots 43 = .ok (.imul, 1) := by decide +kernel
theorem dX5_laySpots_44 : decode cX5_laySpots 44 = .ok (.iconst 1, 1) := by decide +kernel
theorem dX5_laySpots_45 : decode cX5_laySpots 45 = .ok (.iadd, 1) := by decide +kernel
theorem dX5_laySpots_46 : decode cX5_laySpots 46 = .ok (.iaload, 1) := by decide +kernel
theorem dX5_laySpots_47 : decode cX5_laySpots 47 = .ok (.iload_n 1, 1) := by decide +kernel
theorem dX5_laySpots_48 : decode cX5_laySpots 48 = .ok (.if_icmp .ne 7, 3) := by decide +kernel
theorem dX5_laySpots_51 : decode cX5_laySpots 51 = .ok (.iconst 1, 1) := by decide +kernel
theorem dX5_laySpots_52 : decode cX5_laySpots 52 = .ok (.goto 4, 3) := by decide +kernel
theorem dX5_laySpots_55 : decode cX5_laySpots 55 = .ok (.iconst 0, 1) := by decide +kernel
theorem dX5_laySpots_56 : decode cX5_laySpots 56 = .ok (.istore_n 2, 1) := by decide +kernel
theorem dX5_laySpots_57 : decode cX5_laySpots 57 = .ok (.iinc 3 1, 3) := by decide +kernel
theorem dX5_laySpots_60 : decode cX5_laySpots 60 = .ok (.goto (-36), 3) := by decide +kernel
theorem dX5_laySpots_63 : decode cX5_laySpots 63 = .ok (.iload_n 2, 1) := by decide +kernel
theorem dX5_laySpots_64 : decode cX5_laySpots 64 = .ok (.ifCond .eq 34, 3) := by decide +kernel
theorem dX5_laySpots_67 : decode cX5_laySpots 67 = .ok (.aload_n 0, 1) := by decide +kernel
theorem dX5_laySpots_68 : decode cX5_laySpots 68 = .ok (.getfield 137, 3) := by decide +kernel
theorem dX5_laySpots_71 : decode cX5_laySpots 71 = .ok (.iload_n 1, 1) := by decide +kernel
theorem dX5_laySpots_72 : decode cX5_laySpots 72 = .ok (.invokestatic 105, 3) := by decide +kernel
theorem dX5_laySpots_75 : decode cX5_laySpots 75 = .ok (.ifCond .ne 23, 3) := by decide +kernel
theorem dX5_laySpots_78 : decode cX5_laySpots 78 = .ok (.aload_n 0, 1) := by decide +kernel
theorem dX5_laySpots_79 : decode cX5_laySpots 79 = .ok (.getfield 39, 3) := by decide +kernel
theorem dX5_laySpots_82 : decode cX5_laySpots 82 = .ok (.aload_n 0, 1) := by decide +kernel
theorem dX5_laySpots_83 : decode cX5_laySpots 83 = .ok (.getfield 218, 3) := by decide +kernel
theorem dX5_laySpots_86 : decode cX5_laySpots 86 = .ok (.iload_n 1, 1) := by decide +kernel
theorem dX5_laySpots_87 : decode cX5_laySpots 87 = .ok (.iastore, 1) := by decide +kernel
theorem dX5_laySpots_88 : decode cX5_laySpots 88 = .ok (.aload_n 0, 1) := by decide +kernel
theorem dX5_laySpots_89 : decode cX5_laySpots 89 = .ok (.dup, 1) := by decide +kernel
theorem dX5_laySpots_90 : decode cX5_laySpots 90 = .ok (.getfield 218, 3) := by decide +kernel
theorem dX5_laySpots_93 : decode cX5_laySpots 93 = .ok (.iconst 1, 1) := by decide +kernel
theorem dX5_laySpots_94 : decode cX5_laySpots 94 = .ok (.iadd, 1) := by decide +kernel
theorem dX5_laySpots_95 : decode cX5_laySpots 95 = .ok (.putfield 218, 3) := by decide +kernel
theorem dX5_laySpots_98 : decode cX5_laySpots 98 = .ok (.iinc 1 1, 3) := by decide +kernel
theorem dX5_laySpots_101 : decode cX5_laySpots 101 = .ok (.goto (-94), 3) := by decide +kernel
theorem dX5_laySpots_104 : decode cX5_laySpots 104 = .ok (.return_, 1) := by decide +kernel
theorem dX5_placesOf_0 : decode cX5_placesOf 0 = .ok (.lconst 0, 1) := by decide +kernel
theorem dX5_placesOf_1 : decode cX5_placesOf 1 = .ok (.lstore_n 2, 1) := by decide +kernel
theorem dX5_placesOf_2 : decode cX5_placesOf 2 = .ok (.iconst 0, 1) := by decide +kernel
theorem dX5_placesOf_3 : decode cX5_placesOf 3 = .ok (.istore 4, 2) := by decide +kernel
theorem dX5_placesOf_5 : decode cX5_placesOf 5 = .ok (.iload 4, 2) := by decide +kernel
theorem dX5_placesOf_7 : decode cX5_placesOf 7 = .ok (.aload_n 0, 1) := by decide +kernel
theorem dX5_placesOf_8 : decode cX5_placesOf 8 = .ok (.getfield 218, 3) := by decide +kernel
theorem dX5_placesOf_11 : decode cX5_placesOf 11 = .ok (.if_icmp .ge 35, 3) := by decide +kernel
theorem dX5_placesOf_14 : decode cX5_placesOf 14 = .ok (.lload_n 2, 1) := by decide +kernel
theorem dX5_placesOf_15 : decode cX5_placesOf 15 = .ok (.iload_n 1, 1) := by decide +kernel
theorem dX5_placesOf_16 : decode cX5_placesOf 16 = .ok (.i2l, 1) := by decide +kernel
theorem dX5_placesOf_17 : decode cX5_placesOf 17 = .ok (.iload 4, 2) := by decide +kernel
theorem dX5_placesOf_19 : decode cX5_placesOf 19 = .ok (.invokestatic 105, 3) := by decide +kernel
theorem dX5_placesOf_22 : decode cX5_placesOf 22 = .ok (.ifCond .eq 15, 3) := by decide +kernel
theorem dX5_placesOf_25 : decode cX5_placesOf 25 = .ok (.lconst 1, 1) := by decide +kernel
theorem dX5_placesOf_26 : decode cX5_placesOf 26 = .ok (.aload_n 0, 1) := by decide +kernel
theorem dX5_placesOf_27 : decode cX5_placesOf 27 = .ok (.getfield 39, 3) := by decide +kernel
theorem dX5_placesOf_30 : decode cX5_placesOf 30 = .ok (.iload 4, 2) := by decide +kernel
theorem dX5_placesOf_32 : decode cX5_placesOf 32 = .ok (.iaload, 1) := by decide +kernel
theorem dX5_placesOf_33 : decode cX5_placesOf 33 = .ok (.lshl, 1) := by decide +kernel
theorem dX5_placesOf_34 : decode cX5_placesOf 34 = .ok (.goto 4, 3) := by decide +kernel
theorem dX5_placesOf_37 : decode cX5_placesOf 37 = .ok (.lconst 0, 1) := by decide +kernel
theorem dX5_placesOf_38 : decode cX5_placesOf 38 = .ok (.lor, 1) := by decide +kernel
theorem dX5_placesOf_39 : decode cX5_placesOf 39 = .ok (.lstore_n 2, 1) := by decide +kernel
theorem dX5_placesOf_40 : decode cX5_placesOf 40 = .ok (.iinc 4 1, 3) := by decide +kernel
theorem dX5_placesOf_43 : decode cX5_placesOf 43 = .ok (.goto (-38), 3) := by decide +kernel
theorem dX5_placesOf_46 : decode cX5_placesOf 46 = .ok (.lload_n 2, 1) := by decide +kernel
theorem dX5_placesOf_47 : decode cX5_placesOf 47 = .ok (.lreturn, 1) := by decide +kernel
theorem dX5_hedged_0 : decode cX5_hedged 0 = .ok (.iload_n 1, 1) := by decide +kernel
theorem dX5_hedged_1 : decode cX5_hedged 1 = .ok (.i2l, 1) := by decide +kernel
theorem dX5_hedged_2 : decode cX5_hedged 2 = .ok (.lconst 0, 1) := by decide +kernel
theorem dX5_hedged_3 : decode cX5_hedged 3 = .ok (.lconst 1, 1) := by decide +kernel
theorem dX5_hedged_4 : decode cX5_hedged 4 = .ok (.invokestatic 47, 3) := by decide +kernel
theorem dX5_hedged_7 : decode cX5_hedged 7 = .ok (.ifCond .ne 7, 3) := by decide +kernel
theorem dX5_hedged_10 : decode cX5_hedged 10 = .ok (.ldc2_w 221, 3) := by decide +kernel
theorem dX5_hedged_13 : decode cX5_hedged 13 = .ok (.lreturn, 1) := by decide +kernel
theorem dX5_hedged_14 : decode cX5_hedged 14 = .ok (.aload_n 0, 1) := by decide +kernel
theorem dX5_hedged_15 : decode cX5_hedged 15 = .ok (.invokevirtual 223, 3) := by decide +kernel
theorem dX5_hedged_18 : decode cX5_hedged 18 = .ok (.aload_n 0, 1) := by decide +kernel
theorem dX5_hedged_19 : decode cX5_hedged 19 = .ok (.getfield 137, 3) := by decide +kernel
theorem dX5_hedged_22 : decode cX5_hedged 22 = .ok (.lstore_n 2, 1) := by decide +kernel
theorem dX5_hedged_23 : decode cX5_hedged 23 = .ok (.iconst (-1), 1) := by decide +kernel
theorem dX5_hedged_24 : decode cX5_hedged 24 = .ok (.istore 4, 2) := by decide +kernel
theorem dX5_hedged_26 : decode cX5_hedged 26 = .ok (.iconst 0, 1) := by decide +kernel
theorem dX5_hedged_27 : decode cX5_hedged 27 = .ok (.istore 5, 2) := by decide +kernel
theorem dX5_hedged_29 : decode cX5_hedged 29 = .ok (.iload 5, 2) := by decide +kernel
theorem dX5_hedged_31 : decode cX5_hedged 31 = .ok (.iconst 1, 1) := by decide +kernel
theorem dX5_hedged_32 : decode cX5_hedged 32 = .ok (.aload_n 0, 1) := by decide +kernel
theorem dX5_hedged_33 : decode cX5_hedged 33 = .ok (.getfield 218, 3) := by decide +kernel
theorem dX5_hedged_36 : decode cX5_hedged 36 = .ok (.ishl, 1) := by decide +kernel
theorem dX5_hedged_37 : decode cX5_hedged 37 = .ok (.if_icmp .ge 62, 3) := by decide +kernel
theorem dX5_hedged_40 : decode cX5_hedged 40 = .ok (.iload 4, 2) := by decide +kernel
theorem dX5_hedged_42 : decode cX5_hedged 42 = .ok (.iconst (-1), 1) := by decide +kernel
theorem dX5_hedged_43 : decode cX5_hedged 43 = .ok (.if_icmp .eq 16, 3) := by decide +kernel
theorem dX5_hedged_46 : decode cX5_hedged 46 = .ok (.iload 5, 2) := by decide +kernel
theorem dX5_hedged_48 : decode cX5_hedged 48 = .ok (.invokestatic 226, 3) := by decide +kernel
theorem dX5_hedged_51 : decode cX5_hedged 51 = .ok (.iload 4, 2) := by decide +kernel
theorem dX5_hedged_53 : decode cX5_hedged 53 = .ok (.invokestatic 226, 3) := by decide +kernel
theorem dX5_hedged_56 : decode cX5_hedged 56 = .ok (.if_icmp .ge 37, 3) := by decide +kernel
theorem dX5_hedged_59 : decode cX5_hedged 59 = .ok (.aload_n 0, 1) := by decide +kernel
theorem dX5_hedged_60 : decode cX5_hedged 60 = .ok (.lload_n 2, 1) := by decide +kernel
theorem dX5_hedged_61 : decode cX5_hedged 61 = .ok (.aload_n 0, 1) := by decide +kernel
theorem dX5_hedged_62 : decode cX5_hedged 62 = .ok (.iload 5, 2) := by decide +kernel
theorem dX5_hedged_64 : decode cX5_hedged 64 = .ok (.invokevirtual 229, 3) := by decide +kernel
theorem dX5_hedged_67 : decode cX5_hedged 67 = .ok (.lor, 1) := by decide +kernel
theorem dX5_hedged_68 : decode cX5_hedged 68 = .ok (.putfield 137, 3) := by decide +kernel
theorem dX5_hedged_71 : decode cX5_hedged 71 = .ok (.aload_n 0, 1) := by decide +kernel
theorem dX5_hedged_72 : decode cX5_hedged 72 = .ok (.aload_n 0, 1) := by decide +kernel
theorem dX5_hedged_73 : decode cX5_hedged 73 = .ok (.getfield 7, 3) := by decide +kernel
theorem dX5_hedged_76 : decode cX5_hedged 76 = .ok (.iconst 0, 1) := by decide +kernel
theorem dX5_hedged_77 : decode cX5_hedged 77 = .ok (.iaload, 1) := by decide +kernel
theorem dX5_hedged_78 : decode cX5_hedged 78 = .ok (.invokevirtual 213, 3) := by decide +kernel
theorem dX5_hedged_81 : decode cX5_hedged 81 = .ok (.ifCond .eq 8, 3) := by decide +kernel
theorem dX5_hedged_84 : decode cX5_hedged 84 = .ok (.iload 5, 2) := by decide +kernel
theorem dX5_hedged_86 : decode cX5_hedged 86 = .ok (.goto 5, 3) := by decide +kernel
theorem dX5_hedged_89 : decode cX5_hedged 89 = .ok (.iload 4, 2) := by decide +kernel
theorem dX5_hedged_91 : decode cX5_hedged 91 = .ok (.istore 4, 2) := by decide +kernel
theorem dX5_hedged_93 : decode cX5_hedged 93 = .ok (.iinc 5 1, 3) := by decide +kernel
theorem dX5_hedged_96 : decode cX5_hedged 96 = .ok (.goto (-67), 3) := by decide +kernel
theorem dX5_hedged_99 : decode cX5_hedged 99 = .ok (.aload_n 0, 1) := by decide +kernel
theorem dX5_hedged_100 : decode cX5_hedged 100 = .ok (.lload_n 2, 1) := by decide +kernel
theorem dX5_hedged_101 : decode cX5_hedged 101 = .ok (.putfield 137, 3) := by decide +kernel
theorem dX5_hedged_104 : decode cX5_hedged 104 = .ok (.iload 4, 2) := by decide +kernel
theorem dX5_hedged_106 : decode cX5_hedged 106 = .ok (.iconst (-1), 1) := by decide +kernel
theorem dX5_hedged_107 : decode cX5_hedged 107 = .ok (.if_icmp .ne 9, 3) := by decide +kernel
theorem dX5_hedged_110 : decode cX5_hedged 110 = .ok (.ldc2_w 233, 3) := by decide +kernel
theorem dX5_hedged_113 : decode cX5_hedged 113 = .ok (.goto 22, 3) := by decide +kernel
theorem dX5_hedged_116 : decode cX5_hedged 116 = .ok (.iload_n 1, 1) := by decide +kernel
theorem dX5_hedged_117 : decode cX5_hedged 117 = .ok (.ifCond .ne 12, 3) := by decide +kernel
theorem dX5_hedged_120 : decode cX5_hedged 120 = .ok (.iload 4, 2) := by decide +kernel
theorem dX5_hedged_122 : decode cX5_hedged 122 = .ok (.invokestatic 226, 3) := by decide +kernel
theorem dX5_hedged_125 : decode cX5_hedged 125 = .ok (.i2l, 1) := by decide +kernel
theorem dX5_hedged_126 : decode cX5_hedged 126 = .ok (.goto 9, 3) := by decide +kernel
theorem dX5_hedged_129 : decode cX5_hedged 129 = .ok (.aload_n 0, 1) := by decide +kernel
theorem dX5_hedged_130 : decode cX5_hedged 130 = .ok (.iload 4, 2) := by decide +kernel
theorem dX5_hedged_132 : decode cX5_hedged 132 = .ok (.invokevirtual 229, 3) := by decide +kernel
theorem dX5_hedged_135 : decode cX5_hedged 135 = .ok (.lreturn, 1) := by decide +kernel
theorem dX5_margin_0 : decode cX5_margin 0 = .ok (.sipush 1000, 3) := by decide +kernel
theorem dX5_margin_3 : decode cX5_margin 3 = .ok (.aload_n 0, 1) := by decide +kernel
theorem dX5_margin_4 : decode cX5_margin 4 = .ok (.aload_n 0, 1) := by decide +kernel
theorem dX5_margin_5 : decode cX5_margin 5 = .ok (.getfield 7, 3) := by decide +kernel
theorem dX5_margin_8 : decode cX5_margin 8 = .ok (.iconst 0, 1) := by decide +kernel
theorem dX5_margin_9 : decode cX5_margin 9 = .ok (.iaload, 1) := by decide +kernel
theorem dX5_margin_10 : decode cX5_margin 10 = .ok (.invokevirtual 183, 3) := by decide +kernel
theorem dX5_margin_13 : decode cX5_margin 13 = .ok (.iadd, 1) := by decide +kernel
theorem dX5_margin_14 : decode cX5_margin 14 = .ok (.ireturn, 1) := by decide +kernel
theorem dX5_price_0 : decode cX5_price 0 = .ok (.aload_n 0, 1) := by decide +kernel
theorem dX5_price_1 : decode cX5_price 1 = .ok (.iload_n 1, 1) := by decide +kernel
theorem dX5_price_2 : decode cX5_price 2 = .ok (.invokevirtual 189, 3) := by decide +kernel
theorem dX5_price_5 : decode cX5_price 5 = .ok (.ifCond .eq 37, 3) := by decide +kernel
theorem dX5_price_8 : decode cX5_price 8 = .ok (.aload_n 0, 1) := by decide +kernel
theorem dX5_price_9 : decode cX5_price 9 = .ok (.aload_n 0, 1) := by decide +kernel
theorem dX5_price_10 : decode cX5_price 10 = .ok (.getfield 7, 3) := by decide +kernel
theorem dX5_price_13 : decode cX5_price 13 = .ok (.iconst 0, 1) := by decide +kernel
theorem dX5_price_14 : decode cX5_price 14 = .ok (.iaload, 1) := by decide +kernel
theorem dX5_price_15 : decode cX5_price 15 = .ok (.iconst 1, 1) := by decide +kernel
theorem dX5_price_16 : decode cX5_price 16 = .ok (.iload_n 1, 1) := by decide +kernel
theorem dX5_price_17 : decode cX5_price 17 = .ok (.ishl, 1) := by decide +kernel
theorem dX5_price_18 : decode cX5_price 18 = .ok (.iconst (-1), 1) := by decide +kernel
theorem dX5_price_19 : decode cX5_price 19 = .ok (.ixor, 1) := by decide +kernel
theorem dX5_price_20 : decode cX5_price 20 = .ok (.iand, 1) := by decide +kernel
theorem dX5_price_21 : decode cX5_price 21 = .ok (.invokevirtual 183, 3) := by decide +kernel
theorem dX5_price_24 : decode cX5_price 24 = .ok (.aload_n 0, 1) := by decide +kernel
theorem dX5_price_25 : decode cX5_price 25 = .ok (.aload_n 0, 1) := by decide +kernel
theorem dX5_price_26 : decode cX5_price 26 = .ok (.getfield 7, 3) := by decide +kernel
theorem dX5_price_29 : decode cX5_price 29 = .ok (.iconst 0, 1) := by decide +kernel
theorem dX5_price_30 : decode cX5_price 30 = .ok (.iaload, 1) := by decide +kernel
theorem dX5_price_31 : decode cX5_price 31 = .ok (.iconst 1, 1) := by decide +kernel
theorem dX5_price_32 : decode cX5_price 32 = .ok (.iload_n 1, 1) := by decide +kernel
theorem dX5_price_33 : decode cX5_price 33 = .ok (.ishl, 1) := by decide +kernel
theorem dX5_price_34 : decode cX5_price 34 = .ok (.ior, 1) := by decide +kernel
theorem dX5_price_35 : decode cX5_price 35 = .ok (.invokevirtual 183, 3) := by decide +kernel
theorem dX5_price_38 : decode cX5_price 38 = .ok (.isub, 1) := by decide +kernel
theorem dX5_price_39 : decode cX5_price 39 = .ok (.goto 5, 3) := by decide +kernel
theorem dX5_price_42 : decode cX5_price 42 = .ok (.bipush (-2), 2) := by decide +kernel
theorem dX5_price_44 : decode cX5_price 44 = .ok (.ireturn, 1) := by decide +kernel
theorem dX5_way_0 : decode cX5_way 0 = .ok (.aload_n 0, 1) := by decide +kernel
theorem dX5_way_1 : decode cX5_way 1 = .ok (.iload_n 1, 1) := by decide +kernel
theorem dX5_way_2 : decode cX5_way 2 = .ok (.invokevirtual 186, 3) := by decide +kernel
theorem dX5_way_5 : decode cX5_way 5 = .ok (.ifCond .ne 6, 3) := by decide +kernel
theorem dX5_way_8 : decode cX5_way 8 = .ok (.bipush (-2), 2) := by decide +kernel
theorem dX5_way_10 : decode cX5_way 10 = .ok (.ireturn, 1) := by decide +kernel
theorem dX5_way_11 : decode cX5_way 11 = .ok (.aload_n 0, 1) := by decide +kernel
theorem dX5_way_12 : decode cX5_way 12 = .ok (.getfield 7, 3) := by decide +kernel
theorem dX5_way_15 : decode cX5_way 15 = .ok (.iconst 1, 1) := by decide +kernel
theorem dX5_way_16 : decode cX5_way 16 = .ok (.iaload, 1) := by decide +kernel
theorem dX5_way_17 : decode cX5_way 17 = .ok (.iconst (-1), 1) := by decide +kernel
theorem dX5_way_18 : decode cX5_way 18 = .ok (.if_icmp .ne 6, 3) := by decide +kernel
theorem dX5_way_21 : decode cX5_way 21 = .ok (.bipush (-4), 2) := by decide +kernel
theorem dX5_way_23 : decode cX5_way 23 = .ok (.ireturn, 1) := by decide +kernel
theorem dX5_way_24 : decode cX5_way 24 = .ok (.aload_n 0, 1) := by decide +kernel
theorem dX5_way_25 : decode cX5_way 25 = .ok (.aload_n 0, 1) := by decide +kernel
theorem dX5_way_26 : decode cX5_way 26 = .ok (.getfield 7, 3) := by decide +kernel
theorem dX5_way_29 : decode cX5_way 29 = .ok (.iconst 0, 1) := by decide +kernel
theorem dX5_way_30 : decode cX5_way 30 = .ok (.iaload, 1) := by decide +kernel
theorem dX5_way_31 : decode cX5_way 31 = .ok (.aload_n 0, 1) := by decide +kernel
theorem dX5_way_32 : decode cX5_way 32 = .ok (.getfield 7, 3) := by decide +kernel
theorem dX5_way_35 : decode cX5_way 35 = .ok (.iconst 1, 1) := by decide +kernel
theorem dX5_way_36 : decode cX5_way 36 = .ok (.iaload, 1) := by decide +kernel
theorem dX5_way_37 : decode cX5_way 37 = .ok (.aload_n 0, 1) := by decide +kernel
theorem dX5_way_38 : decode cX5_way 38 = .ok (.getfield 7, 3) := by decide +kernel
theorem dX5_way_41 : decode cX5_way 41 = .ok (.iconst 2, 1) := by decide +kernel
theorem dX5_way_42 : decode cX5_way 42 = .ok (.iaload, 1) := by decide +kernel
theorem dX5_way_43 : decode cX5_way 43 = .ok (.invokevirtual 199, 3) := by decide +kernel
theorem dX5_way_46 : decode cX5_way 46 = .ok (.ifCond .eq 14, 3) := by decide +kernel
theorem dX5_way_49 : decode cX5_way 49 = .ok (.lconst 1, 1) := by decide +kernel
theorem dX5_way_50 : decode cX5_way 50 = .ok (.aload_n 0, 1) := by decide +kernel
theorem dX5_way_51 : decode cX5_way 51 = .ok (.getfield 7, 3) := by decide +kernel
theorem dX5_way_54 : decode cX5_way 54 = .ok (.iconst 1, 1) := by decide +kernel
theorem dX5_way_55 : decode cX5_way 55 = .ok (.iaload, 1) := by decide +kernel
theorem dX5_way_56 : decode cX5_way 56 = .ok (.lshl, 1) := by decide +kernel
theorem dX5_way_57 : decode cX5_way 57 = .ok (.goto 4, 3) := by decide +kernel
theorem dX5_way_60 : decode cX5_way 60 = .ok (.lconst 0, 1) := by decide +kernel
theorem dX5_way_61 : decode cX5_way 61 = .ok (.lstore_n 2, 1) := by decide +kernel
theorem dX5_way_62 : decode cX5_way 62 = .ok (.iconst 0, 1) := by decide +kernel
theorem dX5_way_63 : decode cX5_way 63 = .ok (.istore 4, 2) := by decide +kernel
theorem dX5_way_65 : decode cX5_way 65 = .ok (.iload 4, 2) := by decide +kernel
theorem dX5_way_67 : decode cX5_way 67 = .ok (.bipush 100, 2) := by decide +kernel
theorem dX5_way_69 : decode cX5_way 69 = .ok (.if_icmp .ge 40, 3) := by decide +kernel
theorem dX5_way_72 : decode cX5_way 72 = .ok (.lload_n 2, 1) := by decide +kernel
theorem dX5_way_73 : decode cX5_way 73 = .ok (.iload_n 1, 1) := by decide +kernel
theorem dX5_way_74 : decode cX5_way 74 = .ok (.invokestatic 105, 3) := by decide +kernel
theorem dX5_way_77 : decode cX5_way 77 = .ok (.ifCond .eq 6, 3) := by decide +kernel
theorem dX5_way_80 : decode cX5_way 80 = .ok (.iload 4, 2) := by decide +kernel
theorem dX5_way_82 : decode cX5_way 82 = .ok (.ireturn, 1) := by decide +kernel
theorem dX5_way_83 : decode cX5_way 83 = .ok (.aload_n 0, 1) := by decide +kernel
theorem dX5_way_84 : decode cX5_way 84 = .ok (.lload_n 2, 1) := by decide +kernel
theorem dX5_way_85 : decode cX5_way 85 = .ok (.aload_n 0, 1) := by decide +kernel
theorem dX5_way_86 : decode cX5_way 86 = .ok (.getfield 7, 3) := by decide +kernel
theorem dX5_way_89 : decode cX5_way 89 = .ok (.iconst 2, 1) := by decide +kernel
theorem dX5_way_90 : decode cX5_way 90 = .ok (.iaload, 1) := by decide +kernel
theorem dX5_way_91 : decode cX5_way 91 = .ok (.iload 4, 2) := by decide +kernel
theorem dX5_way_93 : decode cX5_way 93 = .ok (.iadd, 1) := by decide +kernel
theorem dX5_way_94 : decode cX5_way 94 = .ok (.iconst 1, 1) := by decide +kernel
theorem dX5_way_95 : decode cX5_way 95 = .ok (.iadd, 1) := by decide +kernel
theorem dX5_way_96 : decode cX5_way 96 = .ok (.bipush 12, 2) := by decide +kernel
theorem dX5_way_98 : decode cX5_way 98 = .ok (.irem, 1) := by decide +kernel
theorem dX5_way_99 : decode cX5_way 99 = .ok (.invokevirtual 235, 3) := by decide +kernel
theorem dX5_way_102 : decode cX5_way 102 = .ok (.lstore_n 2, 1) := by decide +kernel
theorem dX5_way_103 : decode cX5_way 103 = .ok (.iinc 4 1, 3) := by decide +kernel
theorem dX5_way_106 : decode cX5_way 106 = .ok (.goto (-41), 3) := by decide +kernel
theorem dX5_way_109 : decode cX5_way 109 = .ok (.iconst (-1), 1) := by decide +kernel
theorem dX5_way_110 : decode cX5_way 110 = .ok (.ireturn, 1) := by decide +kernel
theorem dX5_nextOf_0 : decode cX5_nextOf 0 = .ok (.lconst 0, 1) := by decide +kernel
theorem dX5_nextOf_1 : decode cX5_nextOf 1 = .ok (.lstore 4, 2) := by decide +kernel
theorem dX5_nextOf_3 : decode cX5_nextOf 3 = .ok (.iconst 0, 1) := by decide +kernel
theorem dX5_nextOf_4 : decode cX5_nextOf 4 = .ok (.istore 6, 2) := by decide +kernel
theorem dX5_nextOf_6 : decode cX5_nextOf 6 = .ok (.iload 6, 2) := by decide +kernel
theorem dX5_nextOf_8 : decode cX5_nextOf 8 = .ok (.aload_n 0, 1) := by decide +kernel
theorem dX5_nextOf_9 : decode cX5_nextOf 9 = .ok (.getfield 23, 3) := by decide +kernel
theorem dX5_nextOf_12 : decode cX5_nextOf 12 = .ok (.aload_n 0, 1) := by decide +kernel
theorem dX5_nextOf_13 : decode cX5_nextOf 13 = .ok (.getfield 27, 3) := by decide +kernel
theorem dX5_nextOf_16 : decode cX5_nextOf 16 = .ok (.imul, 1) := by decide +kernel
theorem dX5_nextOf_17 : decode cX5_nextOf 17 = .ok (.if_icmp .ge 114, 3) := by decide +kernel
theorem dX5_nextOf_20 : decode cX5_nextOf 20 = .ok (.iconst 0, 1) := by decide +kernel
theorem dX5_nextOf_21 : decode cX5_nextOf 21 = .ok (.istore 7, 2) := by decide +kernel
theorem dX5_nextOf_23 : decode cX5_nextOf 23 = .ok (.iconst 0, 1) := by decide +kernel
theorem dX5_nextOf_24 : decode cX5_nextOf 24 = .ok (.istore 8, 2) := by decide +kernel
theorem dX5_nextOf_26 : decode cX5_nextOf 26 = .ok (.iload 8, 2) := by decide +kernel
theorem dX5_nextOf_28 : decode cX5_nextOf 28 = .ok (.aload_n 0, 1) := by decide +kernel
theorem dX5_nextOf_29 : decode cX5_nextOf 29 = .ok (.getfield 23, 3) := by decide +kernel
theorem dX5_nextOf_32 : decode cX5_nextOf 32 = .ok (.aload_n 0, 1) := by decide +kernel
theorem dX5_nextOf_33 : decode cX5_nextOf 33 = .ok (.getfield 27, 3) := by decide +kernel
theorem dX5_nextOf_36 : decode cX5_nextOf 36 = .ok (.imul, 1) := by decide +kernel
theorem dX5_nextOf_37 : decode cX5_nextOf 37 = .ok (.if_icmp .ge 42, 3) := by decide +kernel
theorem dX5_nextOf_40 : decode cX5_nextOf 40 = .ok (.iload 7, 2) := by decide +kernel
theorem dX5_nextOf_42 : decode cX5_nextOf 42 = .ok (.ifCond .ne 24, 3) := by decide +kernel
theorem dX5_nextOf_45 : decode cX5_nextOf 45 = .ok (.lload_n 1, 1) := by decide +kernel
theorem dX5_nextOf_46 : decode cX5_nextOf 46 = .ok (.iload 8, 2) := by decide +kernel
theorem dX5_nextOf_48 : decode cX5_nextOf 48 = .ok (.invokestatic 105, 3) := by decide +kernel
theorem dX5_nextOf_51 : decode cX5_nextOf 51 = .ok (.ifCond .eq 19, 3) := by decide +kernel
theorem dX5_nextOf_54 : decode cX5_nextOf 54 = .ok (.aload_n 0, 1) := by decide +kernel
theorem dX5_nextOf_55 : decode cX5_nextOf 55 = .ok (.iload 6, 2) := by decide +kernel
theorem dX5_nextOf_57 : decode cX5_nextOf 57 = .ok (.iload 8, 2) := by decide +kernel
theorem dX5_nextOf_59 : decode cX5_nextOf 59 = .ok (.invokevirtual 166, 3) := by decide +kernel
theorem dX5_nextOf_62 : decode cX5_nextOf 62 = .ok (.iconst 2, 1) := by decide +kernel
theorem dX5_nextOf_63 : decode cX5_nextOf 63 = .ok (.if_icmp .ge 7, 3) := by decide +kernel
theorem dX5_nextOf_66 : decode cX5_nextOf 66 = .ok (.iconst 1, 1) := by decide +kernel
theorem dX5_nextOf_67 : decode cX5_nextOf 67 = .ok (.goto 4, 3) := by decide +kernel
theorem dX5_nextOf_70 : decode cX5_nextOf 70 = .ok (.iconst 0, 1) := by decide +kernel
theorem dX5_nextOf_71 : decode cX5_nextOf 71 = .ok (.istore 7, 2) := by decide +kernel
theorem dX5_nextOf_73 : decode cX5_nextOf 73 = .ok (.iinc 8 1, 3) := by decide +kernel
theorem dX5_nextOf_76 : decode cX5_nextOf 76 = .ok (.goto (-50), 3) := by decide +kernel
theorem dX5_nextOf_79 : decode cX5_nextOf 79 = .ok (.lload 4, 2) := by decide +kernel
theorem dX5_nextOf_81 : decode cX5_nextOf 81 = .ok (.iload 7, 2) := by decide +kernel
theorem dX5_nextOf_83 : decode cX5_nextOf 83 = .ok (.ifCond .eq 38, 3) := by decide +kernel
theorem dX5_nextOf_86 : decode cX5_nextOf 86 = .ok (.aload_n 0, 1) := by decide +kernel
theorem dX5_nextOf_87 : decode cX5_nextOf 87 = .ok (.getfield 146, 3) := by decide +kernel
theorem dX5_nextOf_90 : decode cX5_nextOf 90 = .ok (.iload 6, 2) := by decide +kernel
theorem dX5_nextOf_92 : decode cX5_nextOf 92 = .ok (.invokestatic 105, 3) := by decide +kernel
theorem dX5_nextOf_95 : decode cX5_nextOf 95 = .ok (.ifCond .eq 26, 3) := by decide +kernel
theorem dX5_nextOf_98 : decode cX5_nextOf 98 = .ok (.aload_n 0, 1) := by decide +kernel
theorem dX5_nextOf_99 : decode cX5_nextOf 99 = .ok (.aload_n 0, 1) := by decide +kernel
theorem dX5_nextOf_100 : decode cX5_nextOf 100 = .ok (.getfield 7, 3) := by decide +kernel
theorem dX5_nextOf_103 : decode cX5_nextOf 103 = .ok (.iconst 0, 1) := by decide +kernel
theorem dX5_nextOf_104 : decode cX5_nextOf 104 = .ok (.iaload, 1) := by decide +kernel
theorem dX5_nextOf_105 : decode cX5_nextOf 105 = .ok (.iload 6, 2) := by decide +kernel
theorem dX5_nextOf_107 : decode cX5_nextOf 107 = .ok (.iload_n 3, 1) := by decide +kernel
theorem dX5_nextOf_108 : decode cX5_nextOf 108 = .ok (.invokevirtual 199, 3) := by decide +kernel
theorem dX5_nextOf_111 : decode cX5_nextOf 111 = .ok (.ifCond .eq 10, 3) := by decide +kernel
theorem dX5_nextOf_114 : decode cX5_nextOf 114 = .ok (.lconst 1, 1) := by decide +kernel
theorem dX5_nextOf_115 : decode cX5_nextOf 115 = .ok (.iload 6, 2) := by decide +kernel
theorem dX5_nextOf_117 : decode cX5_nextOf 117 = .ok (.lshl, 1) := by decide +kernel
theorem dX5_nextOf_118 : decode cX5_nextOf 118 = .ok (.goto 4, 3) := by decide +kernel
theorem dX5_nextOf_121 : decode cX5_nextOf 121 = .ok (.lconst 0, 1) := by decide +kernel
theorem dX5_nextOf_122 : decode cX5_nextOf 122 = .ok (.lor, 1) := by decide +kernel
theorem dX5_nextOf_123 : decode cX5_nextOf 123 = .ok (.lstore 4, 2) := by decide +kernel
theorem dX5_nextOf_125 : decode cX5_nextOf 125 = .ok (.iinc 6 1, 3) := by decide +kernel
theorem dX5_nextOf_128 : decode cX5_nextOf 128 = .ok (.goto (-122), 3) := by decide +kernel
theorem dX5_nextOf_131 : decode cX5_nextOf 131 = .ok (.lload 4, 2) := by decide +kernel
theorem dX5_nextOf_133 : decode cX5_nextOf 133 = .ok (.lreturn, 1) := by decide +kernel
theorem dX5_wind_0 : decode cX5_wind 0 = .ok (.aload_n 0, 1) := by decide +kernel
theorem dX5_wind_1 : decode cX5_wind 1 = .ok (.iload_n 1, 1) := by decide +kernel
theorem dX5_wind_2 : decode cX5_wind 2 = .ok (.invokevirtual 186, 3) := by decide +kernel
theorem dX5_wind_5 : decode cX5_wind 5 = .ok (.ifCond .ne 6, 3) := by decide +kernel
theorem dX5_wind_8 : decode cX5_wind 8 = .ok (.bipush (-2), 2) := by decide +kernel
theorem dX5_wind_10 : decode cX5_wind 10 = .ok (.ireturn, 1) := by decide +kernel
theorem dX5_wind_11 : decode cX5_wind 11 = .ok (.iload_n 2, 1) := by decide +kernel
theorem dX5_wind_12 : decode cX5_wind 12 = .ok (.invokestatic 196, 3) := by decide +kernel
theorem dX5_wind_15 : decode cX5_wind 15 = .ok (.ifCond .eq 26, 3) := by decide +kernel
theorem dX5_wind_18 : decode cX5_wind 18 = .ok (.iload_n 3, 1) := by decide +kernel
theorem dX5_wind_19 : decode cX5_wind 19 = .ok (.i2l, 1) := by decide +kernel
theorem dX5_wind_20 : decode cX5_wind 20 = .ok (.lconst 0, 1) := by decide +kernel
theorem dX5_wind_21 : decode cX5_wind 21 = .ok (.ldc2_w 239, 3) := by decide +kernel
theorem dX5_wind_24 : decode cX5_wind 24 = .ok (.invokestatic 47, 3) := by decide +kernel
theorem dX5_wind_27 : decode cX5_wind 27 = .ok (.ifCond .eq 14, 3) := by decide +kernel
theorem dX5_wind_30 : decode cX5_wind 30 = .ok (.iload 4, 2) := by decide +kernel
theorem dX5_wind_32 : decode cX5_wind 32 = .ok (.i2l, 1) := by decide +kernel
theorem dX5_wind_33 : decode cX5_wind 33 = .ok (.lconst 0, 1) := by decide +kernel
theorem dX5_wind_34 : decode cX5_wind 34 = .ok (.lconst 1, 1) := by decide +kernel
theorem dX5_wind_35 : decode cX5_wind 35 = .ok (.invokestatic 47, 3) := by decide +kernel
theorem dX5_wind_38 : decode cX5_wind 38 = .ok (.ifCond .ne 6, 3) := by decide +kernel
theorem dX5_wind_41 : decode cX5_wind 41 = .ok (.bipush (-3), 2) := by decide +kernel
theorem dX5_wind_43 : decode cX5_wind 43 = .ok (.ireturn, 1) := by decide +kernel
theorem dX5_wind_44 : decode cX5_wind 44 = .ok (.iconst 0, 1) := by decide +kernel
theorem dX5_wind_45 : decode cX5_wind 45 = .ok (.istore 5, 2) := by decide +kernel
theorem dX5_wind_47 : decode cX5_wind 47 = .ok (.iconst 1, 1) := by decide +kernel
theorem dX5_wind_48 : decode cX5_wind 48 = .ok (.istore 6, 2) := by decide +kernel
theorem dX5_wind_50 : decode cX5_wind 50 = .ok (.iconst 0, 1) := by decide +kernel
theorem dX5_wind_51 : decode cX5_wind 51 = .ok (.istore 7, 2) := by decide +kernel
theorem dX5_wind_53 : decode cX5_wind 53 = .ok (.iload 7, 2) := by decide +kernel
theorem dX5_wind_55 : decode cX5_wind 55 = .ok (.aload_n 0, 1) := by decide +kernel
theorem dX5_wind_56 : decode cX5_wind 56 = .ok (.getfield 134, 3) := by decide +kernel
theorem dX5_wind_59 : decode cX5_wind 59 = .ok (.if_icmp .ge 35, 3) := by decide +kernel
theorem dX5_wind_62 : decode cX5_wind 62 = .ok (.iload 6, 2) := by decide +kernel
theorem dX5_wind_64 : decode cX5_wind 64 = .ok (.aload_n 0, 1) := by decide +kernel
theorem dX5_wind_65 : decode cX5_wind 65 = .ok (.getfield 7, 3) := by decide +kernel
theorem dX5_wind_68 : decode cX5_wind 68 = .ok (.iconst 0, 1) := by decide +kernel
theorem dX5_wind_69 : decode cX5_wind 69 = .ok (.iaload, 1) := by decide +kernel
theorem dX5_wind_70 : decode cX5_wind 70 = .ok (.i2l, 1) := by decide +kernel
theorem dX5_wind_71 : decode cX5_wind 71 = .ok (.iload 7, 2) := by decide +kernel
theorem dX5_wind_73 : decode cX5_wind 73 = .ok (.invokestatic 105, 3) := by decide +kernel
theorem dX5_wind_76 : decode cX5_wind 76 = .ok (.ifCond .eq 8, 3) := by decide +kernel
theorem dX5_wind_79 : decode cX5_wind 79 = .ok (.bipush 10, 2) := by decide +kernel
theorem dX5_wind_81 : decode cX5_wind 81 = .ok (.goto 4, 3) := by decide +kernel
theorem dX5_wind_84 : decode cX5_wind 84 = .ok (.iconst 1, 1) := by decide +kernel
theorem dX5_wind_85 : decode cX5_wind 85 = .ok (.imul, 1) := by decide +kernel
theorem dX5_wind_86 : decode cX5_wind 86 = .ok (.istore 6, 2) := by decide +kernel
theorem dX5_wind_88 : decode cX5_wind 88 = .ok (.iinc 7 1, 3) := by decide +kernel
theorem dX5_wind_91 : decode cX5_wind 91 = .ok (.goto (-38), 3) := by decide +kernel
theorem dX5_wind_94 : decode cX5_wind 94 = .ok (.iconst 0, 1) := by decide +kernel
theorem dX5_wind_95 : decode cX5_wind 95 = .ok (.istore 7, 2) := by decide +kernel
theorem dX5_wind_97 : decode cX5_wind 97 = .ok (.iload 7, 2) := by decide +kernel
theorem dX5_wind_99 : decode cX5_wind 99 = .ok (.iconst 1, 1) := by decide +kernel
theorem dX5_wind_100 : decode cX5_wind 100 = .ok (.aload_n 0, 1) := by decide +kernel
theorem dX5_wind_101 : decode cX5_wind 101 = .ok (.getfield 134, 3) := by decide +kernel
theorem dX5_wind_104 : decode cX5_wind 104 = .ok (.ishl, 1) := by decide +kernel
theorem dX5_wind_105 : decode cX5_wind 105 = .ok (.if_icmp .ge 131, 3) := by decide +kernel
theorem dX5_wind_108 : decode cX5_wind 108 = .ok (.iload 7, 2) := by decide +kernel
theorem dX5_wind_110 : decode cX5_wind 110 = .ok (.aload_n 0, 1) := by decide +kernel
theorem dX5_wind_111 : decode cX5_wind 111 = .ok (.getfield 7, 3) := by decide +kernel
theorem dX5_wind_114 : decode cX5_wind 114 = .ok (.iconst 0, 1) := by decide +kernel
theorem dX5_wind_115 : decode cX5_wind 115 = .ok (.iaload, 1) := by decide +kernel
theorem dX5_wind_116 : decode cX5_wind 116 = .ok (.iconst (-1), 1) := by decide +kernel
theorem dX5_wind_117 : decode cX5_wind 117 = .ok (.ixor, 1) := by decide +kernel
theorem dX5_wind_118 : decode cX5_wind 118 = .ok (.iand, 1) := by decide +kernel
theorem dX5_wind_119 : decode cX5_wind 119 = .ok (.ifCond .ne 7, 3) := by decide +kernel
theorem dX5_wind_122 : decode cX5_wind 122 = .ok (.iconst 1, 1) := by decide +kernel
theorem dX5_wind_123 : decode cX5_wind 123 = .ok (.goto 4, 3) := by decide +kernel
theorem dX5_wind_126 : decode cX5_wind 126 = .ok (.iconst 0, 1) := by decide +kernel
theorem dX5_wind_127 : decode cX5_wind 127 = .ok (.istore 8, 2) := by decide +kernel
theorem dX5_wind_129 : decode cX5_wind 129 = .ok (.iconst 0, 1) := by decide +kernel
theorem dX5_wind_130 : decode cX5_wind 130 = .ok (.istore 9, 2) := by decide +kernel
theorem dX5_wind_132 : decode cX5_wind 132 = .ok (.iload 9, 2) := by decide +kernel
theorem dX5_wind_134 : decode cX5_wind 134 = .ok (.aload_n 0, 1) := by decide +kernel
theorem dX5_wind_135 : decode cX5_wind 135 = .ok (.getfield 134, 3) := by decide +kernel
theorem dX5_wind_138 : decode cX5_wind 138 = .ok (.if_icmp .ge 52, 3) := by decide +kernel
theorem dX5_wind_141 : decode cX5_wind 141 = .ok (.iload 8, 2) := by decide +kernel
theorem dX5_wind_143 : decode cX5_wind 143 = .ok (.aload_n 0, 1) := by decide +kernel
theorem dX5_wind_144 : decode cX5_wind 144 = .ok (.getfield 7, 3) := by decide +kernel
theorem dX5_wind_147 : decode cX5_wind 147 = .ok (.iconst 0, 1) := by decide +kernel
theorem dX5_wind_148 : decode cX5_wind 148 = .ok (.iaload, 1) := by decide +kernel
theorem dX5_wind_149 : decode cX5_wind 149 = .ok (.i2l, 1) := by decide +kernel
theorem dX5_wind_150 : decode cX5_wind 150 = .ok (.iload 9, 2) := by decide +kernel
theorem dX5_wind_152 : decode cX5_wind 152 = .ok (.invokestatic 105, 3) := by decide +kernel
theorem dX5_wind_155 : decode cX5_wind 155 = .ok (.ifCond .ne 7, 3) := by decide +kernel
theorem dX5_wind_158 : decode cX5_wind 158 = .ok (.iconst 1, 1) := by decide +kernel
theorem dX5_wind_159 : decode cX5_wind 159 = .ok (.goto 22, 3) := by decide +kernel
theorem dX5_wind_162 : decode cX5_wind 162 = .ok (.iload 7, 2) := by decide +kernel
theorem dX5_wind_164 : decode cX5_wind 164 = .ok (.i2l, 1) := by decide +kernel
theorem dX5_wind_165 : decode cX5_wind 165 = .ok (.iload 9, 2) := by decide +kernel
theorem dX5_wind_167 : decode cX5_wind 167 = .ok (.invokestatic 105, 3) := by decide +kernel
theorem dX5_wind_170 : decode cX5_wind 170 = .ok (.ifCond .eq 7, 3) := by decide +kernel
theorem dX5_wind_173 : decode cX5_wind 173 = .ok (.iload_n 3, 1) := by decide +kernel
theorem dX5_wind_174 : decode cX5_wind 174 = .ok (.goto 7, 3) := by decide +kernel
theorem dX5_wind_177 : decode cX5_wind 177 = .ok (.bipush 10, 2) := by decide +kernel
theorem dX5_wind_179 : decode cX5_wind 179 = .ok (.iload_n 3, 1) := by decide +kernel
theorem dX5_wind_180 : decode cX5_wind 180 = .ok (.isub, 1) := by decide +kernel
theorem dX5_wind_181 : decode cX5_wind 181 = .ok (.imul, 1) := by decide +kernel
theorem dX5_wind_182 : decode cX5_wind 182 = .ok (.istore 8, 2) := by decide +kernel
theorem dX5_wind_184 : decode cX5_wind 184 = .ok (.iinc 9 1, 3) := by decide +kernel
theorem dX5_wind_187 : decode cX5_wind 187 = .ok (.goto (-55), 3) := by decide +kernel
theorem dX5_wind_190 : decode cX5_wind 190 = .ok (.iload 5, 2) := by decide +kernel
theorem dX5_wind_192 : decode cX5_wind 192 = .ok (.aload_n 0, 1) := by decide +kernel
theorem dX5_wind_193 : decode cX5_wind 193 = .ok (.iload_n 1, 1) := by decide +kernel
theorem dX5_wind_194 : decode cX5_wind 194 = .ok (.invokevirtual 177, 3) := by decide +kernel
theorem dX5_wind_197 : decode cX5_wind 197 = .ok (.aload_n 0, 1) := by decide +kernel
theorem dX5_wind_198 : decode cX5_wind 198 = .ok (.aload_n 0, 1) := by decide +kernel
theorem dX5_wind_199 : decode cX5_wind 199 = .ok (.getfield 7, 3) := by decide +kernel
theorem dX5_wind_202 : decode cX5_wind 202 = .ok (.iconst 0, 1) := by decide +kernel
theorem dX5_wind_203 : decode cX5_wind 203 = .ok (.iaload, 1) := by decide +kernel
theorem dX5_wind_204 : decode cX5_wind 204 = .ok (.iload_n 1, 1) := by decide +kernel
theorem dX5_wind_205 : decode cX5_wind 205 = .ok (.iload_n 2, 1) := by decide +kernel
theorem dX5_wind_206 : decode cX5_wind 206 = .ok (.invokevirtual 180, 3) := by decide +kernel
theorem dX5_wind_209 : decode cX5_wind 209 = .ok (.aload_n 0, 1) := by decide +kernel
theorem dX5_wind_210 : decode cX5_wind 210 = .ok (.iload 7, 2) := by decide +kernel
theorem dX5_wind_212 : decode cX5_wind 212 = .ok (.iload_n 1, 1) := by decide +kernel
theorem dX5_wind_213 : decode cX5_wind 213 = .ok (.iload_n 2, 1) := by decide +kernel
theorem dX5_wind_214 : decode cX5_wind 214 = .ok (.invokevirtual 180, 3) := by decide +kernel
theorem dX5_wind_217 : decode cX5_wind 217 = .ok (.iadd, 1) := by decide +kernel
theorem dX5_wind_218 : decode cX5_wind 218 = .ok (.if_icmp .le 8, 3) := by decide +kernel
theorem dX5_wind_221 : decode cX5_wind 221 = .ok (.iload 8, 2) := by decide +kernel
theorem dX5_wind_223 : decode cX5_wind 223 = .ok (.goto 4, 3) := by decide +kernel
theorem dX5_wind_226 : decode cX5_wind 226 = .ok (.iconst 0, 1) := by decide +kernel
theorem dX5_wind_227 : decode cX5_wind 227 = .ok (.iadd, 1) := by decide +kernel
theorem dX5_wind_228 : decode cX5_wind 228 = .ok (.istore 5, 2) := by decide +kernel
theorem dX5_wind_230 : decode cX5_wind 230 = .ok (.iinc 7 1, 3) := by decide +kernel
theorem dX5_wind_233 : decode cX5_wind 233 = .ok (.goto (-136), 3) := by decide +kernel
theorem dX5_wind_236 : decode cX5_wind 236 = .ok (.iload 5, 2) := by decide +kernel
theorem dX5_wind_238 : decode cX5_wind 238 = .ok (.istore 7, 2) := by decide +kernel
theorem dX5_wind_240 : decode cX5_wind 240 = .ok (.iload 6, 2) := by decide +kernel
theorem dX5_wind_242 : decode cX5_wind 242 = .ok (.istore 8, 2) := by decide +kernel
theorem dX5_wind_244 : decode cX5_wind 244 = .ok (.iload 8, 2) := by decide +kernel
theorem dX5_wind_246 : decode cX5_wind 246 = .ok (.ifCond .eq 21, 3) := by decide +kernel
theorem dX5_wind_249 : decode cX5_wind 249 = .ok (.iload 7, 2) := by decide +kernel
theorem dX5_wind_251 : decode cX5_wind 251 = .ok (.iload 8, 2) := by decide +kernel
theorem dX5_wind_253 : decode cX5_wind 253 = .ok (.irem, 1) := by decide +kernel
theorem dX5_wind_254 : decode cX5_wind 254 = .ok (.istore 9, 2) := by decide +kernel
theorem dX5_wind_256 : decode cX5_wind 256 = .ok (.iload 8, 2) := by decide +kernel
theorem dX5_wind_258 : decode cX5_wind 258 = .ok (.istore 7, 2) := by decide +kernel
theorem dX5_wind_260 : decode cX5_wind 260 = .ok (.iload 9, 2) := by decide +kernel
theorem dX5_wind_262 : decode cX5_wind 262 = .ok (.istore 8, 2) := by decide +kernel
theorem dX5_wind_264 : decode cX5_wind 264 = .ok (.goto (-20), 3) := by decide +kernel
theorem dX5_wind_267 : decode cX5_wind 267 = .ok (.iload 4, 2) := by decide +kernel
theorem dX5_wind_269 : decode cX5_wind 269 = .ok (.ifCond .ne 11, 3) := by decide +kernel
theorem dX5_wind_272 : decode cX5_wind 272 = .ok (.iload 5, 2) := by decide +kernel
theorem dX5_wind_274 : decode cX5_wind 274 = .ok (.iload 7, 2) := by decide +kernel
theorem dX5_wind_276 : decode cX5_wind 276 = .ok (.idiv, 1) := by decide +kernel
theorem dX5_wind_277 : decode cX5_wind 277 = .ok (.goto 8, 3) := by decide +kernel
theorem dX5_wind_280 : decode cX5_wind 280 = .ok (.iload 6, 2) := by decide +kernel
theorem dX5_wind_282 : decode cX5_wind 282 = .ok (.iload 7, 2) := by decide +kernel
theorem dX5_wind_284 : decode cX5_wind 284 = .ok (.idiv, 1) := by decide +kernel
theorem dX5_wind_285 : decode cX5_wind 285 = .ok (.ireturn, 1) := by decide +kernel
theorem dX5_seen_0 : decode cX5_seen 0 = .ok (.aload_n 0, 1) := by decide +kernel
theorem dX5_seen_1 : decode cX5_seen 1 = .ok (.iload_n 1, 1) := by decide +kernel
theorem dX5_seen_2 : decode cX5_seen 2 = .ok (.invokevirtual 186, 3) := by decide +kernel
theorem dX5_seen_5 : decode cX5_seen 5 = .ok (.ifCond .ne 6, 3) := by decide +kernel
theorem dX5_seen_8 : decode cX5_seen 8 = .ok (.bipush (-2), 2) := by decide +kernel
theorem dX5_seen_10 : decode cX5_seen 10 = .ok (.ireturn, 1) := by decide +kernel
theorem dX5_seen_11 : decode cX5_seen 11 = .ok (.iload_n 2, 1) := by decide +kernel
theorem dX5_seen_12 : decode cX5_seen 12 = .ok (.invokestatic 196, 3) := by decide +kernel
theorem dX5_seen_15 : decode cX5_seen 15 = .ok (.ifCond .eq 13, 3) := by decide +kernel
theorem dX5_seen_18 : decode cX5_seen 18 = .ok (.iload_n 3, 1) := by decide +kernel
theorem dX5_seen_19 : decode cX5_seen 19 = .ok (.i2l, 1) := by decide +kernel
theorem dX5_seen_20 : decode cX5_seen 20 = .ok (.lconst 0, 1) := by decide +kernel
theorem dX5_seen_21 : decode cX5_seen 21 = .ok (.lconst 1, 1) := by decide +kernel
theorem dX5_seen_22 : decode cX5_seen 22 = .ok (.invokestatic 47, 3) := by decide +kernel
theorem dX5_seen_25 : decode cX5_seen 25 = .ok (.ifCond .ne 6, 3) := by decide +kernel
theorem dX5_seen_28 : decode cX5_seen 28 = .ok (.bipush (-3), 2) := by decide +kernel
theorem dX5_seen_30 : decode cX5_seen 30 = .ok (.ireturn, 1) := by decide +kernel
theorem dX5_seen_31 : decode cX5_seen 31 = .ok (.aload_n 0, 1) := by decide +kernel
theorem dX5_seen_32 : decode cX5_seen 32 = .ok (.getfield 163, 3) := by decide +kernel
theorem dX5_seen_35 : decode cX5_seen 35 = .ok (.bipush 8, 2) := by decide +kernel
theorem dX5_seen_37 : decode cX5_seen 37 = .ok (.if_icmp .ne 6, 3) := by decide +kernel
theorem dX5_seen_40 : decode cX5_seen 40 = .ok (.bipush (-5), 2) := by decide +kernel
theorem dX5_seen_42 : decode cX5_seen 42 = .ok (.ireturn, 1) := by decide +kernel
theorem dX5_seen_43 : decode cX5_seen 43 = .ok (.aload_n 0, 1) := by decide +kernel
theorem dX5_seen_44 : decode cX5_seen 44 = .ok (.getfield 42, 3) := by decide +kernel
theorem dX5_seen_47 : decode cX5_seen 47 = .ok (.iconst 3, 1) := by decide +kernel
theorem dX5_seen_48 : decode cX5_seen 48 = .ok (.aload_n 0, 1) := by decide +kernel
theorem dX5_seen_49 : decode cX5_seen 49 = .ok (.getfield 163, 3) := by decide +kernel
theorem dX5_seen_52 : decode cX5_seen 52 = .ok (.imul, 1) := by decide +kernel
theorem dX5_seen_53 : decode cX5_seen 53 = .ok (.iload_n 1, 1) := by decide +kernel
theorem dX5_seen_54 : decode cX5_seen 54 = .ok (.iastore, 1) := by decide +kernel
theorem dX5_seen_55 : decode cX5_seen 55 = .ok (.aload_n 0, 1) := by decide +kernel
theorem dX5_seen_56 : decode cX5_seen 56 = .ok (.getfield 42, 3) := by decide +kernel
theorem dX5_seen_59 : decode cX5_seen 59 = .ok (.iconst 3, 1) := by decide +kernel
theorem dX5_seen_60 : decode cX5_seen 60 = .ok (.aload_n 0, 1) := by decide +kernel
theorem dX5_seen_61 : decode cX5_seen 61 = .ok (.getfield 163, 3) := by decide +kernel
theorem dX5_seen_64 : decode cX5_seen 64 = .ok (.imul, 1) := by decide +kernel
theorem dX5_seen_65 : decode cX5_seen 65 = .ok (.iconst 1, 1) := by decide +kernel
theorem dX5_seen_66 : decode cX5_seen 66 = .ok (.iadd, 1) := by decide +kernel
theorem dX5_seen_67 : decode cX5_seen 67 = .ok (.iload_n 2, 1) := by decide +kernel
theorem dX5_seen_68 : decode cX5_seen 68 = .ok (.iastore, 1) := by decide +kernel
theorem dX5_seen_69 : decode cX5_seen 69 = .ok (.aload_n 0, 1) := by decide +kernel
theorem dX5_seen_70 : decode cX5_seen 70 = .ok (.getfield 42, 3) := by decide +kernel
theorem dX5_seen_73 : decode cX5_seen 73 = .ok (.iconst 3, 1) := by decide +kernel
theorem dX5_seen_74 : decode cX5_seen 74 = .ok (.aload_n 0, 1) := by decide +kernel
theorem dX5_seen_75 : decode cX5_seen 75 = .ok (.getfield 163, 3) := by decide +kernel
theorem dX5_seen_78 : decode cX5_seen 78 = .ok (.imul, 1) := by decide +kernel
theorem dX5_seen_79 : decode cX5_seen 79 = .ok (.iconst 2, 1) := by decide +kernel
theorem dX5_seen_80 : decode cX5_seen 80 = .ok (.iadd, 1) := by decide +kernel
theorem dX5_seen_81 : decode cX5_seen 81 = .ok (.iload_n 3, 1) := by decide +kernel
theorem dX5_seen_82 : decode cX5_seen 82 = .ok (.iastore, 1) := by decide +kernel
theorem dX5_seen_83 : decode cX5_seen 83 = .ok (.aload_n 0, 1) := by decide +kernel
theorem dX5_seen_84 : decode cX5_seen 84 = .ok (.dup, 1) := by decide +kernel
theorem dX5_seen_85 : decode cX5_seen 85 = .ok (.getfield 163, 3) := by decide +kernel
theorem dX5_seen_88 : decode cX5_seen 88 = .ok (.iconst 1, 1) := by decide +kernel
theorem dX5_seen_89 : decode cX5_seen 89 = .ok (.iadd, 1) := by decide +kernel
theorem dX5_seen_90 : decode cX5_seen 90 = .ok (.putfield 163, 3) := by decide +kernel
theorem dX5_seen_93 : decode cX5_seen 93 = .ok (.aload_n 0, 1) := by decide +kernel
theorem dX5_seen_94 : decode cX5_seen 94 = .ok (.getfield 163, 3) := by decide +kernel
theorem dX5_seen_97 : decode cX5_seen 97 = .ok (.ireturn, 1) := by decide +kernel
theorem dX5_forget_0 : decode cX5_forget 0 = .ok (.aload_n 0, 1) := by decide +kernel
theorem dX5_forget_1 : decode cX5_forget 1 = .ok (.getfield 163, 3) := by decide +kernel
theorem dX5_forget_4 : decode cX5_forget 4 = .ok (.istore_n 1, 1) := by decide +kernel
theorem dX5_forget_5 : decode cX5_forget 5 = .ok (.aload_n 0, 1) := by decide +kernel
theorem dX5_forget_6 : decode cX5_forget 6 = .ok (.iconst 0, 1) := by decide +kernel
theorem dX5_forget_7 : decode cX5_forget 7 = .ok (.putfield 163, 3) := by decide +kernel
theorem dX5_forget_10 : decode cX5_forget 10 = .ok (.iload_n 1, 1) := by decide +kernel
theorem dX5_forget_11 : decode cX5_forget 11 = .ok (.ireturn, 1) := by decide +kernel
theorem dX5_isSoBy_0 : decode cX5_isSoBy 0 = .ok (.iconst 1, 1) := by decide +kernel
theorem dX5_isSoBy_1 : decode cX5_isSoBy 1 = .ok (.istore_n 2, 1) := by decide +kernel
theorem dX5_isSoBy_2 : decode cX5_isSoBy 2 = .ok (.iconst 0, 1) := by decide +kernel
theorem dX5_isSoBy_3 : decode cX5_isSoBy 3 = .ok (.istore_n 3, 1) := by decide +kernel
theorem dX5_isSoBy_4 : decode cX5_isSoBy 4 = .ok (.iload_n 3, 1) := by decide +kernel
theorem dX5_isSoBy_5 : decode cX5_isSoBy 5 = .ok (.aload_n 0, 1) := by decide +kernel
theorem dX5_isSoBy_6 : decode cX5_isSoBy 6 = .ok (.getfield 163, 3) := by decide +kernel
theorem dX5_isSoBy_9 : decode cX5_isSoBy 9 = .ok (.if_icmp .ge 64, 3) := by decide +kernel
theorem dX5_isSoBy_12 : decode cX5_isSoBy 12 = .ok (.iload_n 2, 1) := by decide +kernel
theorem dX5_isSoBy_13 : decode cX5_isSoBy 13 = .ok (.ifCond .eq 52, 3) := by decide +kernel
theorem dX5_isSoBy_16 : decode cX5_isSoBy 16 = .ok (.aload_n 0, 1) := by decide +kernel
theorem dX5_isSoBy_17 : decode cX5_isSoBy 17 = .ok (.iload_n 1, 1) := by decide +kernel
theorem dX5_isSoBy_18 : decode cX5_isSoBy 18 = .ok (.aload_n 0, 1) := by decide +kernel
theorem dX5_isSoBy_19 : decode cX5_isSoBy 19 = .ok (.getfield 42, 3) := by decide +kernel
theorem dX5_isSoBy_22 : decode cX5_isSoBy 22 = .ok (.iconst 3, 1) := by decide +kernel
theorem dX5_isSoBy_23 : decode cX5_isSoBy 23 = .ok (.iload_n 3, 1) := by decide +kernel
theorem dX5_isSoBy_24 : decode cX5_isSoBy 24 = .ok (.imul, 1) := by decide +kernel
theorem dX5_isSoBy_25 : decode cX5_isSoBy 25 = .ok (.iaload, 1) := by decide +kernel
theorem dX5_isSoBy_26 : decode cX5_isSoBy 26 = .ok (.aload_n 0, 1) := by decide +kernel
theorem dX5_isSoBy_27 : decode cX5_isSoBy 27 = .ok (.getfield 42, 3) := by decide +kernel
theorem dX5_isSoBy_30 : decode cX5_isSoBy 30 = .ok (.iconst 3, 1) := by decide +kernel
theorem dX5_isSoBy_31 : decode cX5_isSoBy 31 = .ok (.iload_n 3, 1) := by decide +kernel
theorem dX5_isSoBy_32 : decode cX5_isSoBy 32 = .ok (.imul, 1) := by decide +kernel
theorem dX5_isSoBy_33 : decode cX5_isSoBy 33 = .ok (.iconst 1, 1) := by decide +kernel
theorem dX5_isSoBy_34 : decode cX5_isSoBy 34 = .ok (.iadd, 1) := by decide +kernel
theorem dX5_isSoBy_35 : decode cX5_isSoBy 35 = .ok (.iaload, 1) := by decide +kernel
theorem dX5_isSoBy_36 : decode cX5_isSoBy 36 = .ok (.invokevirtual 199, 3) := by decide +kernel
theorem dX5_isSoBy_39 : decode cX5_isSoBy 39 = .ok (.aload_n 0, 1) := by decide +kernel
theorem dX5_isSoBy_40 : decode cX5_isSoBy 40 = .ok (.getfield 42, 3) := by decide +kernel
theorem dX5_isSoBy_43 : decode cX5_isSoBy 43 = .ok (.iconst 3, 1) := by decide +kernel
theorem dX5_isSoBy_44 : decode cX5_isSoBy 44 = .ok (.iload_n 3, 1) := by decide +kernel
theorem dX5_isSoBy_45 : decode cX5_isSoBy 45 = .ok (.imul, 1) := by decide +kernel
theorem dX5_isSoBy_46 : decode cX5_isSoBy 46 = .ok (.iconst 2, 1) := by decide +kernel
theorem dX5_isSoBy_47 : decode cX5_isSoBy 47 = .ok (.iadd, 1) := by decide +kernel
theorem dX5_isSoBy_48 : decode cX5_isSoBy 48 = .ok (.iaload, 1) := by decide +kernel
theorem dX5_isSoBy_49 : decode cX5_isSoBy 49 = .ok (.iconst 1, 1) := by decide +kernel
theorem dX5_isSoBy_50 : decode cX5_isSoBy 50 = .ok (.if_icmp .ne 7, 3) := by decide +kernel
theorem dX5_isSoBy_53 : decode cX5_isSoBy 53 = .ok (.iconst 1, 1) := by decide +kernel
theorem dX5_isSoBy_54 : decode cX5_isSoBy 54 = .ok (.goto 4, 3) := by decide +kernel
theorem dX5_isSoBy_57 : decode cX5_isSoBy 57 = .ok (.iconst 0, 1) := by decide +kernel
theorem dX5_isSoBy_58 : decode cX5_isSoBy 58 = .ok (.if_icmp .ne 7, 3) := by decide +kernel
theorem dX5_isSoBy_61 : decode cX5_isSoBy 61 = .ok (.iconst 1, 1) := by decide +kernel
theorem dX5_isSoBy_62 : decode cX5_isSoBy 62 = .ok (.goto 4, 3) := by decide +kernel
theorem dX5_isSoBy_65 : decode cX5_isSoBy 65 = .ok (.iconst 0, 1) := by decide +kernel
theorem dX5_isSoBy_66 : decode cX5_isSoBy 66 = .ok (.istore_n 2, 1) := by decide +kernel
theorem dX5_isSoBy_67 : decode cX5_isSoBy 67 = .ok (.iinc 3 1, 3) := by decide +kernel
theorem dX5_isSoBy_70 : decode cX5_isSoBy 70 = .ok (.goto (-66), 3) := by decide +kernel
theorem dX5_isSoBy_73 : decode cX5_isSoBy 73 = .ok (.iload_n 2, 1) := by decide +kernel
theorem dX5_isSoBy_74 : decode cX5_isSoBy 74 = .ok (.ireturn, 1) := by decide +kernel
theorem dX5_played_0 : decode cX5_played 0 = .ok (.iload_n 1, 1) := by decide +kernel
theorem dX5_played_1 : decode cX5_played 1 = .ok (.i2l, 1) := by decide +kernel
theorem dX5_played_2 : decode cX5_played 2 = .ok (.lconst 0, 1) := by decide +kernel
theorem dX5_played_3 : decode cX5_played 3 = .ok (.lconst 1, 1) := by decide +kernel
theorem dX5_played_4 : decode cX5_played 4 = .ok (.invokestatic 47, 3) := by decide +kernel
theorem dX5_played_7 : decode cX5_played 7 = .ok (.ifCond .ne 6, 3) := by decide +kernel
theorem dX5_played_10 : decode cX5_played 10 = .ok (.bipush (-3), 2) := by decide +kernel
theorem dX5_played_12 : decode cX5_played 12 = .ok (.ireturn, 1) := by decide +kernel
theorem dX5_played_13 : decode cX5_played 13 = .ok (.iconst 0, 1) := by decide +kernel
theorem dX5_played_14 : decode cX5_played 14 = .ok (.istore_n 2, 1) := by decide +kernel
theorem dX5_played_15 : decode cX5_played 15 = .ok (.iconst 1, 1) := by decide +kernel
theorem dX5_played_16 : decode cX5_played 16 = .ok (.aload_n 0, 1) := by decide +kernel
theorem dX5_played_17 : decode cX5_played 17 = .ok (.getfield 134, 3) := by decide +kernel
theorem dX5_played_20 : decode cX5_played 20 = .ok (.ishl, 1) := by decide +kernel
theorem dX5_played_21 : decode cX5_played 21 = .ok (.iconst 1, 1) := by decide +kernel
theorem dX5_played_22 : decode cX5_played 22 = .ok (.isub, 1) := by decide +kernel
theorem dX5_played_23 : decode cX5_played 23 = .ok (.istore_n 3, 1) := by decide +kernel
theorem dX5_played_24 : decode cX5_played 24 = .ok (.iconst 0, 1) := by decide +kernel
theorem dX5_played_25 : decode cX5_played 25 = .ok (.istore 4, 2) := by decide +kernel
theorem dX5_played_27 : decode cX5_played 27 = .ok (.iload 4, 2) := by decide +kernel
theorem dX5_played_29 : decode cX5_played 29 = .ok (.iconst 1, 1) := by decide +kernel
theorem dX5_played_30 : decode cX5_played 30 = .ok (.aload_n 0, 1) := by decide +kernel
theorem dX5_played_31 : decode cX5_played 31 = .ok (.getfield 134, 3) := by decide +kernel
theorem dX5_played_34 : decode cX5_played 34 = .ok (.ishl, 1) := by decide +kernel
theorem dX5_played_35 : decode cX5_played 35 = .ok (.if_icmp .ge 44, 3) := by decide +kernel
theorem dX5_played_38 : decode cX5_played 38 = .ok (.aload_n 0, 1) := by decide +kernel
theorem dX5_played_39 : decode cX5_played 39 = .ok (.iload 4, 2) := by decide +kernel
theorem dX5_played_41 : decode cX5_played 41 = .ok (.invokevirtual 241, 3) := by decide +kernel
theorem dX5_played_44 : decode cX5_played 44 = .ok (.istore 5, 2) := by decide +kernel
theorem dX5_played_46 : decode cX5_played 46 = .ok (.iload_n 2, 1) := by decide +kernel
theorem dX5_played_47 : decode cX5_played 47 = .ok (.iload 5, 2) := by decide +kernel
theorem dX5_played_49 : decode cX5_played 49 = .ok (.ifCond .eq 7, 3) := by decide +kernel
theorem dX5_played_52 : decode cX5_played 52 = .ok (.iconst 1, 1) := by decide +kernel
theorem dX5_played_53 : decode cX5_played 53 = .ok (.goto 4, 3) := by decide +kernel
theorem dX5_played_56 : decode cX5_played 56 = .ok (.iconst 0, 1) := by decide +kernel
theorem dX5_played_57 : decode cX5_played 57 = .ok (.iadd, 1) := by decide +kernel
theorem dX5_played_58 : decode cX5_played 58 = .ok (.istore_n 2, 1) := by decide +kernel
theorem dX5_played_59 : decode cX5_played 59 = .ok (.iload_n 3, 1) := by decide +kernel
theorem dX5_played_60 : decode cX5_played 60 = .ok (.iload 5, 2) := by decide +kernel
theorem dX5_played_62 : decode cX5_played 62 = .ok (.ifCond .eq 8, 3) := by decide +kernel
theorem dX5_played_65 : decode cX5_played 65 = .ok (.iload 4, 2) := by decide +kernel
theorem dX5_played_67 : decode cX5_played 67 = .ok (.goto 4, 3) := by decide +kernel
theorem dX5_played_70 : decode cX5_played 70 = .ok (.iconst (-1), 1) := by decide +kernel
theorem dX5_played_71 : decode cX5_played 71 = .ok (.iand, 1) := by decide +kernel
theorem dX5_played_72 : decode cX5_played 72 = .ok (.istore_n 3, 1) := by decide +kernel
theorem dX5_played_73 : decode cX5_played 73 = .ok (.iinc 4 1, 3) := by decide +kernel
theorem dX5_played_76 : decode cX5_played 76 = .ok (.goto (-49), 3) := by decide +kernel
theorem dX5_played_79 : decode cX5_played 79 = .ok (.iload_n 1, 1) := by decide +kernel
theorem dX5_played_80 : decode cX5_played 80 = .ok (.ifCond .ne 7, 3) := by decide +kernel
theorem dX5_played_83 : decode cX5_played 83 = .ok (.iload_n 2, 1) := by decide +kernel
theorem dX5_played_84 : decode cX5_played 84 = .ok (.goto 12, 3) := by decide +kernel
theorem dX5_played_87 : decode cX5_played 87 = .ok (.iload_n 2, 1) := by decide +kernel
theorem dX5_played_88 : decode cX5_played 88 = .ok (.ifCond .ne 7, 3) := by decide +kernel
theorem dX5_played_91 : decode cX5_played 91 = .ok (.iconst (-1), 1) := by decide +kernel
theorem dX5_played_92 : decode cX5_played 92 = .ok (.goto 4, 3) := by decide +kernel
theorem dX5_played_95 : decode cX5_played 95 = .ok (.iload_n 3, 1) := by decide +kernel
theorem dX5_played_96 : decode cX5_played 96 = .ok (.ireturn, 1) := by decide +kernel
theorem dX5_count_0 : decode cX5_count 0 = .ok (.iload_n 1, 1) := by decide +kernel
theorem dX5_count_1 : decode cX5_count 1 = .ok (.tableswitch 102 0 8 #[51, 56, 61, 66, 71, 78, 85, 92, 97], 51) := by decide +kernel
theorem dX5_count_52 : decode cX5_count 52 = .ok (.aload_n 0, 1) := by decide +kernel
theorem dX5_count_53 : decode cX5_count 53 = .ok (.getfield 23, 3) := by decide +kernel
theorem dX5_count_56 : decode cX5_count 56 = .ok (.ireturn, 1) := by decide +kernel
theorem dX5_count_57 : decode cX5_count 57 = .ok (.aload_n 0, 1) := by decide +kernel
theorem dX5_count_58 : decode cX5_count 58 = .ok (.getfield 27, 3) := by decide +kernel
theorem dX5_count_61 : decode cX5_count 61 = .ok (.ireturn, 1) := by decide +kernel
theorem dX5_count_62 : decode cX5_count 62 = .ok (.aload_n 0, 1) := by decide +kernel
theorem dX5_count_63 : decode cX5_count 63 = .ok (.getfield 30, 3) := by decide +kernel
theorem dX5_count_66 : decode cX5_count 66 = .ok (.ireturn, 1) := by decide +kernel
theorem dX5_count_67 : decode cX5_count 67 = .ok (.aload_n 0, 1) := by decide +kernel
theorem dX5_count_68 : decode cX5_count 68 = .ok (.getfield 134, 3) := by decide +kernel
theorem dX5_count_71 : decode cX5_count 71 = .ok (.ireturn, 1) := by decide +kernel
theorem dX5_count_72 : decode cX5_count 72 = .ok (.aload_n 0, 1) := by decide +kernel
theorem dX5_count_73 : decode cX5_count 73 = .ok (.getfield 7, 3) := by decide +kernel
theorem dX5_count_76 : decode cX5_count 76 = .ok (.iconst 0, 1) := by decide +kernel
theorem dX5_count_77 : decode cX5_count 77 = .ok (.iaload, 1) := by decide +kernel
theorem dX5_count_78 : decode cX5_count 78 = .ok (.ireturn, 1) := by decide +kernel
theorem dX5_count_79 : decode cX5_count 79 = .ok (.aload_n 0, 1) := by decide +kernel
theorem dX5_count_80 : decode cX5_count 80 = .ok (.getfield 7, 3) := by decide +kernel
theorem dX5_count_83 : decode cX5_count 83 = .ok (.iconst 2, 1) := by decide +kernel
theorem dX5_count_84 : decode cX5_count 84 = .ok (.iaload, 1) := by decide +kernel
theorem dX5_count_85 : decode cX5_count 85 = .ok (.ireturn, 1) := by decide +kernel
theorem dX5_count_86 : decode cX5_count 86 = .ok (.aload_n 0, 1) := by decide +kernel
theorem dX5_count_87 : decode cX5_count 87 = .ok (.getfield 7, 3) := by decide +kernel
theorem dX5_count_90 : decode cX5_count 90 = .ok (.iconst 1, 1) := by decide +kernel
theorem dX5_count_91 : decode cX5_count 91 = .ok (.iaload, 1) := by decide +kernel
theorem dX5_count_92 : decode cX5_count 92 = .ok (.ireturn, 1) := by decide +kernel
theorem dX5_count_93 : decode cX5_count 93 = .ok (.aload_n 0, 1) := by decide +kernel
theorem dX5_count_94 : decode cX5_count 94 = .ok (.getfield 163, 3) := by decide +kernel
theorem dX5_count_97 : decode cX5_count 97 = .ok (.ireturn, 1) := by decide +kernel
theorem dX5_count_98 : decode cX5_count 98 = .ok (.aload_n 0, 1) := by decide +kernel
theorem dX5_count_99 : decode cX5_count 99 = .ok (.getfield 51, 3) := by decide +kernel
theorem dX5_count_102 : decode cX5_count 102 = .ok (.ireturn, 1) := by decide +kernel
theorem dX5_count_103 : decode cX5_count 103 = .ok (.bipush (-3), 2) := by decide +kernel
theorem dX5_count_105 : decode cX5_count 105 = .ok (.ireturn, 1) := by decide +kernel
