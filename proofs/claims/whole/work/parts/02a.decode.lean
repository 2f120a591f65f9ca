theorem dX0_init_0 : decode cX0_init 0 = .ok (.aload_n 0, 1) := by decide +kernel
theorem dX0_init_1 : decode cX0_init 1 = .ok (.invokespecial 3, 3) := by decide +kernel
theorem dX0_init_4 : decode cX0_init 4 = .ok (.aload_n 0, 1) := by decide +kernel
theorem dX0_init_5 : decode cX0_init 5 = .ok (.bipush 36, 2) := by decide +kernel
theorem dX0_init_7 : decode cX0_init 7 = .ok (.newarray .int, 2) := by decide +kernel
theorem dX0_init_9 : decode cX0_init 9 = .ok (.putfield 9, 3) := by decide +kernel
theorem dX0_init_12 : decode cX0_init 12 = .ok (.aload_n 0, 1) := by decide +kernel
theorem dX0_init_13 : decode cX0_init 13 = .ok (.sipush 216, 3) := by decide +kernel
theorem dX0_init_16 : decode cX0_init 16 = .ok (.newarray .int, 2) := by decide +kernel
theorem dX0_init_18 : decode cX0_init 18 = .ok (.putfield 15, 3) := by decide +kernel
theorem dX0_init_21 : decode cX0_init 21 = .ok (.aload_n 0, 1) := by decide +kernel
theorem dX0_init_22 : decode cX0_init 22 = .ok (.bipush 12, 2) := by decide +kernel
theorem dX0_init_24 : decode cX0_init 24 = .ok (.newarray .int, 2) := by decide +kernel
theorem dX0_init_26 : decode cX0_init 26 = .ok (.putfield 18, 3) := by decide +kernel
theorem dX0_init_29 : decode cX0_init 29 = .ok (.return_, 1) := by decide +kernel
theorem dX0_listen_0 : decode cX0_listen 0 = .ok (.aload_n 0, 1) := by decide +kernel
theorem dX0_listen_1 : decode cX0_listen 1 = .ok (.aload_n 1, 1) := by decide +kernel
theorem dX0_listen_2 : decode cX0_listen 2 = .ok (.invokevirtual 21, 3) := by decide +kernel
theorem dX0_listen_5 : decode cX0_listen 5 = .ok (.bipush 36, 2) := by decide +kernel
theorem dX0_listen_7 : decode cX0_listen 7 = .ok (.invokestatic 27, 3) := by decide +kernel
theorem dX0_listen_10 : decode cX0_listen 10 = .ok (.putfield 33, 3) := by decide +kernel
theorem dX0_listen_13 : decode cX0_listen 13 = .ok (.aload_n 0, 1) := by decide +kernel
theorem dX0_listen_14 : decode cX0_listen 14 = .ok (.aload_n 1, 1) := by decide +kernel
theorem dX0_listen_15 : decode cX0_listen 15 = .ok (.getfield 36, 3) := by decide +kernel
theorem dX0_listen_18 : decode cX0_listen 18 = .ok (.putfield 40, 3) := by decide +kernel
theorem dX0_listen_21 : decode cX0_listen 21 = .ok (.iconst 0, 1) := by decide +kernel
theorem dX0_listen_22 : decode cX0_listen 22 = .ok (.istore_n 2, 1) := by decide +kernel
theorem dX0_listen_23 : decode cX0_listen 23 = .ok (.iload_n 2, 1) := by decide +kernel
theorem dX0_listen_24 : decode cX0_listen 24 = .ok (.aload_n 0, 1) := by decide +kernel
theorem dX0_listen_25 : decode cX0_listen 25 = .ok (.getfield 33, 3) := by decide +kernel
theorem dX0_listen_28 : decode cX0_listen 28 = .ok (.if_icmp .ge 20, 3) := by decide +kernel
theorem dX0_listen_31 : decode cX0_listen 31 = .ok (.aload_n 0, 1) := by decide +kernel
theorem dX0_listen_32 : decode cX0_listen 32 = .ok (.getfield 9, 3) := by decide +kernel
theorem dX0_listen_35 : decode cX0_listen 35 = .ok (.iload_n 2, 1) := by decide +kernel
theorem dX0_listen_36 : decode cX0_listen 36 = .ok (.aload_n 1, 1) := by decide +kernel
theorem dX0_listen_37 : decode cX0_listen 37 = .ok (.iload_n 2, 1) := by decide +kernel
theorem dX0_listen_38 : decode cX0_listen 38 = .ok (.invokevirtual 41, 3) := by decide +kernel
theorem dX0_listen_41 : decode cX0_listen 41 = .ok (.iastore, 1) := by decide +kernel
theorem dX0_listen_42 : decode cX0_listen 42 = .ok (.iinc 2 1, 3) := by decide +kernel
theorem dX0_listen_45 : decode cX0_listen 45 = .ok (.goto (-22), 3) := by decide +kernel
theorem dX0_listen_48 : decode cX0_listen 48 = .ok (.iconst 0, 1) := by decide +kernel
theorem dX0_listen_49 : decode cX0_listen 49 = .ok (.istore_n 2, 1) := by decide +kernel
theorem dX0_listen_50 : decode cX0_listen 50 = .ok (.iload_n 2, 1) := by decide +kernel
theorem dX0_listen_51 : decode cX0_listen 51 = .ok (.aload_n 1, 1) := by decide +kernel
theorem dX0_listen_52 : decode cX0_listen 52 = .ok (.getfield 45, 3) := by decide +kernel
theorem dX0_listen_55 : decode cX0_listen 55 = .ok (.if_icmp .ge 15, 3) := by decide +kernel
theorem dX0_listen_58 : decode cX0_listen 58 = .ok (.aload_n 0, 1) := by decide +kernel
theorem dX0_listen_59 : decode cX0_listen 59 = .ok (.aload_n 1, 1) := by decide +kernel
theorem dX0_listen_60 : decode cX0_listen 60 = .ok (.iload_n 2, 1) := by decide +kernel
theorem dX0_listen_61 : decode cX0_listen 61 = .ok (.invokevirtual 48, 3) := by decide +kernel
theorem dX0_listen_64 : decode cX0_listen 64 = .ok (.iinc 2 1, 3) := by decide +kernel
theorem dX0_listen_67 : decode cX0_listen 67 = .ok (.goto (-17), 3) := by decide +kernel
theorem dX0_listen_70 : decode cX0_listen 70 = .ok (.return_, 1) := by decide +kernel
theorem dX0_listenToBand_0 : decode cX0_listenToBand 0 = .ok (.iload_n 2, 1) := by decide +kernel
theorem dX0_listenToBand_1 : decode cX0_listenToBand 1 = .ok (.ifCond .lt 9, 3) := by decide +kernel
theorem dX0_listenToBand_4 : decode cX0_listenToBand 4 = .ok (.iload_n 2, 1) := by decide +kernel
theorem dX0_listenToBand_5 : decode cX0_listenToBand 5 = .ok (.bipush 6, 2) := by decide +kernel
theorem dX0_listenToBand_7 : decode cX0_listenToBand 7 = .ok (.if_icmp .lt 4, 3) := by decide +kernel
theorem dX0_listenToBand_10 : decode cX0_listenToBand 10 = .ok (.return_, 1) := by decide +kernel
theorem dX0_listenToBand_11 : decode cX0_listenToBand 11 = .ok (.iconst 0, 1) := by decide +kernel
theorem dX0_listenToBand_12 : decode cX0_listenToBand 12 = .ok (.istore_n 3, 1) := by decide +kernel
theorem dX0_listenToBand_13 : decode cX0_listenToBand 13 = .ok (.iload_n 3, 1) := by decide +kernel
theorem dX0_listenToBand_14 : decode cX0_listenToBand 14 = .ok (.aload_n 0, 1) := by decide +kernel
theorem dX0_listenToBand_15 : decode cX0_listenToBand 15 = .ok (.getfield 33, 3) := by decide +kernel
theorem dX0_listenToBand_18 : decode cX0_listenToBand 18 = .ok (.if_icmp .ge 26, 3) := by decide +kernel
theorem dX0_listenToBand_21 : decode cX0_listenToBand 21 = .ok (.aload_n 0, 1) := by decide +kernel
theorem dX0_listenToBand_22 : decode cX0_listenToBand 22 = .ok (.getfield 15, 3) := by decide +kernel
theorem dX0_listenToBand_25 : decode cX0_listenToBand 25 = .ok (.iload_n 2, 1) := by decide +kernel
theorem dX0_listenToBand_26 : decode cX0_listenToBand 26 = .ok (.bipush 36, 2) := by decide +kernel
theorem dX0_listenToBand_28 : decode cX0_listenToBand 28 = .ok (.imul, 1) := by decide +kernel
theorem dX0_listenToBand_29 : decode cX0_listenToBand 29 = .ok (.iload_n 3, 1) := by decide +kernel
theorem dX0_listenToBand_30 : decode cX0_listenToBand 30 = .ok (.iadd, 1) := by decide +kernel
theorem dX0_listenToBand_31 : decode cX0_listenToBand 31 = .ok (.aload_n 1, 1) := by decide +kernel
theorem dX0_listenToBand_32 : decode cX0_listenToBand 32 = .ok (.iload_n 2, 1) := by decide +kernel
theorem dX0_listenToBand_33 : decode cX0_listenToBand 33 = .ok (.iload_n 3, 1) := by decide +kernel
theorem dX0_listenToBand_34 : decode cX0_listenToBand 34 = .ok (.invokevirtual 52, 3) := by decide +kernel
theorem dX0_listenToBand_37 : decode cX0_listenToBand 37 = .ok (.iastore, 1) := by decide +kernel
theorem dX0_listenToBand_38 : decode cX0_listenToBand 38 = .ok (.iinc 3 1, 3) := by decide +kernel
theorem dX0_listenToBand_41 : decode cX0_listenToBand 41 = .ok (.goto (-28), 3) := by decide +kernel
theorem dX0_listenToBand_44 : decode cX0_listenToBand 44 = .ok (.iconst 0, 1) := by decide +kernel
theorem dX0_listenToBand_45 : decode cX0_listenToBand 45 = .ok (.istore_n 3, 1) := by decide +kernel
theorem dX0_listenToBand_46 : decode cX0_listenToBand 46 = .ok (.iload_n 3, 1) := by decide +kernel
theorem dX0_listenToBand_47 : decode cX0_listenToBand 47 = .ok (.bipush 12, 2) := by decide +kernel
theorem dX0_listenToBand_49 : decode cX0_listenToBand 49 = .ok (.if_icmp .ge 48, 3) := by decide +kernel
theorem dX0_listenToBand_52 : decode cX0_listenToBand 52 = .ok (.aload_n 0, 1) := by decide +kernel
theorem dX0_listenToBand_53 : decode cX0_listenToBand 53 = .ok (.getfield 18, 3) := by decide +kernel
theorem dX0_listenToBand_56 : decode cX0_listenToBand 56 = .ok (.iload_n 3, 1) := by decide +kernel
theorem dX0_listenToBand_57 : decode cX0_listenToBand 57 = .ok (.dup2, 1) := by decide +kernel
theorem dX0_listenToBand_58 : decode cX0_listenToBand 58 = .ok (.iaload, 1) := by decide +kernel
theorem dX0_listenToBand_59 : decode cX0_listenToBand 59 = .ok (.iconst 1, 1) := by decide +kernel
theorem dX0_listenToBand_60 : decode cX0_listenToBand 60 = .ok (.iload_n 2, 1) := by decide +kernel
theorem dX0_listenToBand_61 : decode cX0_listenToBand 61 = .ok (.ishl, 1) := by decide +kernel
theorem dX0_listenToBand_62 : decode cX0_listenToBand 62 = .ok (.iconst (-1), 1) := by decide +kernel
theorem dX0_listenToBand_63 : decode cX0_listenToBand 63 = .ok (.ixor, 1) := by decide +kernel
theorem dX0_listenToBand_64 : decode cX0_listenToBand 64 = .ok (.iand, 1) := by decide +kernel
theorem dX0_listenToBand_65 : decode cX0_listenToBand 65 = .ok (.iastore, 1) := by decide +kernel
theorem dX0_listenToBand_66 : decode cX0_listenToBand 66 = .ok (.aload_n 0, 1) := by decide +kernel
theorem dX0_listenToBand_67 : decode cX0_listenToBand 67 = .ok (.getfield 18, 3) := by decide +kernel
theorem dX0_listenToBand_70 : decode cX0_listenToBand 70 = .ok (.iload_n 3, 1) := by decide +kernel
theorem dX0_listenToBand_71 : decode cX0_listenToBand 71 = .ok (.dup2, 1) := by decide +kernel
theorem dX0_listenToBand_72 : decode cX0_listenToBand 72 = .ok (.iaload, 1) := by decide +kernel
theorem dX0_listenToBand_73 : decode cX0_listenToBand 73 = .ok (.aload_n 1, 1) := by decide +kernel
theorem dX0_listenToBand_74 : decode cX0_listenToBand 74 = .ok (.iload_n 2, 1) := by decide +kernel
theorem dX0_listenToBand_75 : decode cX0_listenToBand 75 = .ok (.iload_n 3, 1) := by decide +kernel
theorem dX0_listenToBand_76 : decode cX0_listenToBand 76 = .ok (.invokevirtual 55, 3) := by decide +kernel
theorem dX0_listenToBand_79 : decode cX0_listenToBand 79 = .ok (.ifCond .eq 9, 3) := by decide +kernel
theorem dX0_listenToBand_82 : decode cX0_listenToBand 82 = .ok (.iconst 1, 1) := by decide +kernel
theorem dX0_listenToBand_83 : decode cX0_listenToBand 83 = .ok (.iload_n 2, 1) := by decide +kernel
theorem dX0_listenToBand_84 : decode cX0_listenToBand 84 = .ok (.ishl, 1) := by decide +kernel
theorem dX0_listenToBand_85 : decode cX0_listenToBand 85 = .ok (.goto 4, 3) := by decide +kernel
theorem dX0_listenToBand_88 : decode cX0_listenToBand 88 = .ok (.iconst 0, 1) := by decide +kernel
theorem dX0_listenToBand_89 : decode cX0_listenToBand 89 = .ok (.ior, 1) := by decide +kernel
theorem dX0_listenToBand_90 : decode cX0_listenToBand 90 = .ok (.iastore, 1) := by decide +kernel
theorem dX0_listenToBand_91 : decode cX0_listenToBand 91 = .ok (.iinc 3 1, 3) := by decide +kernel
theorem dX0_listenToBand_94 : decode cX0_listenToBand 94 = .ok (.goto (-48), 3) := by decide +kernel
theorem dX0_listenToBand_97 : decode cX0_listenToBand 97 = .ok (.return_, 1) := by decide +kernel
theorem dX0_fluteAt_0 : decode cX0_fluteAt 0 = .ok (.iload_n 1, 1) := by decide +kernel
theorem dX0_fluteAt_1 : decode cX0_fluteAt 1 = .ok (.ifCond .lt 18, 3) := by decide +kernel
theorem dX0_fluteAt_4 : decode cX0_fluteAt 4 = .ok (.iload_n 1, 1) := by decide +kernel
theorem dX0_fluteAt_5 : decode cX0_fluteAt 5 = .ok (.bipush 36, 2) := by decide +kernel
theorem dX0_fluteAt_7 : decode cX0_fluteAt 7 = .ok (.if_icmp .ge 12, 3) := by decide +kernel
theorem dX0_fluteAt_10 : decode cX0_fluteAt 10 = .ok (.aload_n 0, 1) := by decide +kernel
theorem dX0_fluteAt_11 : decode cX0_fluteAt 11 = .ok (.getfield 9, 3) := by decide +kernel
theorem dX0_fluteAt_14 : decode cX0_fluteAt 14 = .ok (.iload_n 1, 1) := by decide +kernel
theorem dX0_fluteAt_15 : decode cX0_fluteAt 15 = .ok (.iaload, 1) := by decide +kernel
theorem dX0_fluteAt_16 : decode cX0_fluteAt 16 = .ok (.goto 4, 3) := by decide +kernel
theorem dX0_fluteAt_19 : decode cX0_fluteAt 19 = .ok (.iconst 0, 1) := by decide +kernel
theorem dX0_fluteAt_20 : decode cX0_fluteAt 20 = .ok (.ireturn, 1) := by decide +kernel
theorem dX0_noiseOf_0 : decode cX0_noiseOf 0 = .ok (.iload_n 3, 1) := by decide +kernel
theorem dX0_noiseOf_1 : decode cX0_noiseOf 1 = .ok (.invokestatic 59, 3) := by decide +kernel
theorem dX0_noiseOf_4 : decode cX0_noiseOf 4 = .ok (.ifCond .eq 19, 3) := by decide +kernel
theorem dX0_noiseOf_7 : decode cX0_noiseOf 7 = .ok (.aload_n 0, 1) := by decide +kernel
theorem dX0_noiseOf_8 : decode cX0_noiseOf 8 = .ok (.iload_n 1, 1) := by decide +kernel
theorem dX0_noiseOf_9 : decode cX0_noiseOf 9 = .ok (.aload_n 0, 1) := by decide +kernel
theorem dX0_noiseOf_10 : decode cX0_noiseOf 10 = .ok (.getfield 18, 3) := by decide +kernel
theorem dX0_noiseOf_13 : decode cX0_noiseOf 13 = .ok (.iload_n 3, 1) := by decide +kernel
theorem dX0_noiseOf_14 : decode cX0_noiseOf 14 = .ok (.iaload, 1) := by decide +kernel
theorem dX0_noiseOf_15 : decode cX0_noiseOf 15 = .ok (.iand, 1) := by decide +kernel
theorem dX0_noiseOf_16 : decode cX0_noiseOf 16 = .ok (.iload_n 2, 1) := by decide +kernel
theorem dX0_noiseOf_17 : decode cX0_noiseOf 17 = .ok (.invokevirtual 63, 3) := by decide +kernel
theorem dX0_noiseOf_20 : decode cX0_noiseOf 20 = .ok (.goto 4, 3) := by decide +kernel
theorem dX0_noiseOf_23 : decode cX0_noiseOf 23 = .ok (.iconst 0, 1) := by decide +kernel
theorem dX0_noiseOf_24 : decode cX0_noiseOf 24 = .ok (.ireturn, 1) := by decide +kernel
theorem dX0_soundsOf_0 : decode cX0_soundsOf 0 = .ok (.iconst 0, 1) := by decide +kernel
theorem dX0_soundsOf_1 : decode cX0_soundsOf 1 = .ok (.istore_n 3, 1) := by decide +kernel
theorem dX0_soundsOf_2 : decode cX0_soundsOf 2 = .ok (.iload_n 2, 1) := by decide +kernel
theorem dX0_soundsOf_3 : decode cX0_soundsOf 3 = .ok (.ifCond .lt 53, 3) := by decide +kernel
theorem dX0_soundsOf_6 : decode cX0_soundsOf 6 = .ok (.iload_n 2, 1) := by decide +kernel
theorem dX0_soundsOf_7 : decode cX0_soundsOf 7 = .ok (.bipush 36, 2) := by decide +kernel
theorem dX0_soundsOf_9 : decode cX0_soundsOf 9 = .ok (.if_icmp .ge 47, 3) := by decide +kernel
theorem dX0_soundsOf_12 : decode cX0_soundsOf 12 = .ok (.iconst 0, 1) := by decide +kernel
theorem dX0_soundsOf_13 : decode cX0_soundsOf 13 = .ok (.istore 4, 2) := by decide +kernel
theorem dX0_soundsOf_15 : decode cX0_soundsOf 15 = .ok (.iload 4, 2) := by decide +kernel
theorem dX0_soundsOf_17 : decode cX0_soundsOf 17 = .ok (.bipush 6, 2) := by decide +kernel
theorem dX0_soundsOf_19 : decode cX0_soundsOf 19 = .ok (.if_icmp .ge 37, 3) := by decide +kernel
theorem dX0_soundsOf_22 : decode cX0_soundsOf 22 = .ok (.iload_n 3, 1) := by decide +kernel
theorem dX0_soundsOf_23 : decode cX0_soundsOf 23 = .ok (.iload 4, 2) := by decide +kernel
theorem dX0_soundsOf_25 : decode cX0_soundsOf 25 = .ok (.iload_n 1, 1) := by decide +kernel
theorem dX0_soundsOf_26 : decode cX0_soundsOf 26 = .ok (.invokestatic 66, 3) := by decide +kernel
theorem dX0_soundsOf_29 : decode cX0_soundsOf 29 = .ok (.ifCond .eq 18, 3) := by decide +kernel
theorem dX0_soundsOf_32 : decode cX0_soundsOf 32 = .ok (.aload_n 0, 1) := by decide +kernel
theorem dX0_soundsOf_33 : decode cX0_soundsOf 33 = .ok (.getfield 15, 3) := by decide +kernel
theorem dX0_soundsOf_36 : decode cX0_soundsOf 36 = .ok (.iload 4, 2) := by decide +kernel
theorem dX0_soundsOf_38 : decode cX0_soundsOf 38 = .ok (.bipush 36, 2) := by decide +kernel
theorem dX0_soundsOf_40 : decode cX0_soundsOf 40 = .ok (.imul, 1) := by decide +kernel
theorem dX0_soundsOf_41 : decode cX0_soundsOf 41 = .ok (.iload_n 2, 1) := by decide +kernel
theorem dX0_soundsOf_42 : decode cX0_soundsOf 42 = .ok (.iadd, 1) := by decide +kernel
theorem dX0_soundsOf_43 : decode cX0_soundsOf 43 = .ok (.iaload, 1) := by decide +kernel
theorem dX0_soundsOf_44 : decode cX0_soundsOf 44 = .ok (.goto 4, 3) := by decide +kernel
theorem dX0_soundsOf_47 : decode cX0_soundsOf 47 = .ok (.iconst 0, 1) := by decide +kernel
theorem dX0_soundsOf_48 : decode cX0_soundsOf 48 = .ok (.iadd, 1) := by decide +kernel
theorem dX0_soundsOf_49 : decode cX0_soundsOf 49 = .ok (.istore_n 3, 1) := by decide +kernel
theorem dX0_soundsOf_50 : decode cX0_soundsOf 50 = .ok (.iinc 4 1, 3) := by decide +kernel
theorem dX0_soundsOf_53 : decode cX0_soundsOf 53 = .ok (.goto (-38), 3) := by decide +kernel
theorem dX0_soundsOf_56 : decode cX0_soundsOf 56 = .ok (.iload_n 3, 1) := by decide +kernel
theorem dX0_soundsOf_57 : decode cX0_soundsOf 57 = .ok (.ireturn, 1) := by decide +kernel
theorem dX0_isHeard_0 : decode cX0_isHeard 0 = .ok (.aload_n 0, 1) := by decide +kernel
theorem dX0_isHeard_1 : decode cX0_isHeard 1 = .ok (.iload_n 2, 1) := by decide +kernel
theorem dX0_isHeard_2 : decode cX0_isHeard 2 = .ok (.invokevirtual 69, 3) := by decide +kernel
theorem dX0_isHeard_5 : decode cX0_isHeard 5 = .ok (.aload_n 0, 1) := by decide +kernel
theorem dX0_isHeard_6 : decode cX0_isHeard 6 = .ok (.iload_n 1, 1) := by decide +kernel
theorem dX0_isHeard_7 : decode cX0_isHeard 7 = .ok (.iload_n 2, 1) := by decide +kernel
theorem dX0_isHeard_8 : decode cX0_isHeard 8 = .ok (.iload_n 3, 1) := by decide +kernel
theorem dX0_isHeard_9 : decode cX0_isHeard 9 = .ok (.invokevirtual 72, 3) := by decide +kernel
theorem dX0_isHeard_12 : decode cX0_isHeard 12 = .ok (.if_icmp .le 7, 3) := by decide +kernel
theorem dX0_isHeard_15 : decode cX0_isHeard 15 = .ok (.iconst 1, 1) := by decide +kernel
theorem dX0_isHeard_16 : decode cX0_isHeard 16 = .ok (.goto 4, 3) := by decide +kernel
theorem dX0_isHeard_19 : decode cX0_isHeard 19 = .ok (.iconst 0, 1) := by decide +kernel
theorem dX0_isHeard_20 : decode cX0_isHeard 20 = .ok (.ireturn, 1) := by decide +kernel
theorem dX0_heardOfWalk_0 : decode cX0_heardOfWalk 0 = .ok (.lconst 0, 1) := by decide +kernel
theorem dX0_heardOfWalk_1 : decode cX0_heardOfWalk 1 = .ok (.lstore_n 3, 1) := by decide +kernel
theorem dX0_heardOfWalk_2 : decode cX0_heardOfWalk 2 = .ok (.iconst 0, 1) := by decide +kernel
theorem dX0_heardOfWalk_3 : decode cX0_heardOfWalk 3 = .ok (.istore 5, 2) := by decide +kernel
theorem dX0_heardOfWalk_5 : decode cX0_heardOfWalk 5 = .ok (.iload 5, 2) := by decide +kernel
theorem dX0_heardOfWalk_7 : decode cX0_heardOfWalk 7 = .ok (.aload_n 0, 1) := by decide +kernel
theorem dX0_heardOfWalk_8 : decode cX0_heardOfWalk 8 = .ok (.getfield 33, 3) := by decide +kernel
theorem dX0_heardOfWalk_11 : decode cX0_heardOfWalk 11 = .ok (.if_icmp .ge 41, 3) := by decide +kernel
theorem dX0_heardOfWalk_14 : decode cX0_heardOfWalk 14 = .ok (.aload_n 0, 1) := by decide +kernel
theorem dX0_heardOfWalk_15 : decode cX0_heardOfWalk 15 = .ok (.getfield 40, 3) := by decide +kernel
theorem dX0_heardOfWalk_18 : decode cX0_heardOfWalk 18 = .ok (.iload 5, 2) := by decide +kernel
theorem dX0_heardOfWalk_20 : decode cX0_heardOfWalk 20 = .ok (.lushr, 1) := by decide +kernel
theorem dX0_heardOfWalk_21 : decode cX0_heardOfWalk 21 = .ok (.lconst 1, 1) := by decide +kernel
theorem dX0_heardOfWalk_22 : decode cX0_heardOfWalk 22 = .ok (.land, 1) := by decide +kernel
theorem dX0_heardOfWalk_23 : decode cX0_heardOfWalk 23 = .ok (.lconst 1, 1) := by decide +kernel
theorem dX0_heardOfWalk_24 : decode cX0_heardOfWalk 24 = .ok (.lcmp, 1) := by decide +kernel
theorem dX0_heardOfWalk_25 : decode cX0_heardOfWalk 25 = .ok (.ifCond .ne 21, 3) := by decide +kernel
theorem dX0_heardOfWalk_28 : decode cX0_heardOfWalk 28 = .ok (.aload_n 0, 1) := by decide +kernel
theorem dX0_heardOfWalk_29 : decode cX0_heardOfWalk 29 = .ok (.iload_n 1, 1) := by decide +kernel
theorem dX0_heardOfWalk_30 : decode cX0_heardOfWalk 30 = .ok (.iload 5, 2) := by decide +kernel
theorem dX0_heardOfWalk_32 : decode cX0_heardOfWalk 32 = .ok (.iload_n 2, 1) := by decide +kernel
theorem dX0_heardOfWalk_33 : decode cX0_heardOfWalk 33 = .ok (.invokevirtual 76, 3) := by decide +kernel
theorem dX0_heardOfWalk_36 : decode cX0_heardOfWalk 36 = .ok (.ifCond .eq 10, 3) := by decide +kernel
theorem dX0_heardOfWalk_39 : decode cX0_heardOfWalk 39 = .ok (.lload_n 3, 1) := by decide +kernel
theorem dX0_heardOfWalk_40 : decode cX0_heardOfWalk 40 = .ok (.lconst 1, 1) := by decide +kernel
theorem dX0_heardOfWalk_41 : decode cX0_heardOfWalk 41 = .ok (.iload 5, 2) := by decide +kernel
theorem dX0_heardOfWalk_43 : decode cX0_heardOfWalk 43 = .ok (.lshl, 1) := by decide +kernel
theorem dX0_heardOfWalk_44 : decode cX0_heardOfWalk 44 = .ok (.lor, 1) := by decide +kernel
theorem dX0_heardOfWalk_45 : decode cX0_heardOfWalk 45 = .ok (.lstore_n 3, 1) := by decide +kernel
theorem dX0_heardOfWalk_46 : decode cX0_heardOfWalk 46 = .ok (.iinc 5 1, 3) := by decide +kernel
theorem dX0_heardOfWalk_49 : decode cX0_heardOfWalk 49 = .ok (.goto (-44), 3) := by decide +kernel
theorem dX0_heardOfWalk_52 : decode cX0_heardOfWalk 52 = .ok (.lload_n 3, 1) := by decide +kernel
theorem dX0_heardOfWalk_53 : decode cX0_heardOfWalk 53 = .ok (.lreturn, 1) := by decide +kernel
theorem dX0_loudestOf_0 : decode cX0_loudestOf 0 = .ok (.iconst (-1), 1) := by decide +kernel
theorem dX0_loudestOf_1 : decode cX0_loudestOf 1 = .ok (.istore 4, 2) := by decide +kernel
theorem dX0_loudestOf_3 : decode cX0_loudestOf 3 = .ok (.iconst 0, 1) := by decide +kernel
theorem dX0_loudestOf_4 : decode cX0_loudestOf 4 = .ok (.istore 5, 2) := by decide +kernel
theorem dX0_loudestOf_6 : decode cX0_loudestOf 6 = .ok (.iconst 0, 1) := by decide +kernel
theorem dX0_loudestOf_7 : decode cX0_loudestOf 7 = .ok (.istore 6, 2) := by decide +kernel
theorem dX0_loudestOf_9 : decode cX0_loudestOf 9 = .ok (.iload 6, 2) := by decide +kernel
theorem dX0_loudestOf_11 : decode cX0_loudestOf 11 = .ok (.bipush 6, 2) := by decide +kernel
theorem dX0_loudestOf_13 : decode cX0_loudestOf 13 = .ok (.if_icmp .ge 38, 3) := by decide +kernel
theorem dX0_loudestOf_16 : decode cX0_loudestOf 16 = .ok (.aload_n 0, 1) := by decide +kernel
theorem dX0_loudestOf_17 : decode cX0_loudestOf 17 = .ok (.iload_n 1, 1) := by decide +kernel
theorem dX0_loudestOf_18 : decode cX0_loudestOf 18 = .ok (.iconst 1, 1) := by decide +kernel
theorem dX0_loudestOf_19 : decode cX0_loudestOf 19 = .ok (.iload 6, 2) := by decide +kernel
theorem dX0_loudestOf_21 : decode cX0_loudestOf 21 = .ok (.ishl, 1) := by decide +kernel
theorem dX0_loudestOf_22 : decode cX0_loudestOf 22 = .ok (.iand, 1) := by decide +kernel
theorem dX0_loudestOf_23 : decode cX0_loudestOf 23 = .ok (.iload_n 2, 1) := by decide +kernel
theorem dX0_loudestOf_24 : decode cX0_loudestOf 24 = .ok (.iload_n 3, 1) := by decide +kernel
theorem dX0_loudestOf_25 : decode cX0_loudestOf 25 = .ok (.invokevirtual 72, 3) := by decide +kernel
theorem dX0_loudestOf_28 : decode cX0_loudestOf 28 = .ok (.istore 7, 2) := by decide +kernel
theorem dX0_loudestOf_30 : decode cX0_loudestOf 30 = .ok (.iload 7, 2) := by decide +kernel
theorem dX0_loudestOf_32 : decode cX0_loudestOf 32 = .ok (.iload 5, 2) := by decide +kernel
theorem dX0_loudestOf_34 : decode cX0_loudestOf 34 = .ok (.if_icmp .le 11, 3) := by decide +kernel
theorem dX0_loudestOf_37 : decode cX0_loudestOf 37 = .ok (.iload 7, 2) := by decide +kernel
theorem dX0_loudestOf_39 : decode cX0_loudestOf 39 = .ok (.istore 5, 2) := by decide +kernel
theorem dX0_loudestOf_41 : decode cX0_loudestOf 41 = .ok (.iload 6, 2) := by decide +kernel
theorem dX0_loudestOf_43 : decode cX0_loudestOf 43 = .ok (.istore 4, 2) := by decide +kernel
theorem dX0_loudestOf_45 : decode cX0_loudestOf 45 = .ok (.iinc 6 1, 3) := by decide +kernel
theorem dX0_loudestOf_48 : decode cX0_loudestOf 48 = .ok (.goto (-39), 3) := by decide +kernel
theorem dX0_loudestOf_51 : decode cX0_loudestOf 51 = .ok (.iload 4, 2) := by decide +kernel
theorem dX0_loudestOf_53 : decode cX0_loudestOf 53 = .ok (.ireturn, 1) := by decide +kernel
theorem dX0_marginOf_0 : decode cX0_marginOf 0 = .ok (.sipush 999, 3) := by decide +kernel
theorem dX0_marginOf_3 : decode cX0_marginOf 3 = .ok (.istore_n 2, 1) := by decide +kernel
theorem dX0_marginOf_4 : decode cX0_marginOf 4 = .ok (.lconst 0, 1) := by decide +kernel
theorem dX0_marginOf_5 : decode cX0_marginOf 5 = .ok (.lstore_n 3, 1) := by decide +kernel
theorem dX0_marginOf_6 : decode cX0_marginOf 6 = .ok (.iconst 0, 1) := by decide +kernel
theorem dX0_marginOf_7 : decode cX0_marginOf 7 = .ok (.istore 5, 2) := by decide +kernel
theorem dX0_marginOf_9 : decode cX0_marginOf 9 = .ok (.iload 5, 2) := by decide +kernel
theorem dX0_marginOf_11 : decode cX0_marginOf 11 = .ok (.bipush 12, 2) := by decide +kernel
theorem dX0_marginOf_13 : decode cX0_marginOf 13 = .ok (.if_icmp .ge 49, 3) := by decide +kernel
theorem dX0_marginOf_16 : decode cX0_marginOf 16 = .ok (.iload_n 1, 1) := by decide +kernel
theorem dX0_marginOf_17 : decode cX0_marginOf 17 = .ok (.aload_n 0, 1) := by decide +kernel
theorem dX0_marginOf_18 : decode cX0_marginOf 18 = .ok (.getfield 18, 3) := by decide +kernel
theorem dX0_marginOf_21 : decode cX0_marginOf 21 = .ok (.iload 5, 2) := by decide +kernel
theorem dX0_marginOf_23 : decode cX0_marginOf 23 = .ok (.iaload, 1) := by decide +kernel
theorem dX0_marginOf_24 : decode cX0_marginOf 24 = .ok (.iand, 1) := by decide +kernel
theorem dX0_marginOf_25 : decode cX0_marginOf 25 = .ok (.istore 6, 2) := by decide +kernel
theorem dX0_marginOf_27 : decode cX0_marginOf 27 = .ok (.lload_n 3, 1) := by decide +kernel
theorem dX0_marginOf_28 : decode cX0_marginOf 28 = .ok (.iload 6, 2) := by decide +kernel
theorem dX0_marginOf_30 : decode cX0_marginOf 30 = .ok (.lushr, 1) := by decide +kernel
theorem dX0_marginOf_31 : decode cX0_marginOf 31 = .ok (.lconst 1, 1) := by decide +kernel
theorem dX0_marginOf_32 : decode cX0_marginOf 32 = .ok (.land, 1) := by decide +kernel
theorem dX0_marginOf_33 : decode cX0_marginOf 33 = .ok (.lconst 0, 1) := by decide +kernel
theorem dX0_marginOf_34 : decode cX0_marginOf 34 = .ok (.lcmp, 1) := by decide +kernel
theorem dX0_marginOf_35 : decode cX0_marginOf 35 = .ok (.ifCond .ne 21, 3) := by decide +kernel
theorem dX0_marginOf_38 : decode cX0_marginOf 38 = .ok (.lload_n 3, 1) := by decide +kernel
theorem dX0_marginOf_39 : decode cX0_marginOf 39 = .ok (.lconst 1, 1) := by decide +kernel
theorem dX0_marginOf_40 : decode cX0_marginOf 40 = .ok (.iload 6, 2) := by decide +kernel
theorem dX0_marginOf_42 : decode cX0_marginOf 42 = .ok (.lshl, 1) := by decide +kernel
theorem dX0_marginOf_43 : decode cX0_marginOf 43 = .ok (.lor, 1) := by decide +kernel
theorem dX0_marginOf_44 : decode cX0_marginOf 44 = .ok (.lstore_n 3, 1) := by decide +kernel
theorem dX0_marginOf_45 : decode cX0_marginOf 45 = .ok (.iload_n 2, 1) := by decide +kernel
theorem dX0_marginOf_46 : decode cX0_marginOf 46 = .ok (.aload_n 0, 1) := by decide +kernel
theorem dX0_marginOf_47 : decode cX0_marginOf 47 = .ok (.iload 6, 2) := by decide +kernel
theorem dX0_marginOf_49 : decode cX0_marginOf 49 = .ok (.invokevirtual 80, 3) := by decide +kernel
theorem dX0_marginOf_52 : decode cX0_marginOf 52 = .ok (.invokestatic 27, 3) := by decide +kernel
theorem dX0_marginOf_55 : decode cX0_marginOf 55 = .ok (.istore_n 2, 1) := by decide +kernel
theorem dX0_marginOf_56 : decode cX0_marginOf 56 = .ok (.iinc 5 1, 3) := by decide +kernel
theorem dX0_marginOf_59 : decode cX0_marginOf 59 = .ok (.goto (-50), 3) := by decide +kernel
theorem dX0_marginOf_62 : decode cX0_marginOf 62 = .ok (.iload_n 2, 1) := by decide +kernel
theorem dX0_marginOf_63 : decode cX0_marginOf 63 = .ok (.ireturn, 1) := by decide +kernel
theorem dX0_marginBy_0 : decode cX0_marginBy 0 = .ok (.sipush 999, 3) := by decide +kernel
theorem dX0_marginBy_3 : decode cX0_marginBy 3 = .ok (.istore_n 2, 1) := by decide +kernel
theorem dX0_marginBy_4 : decode cX0_marginBy 4 = .ok (.iconst 0, 1) := by decide +kernel
theorem dX0_marginBy_5 : decode cX0_marginBy 5 = .ok (.istore_n 3, 1) := by decide +kernel
theorem dX0_marginBy_6 : decode cX0_marginBy 6 = .ok (.iload_n 3, 1) := by decide +kernel
theorem dX0_marginBy_7 : decode cX0_marginBy 7 = .ok (.aload_n 0, 1) := by decide +kernel
theorem dX0_marginBy_8 : decode cX0_marginBy 8 = .ok (.getfield 33, 3) := by decide +kernel
theorem dX0_marginBy_11 : decode cX0_marginBy 11 = .ok (.if_icmp .ge 39, 3) := by decide +kernel
theorem dX0_marginBy_14 : decode cX0_marginBy 14 = .ok (.aload_n 0, 1) := by decide +kernel
theorem dX0_marginBy_15 : decode cX0_marginBy 15 = .ok (.getfield 40, 3) := by decide +kernel
theorem dX0_marginBy_18 : decode cX0_marginBy 18 = .ok (.iload_n 3, 1) := by decide +kernel
theorem dX0_marginBy_19 : decode cX0_marginBy 19 = .ok (.lushr, 1) := by decide +kernel
theorem dX0_marginBy_20 : decode cX0_marginBy 20 = .ok (.lconst 1, 1) := by decide +kernel
theorem dX0_marginBy_21 : decode cX0_marginBy 21 = .ok (.land, 1) := by decide +kernel
theorem dX0_marginBy_22 : decode cX0_marginBy 22 = .ok (.lconst 1, 1) := by decide +kernel
theorem dX0_marginBy_23 : decode cX0_marginBy 23 = .ok (.lcmp, 1) := by decide +kernel
theorem dX0_marginBy_24 : decode cX0_marginBy 24 = .ok (.ifCond .ne 20, 3) := by decide +kernel
theorem dX0_marginBy_27 : decode cX0_marginBy 27 = .ok (.iload_n 2, 1) := by decide +kernel
theorem dX0_marginBy_28 : decode cX0_marginBy 28 = .ok (.aload_n 0, 1) := by decide +kernel
theorem dX0_marginBy_29 : decode cX0_marginBy 29 = .ok (.iload_n 3, 1) := by decide +kernel
theorem dX0_marginBy_30 : decode cX0_marginBy 30 = .ok (.invokevirtual 69, 3) := by decide +kernel
theorem dX0_marginBy_33 : decode cX0_marginBy 33 = .ok (.aload_n 0, 1) := by decide +kernel
theorem dX0_marginBy_34 : decode cX0_marginBy 34 = .ok (.iload_n 1, 1) := by decide +kernel
theorem dX0_marginBy_35 : decode cX0_marginBy 35 = .ok (.iload_n 3, 1) := by decide +kernel
theorem dX0_marginBy_36 : decode cX0_marginBy 36 = .ok (.invokevirtual 63, 3) := by decide +kernel
theorem dX0_marginBy_39 : decode cX0_marginBy 39 = .ok (.isub, 1) := by decide +kernel
theorem dX0_marginBy_40 : decode cX0_marginBy 40 = .ok (.invokestatic 27, 3) := by decide +kernel
theorem dX0_marginBy_43 : decode cX0_marginBy 43 = .ok (.istore_n 2, 1) := by decide +kernel
theorem dX0_marginBy_44 : decode cX0_marginBy 44 = .ok (.iinc 3 1, 3) := by decide +kernel
theorem dX0_marginBy_47 : decode cX0_marginBy 47 = .ok (.goto (-41), 3) := by decide +kernel
theorem dX0_marginBy_50 : decode cX0_marginBy 50 = .ok (.iload_n 2, 1) := by decide +kernel
theorem dX0_marginBy_51 : decode cX0_marginBy 51 = .ok (.ireturn, 1) := by decide +kernel
theorem dX0_holds_0 : decode cX0_holds 0 = .ok (.aload_n 0, 1) := by decide +kernel
theorem dX0_holds_1 : decode cX0_holds 1 = .ok (.iload_n 1, 1) := by decide +kernel
theorem dX0_holds_2 : decode cX0_holds 2 = .ok (.invokevirtual 83, 3) := by decide +kernel
theorem dX0_holds_5 : decode cX0_holds 5 = .ok (.ifCond .le 7, 3) := by decide +kernel
theorem dX0_holds_8 : decode cX0_holds 8 = .ok (.iconst 1, 1) := by decide +kernel
theorem dX0_holds_9 : decode cX0_holds 9 = .ok (.goto 4, 3) := by decide +kernel
theorem dX0_holds_12 : decode cX0_holds 12 = .ok (.iconst 0, 1) := by decide +kernel
theorem dX0_holds_13 : decode cX0_holds 13 = .ok (.ireturn, 1) := by decide +kernel
theorem dX1_init_0 : decode cX1_init 0 = .ok (.aload_n 0, 1) := by decide +kernel
theorem dX1_init_1 : decode cX1_init 1 = .ok (.invokespecial 3, 3) := by decide +kernel
theorem dX1_init_4 : decode cX1_init 4 = .ok (.aload_n 0, 1) := by decide +kernel
theorem dX1_init_5 : decode cX1_init 5 = .ok (.bipush 42, 2) := by decide +kernel
theorem dX1_init_7 : decode cX1_init 7 = .ok (.newarray .int, 2) := by decide +kernel
theorem dX1_init_9 : decode cX1_init 9 = .ok (.putfield 11, 3) := by decide +kernel
theorem dX1_init_12 : decode cX1_init 12 = .ok (.aload_n 0, 1) := by decide +kernel
theorem dX1_init_13 : decode cX1_init 13 = .ok (.iconst 4, 1) := by decide +kernel
theorem dX1_init_14 : decode cX1_init 14 = .ok (.iconst 4, 1) := by decide +kernel
theorem dX1_init_15 : decode cX1_init 15 = .ok (.invokevirtual 15, 3) := by decide +kernel
theorem dX1_init_18 : decode cX1_init 18 = .ok (.return_, 1) := by decide +kernel
theorem dX1_lay_0 : decode cX1_lay 0 = .ok (.aload_n 0, 1) := by decide +kernel
theorem dX1_lay_1 : decode cX1_lay 1 = .ok (.iload_n 1, 1) := by decide +kernel
theorem dX1_lay_2 : decode cX1_lay 2 = .ok (.putfield 19, 3) := by decide +kernel
theorem dX1_lay_5 : decode cX1_lay 5 = .ok (.aload_n 0, 1) := by decide +kernel
theorem dX1_lay_6 : decode cX1_lay 6 = .ok (.iload_n 2, 1) := by decide +kernel
theorem dX1_lay_7 : decode cX1_lay 7 = .ok (.putfield 23, 3) := by decide +kernel
theorem dX1_lay_10 : decode cX1_lay 10 = .ok (.aload_n 0, 1) := by decide +kernel
theorem dX1_lay_11 : decode cX1_lay 11 = .ok (.iconst 2, 1) := by decide +kernel
theorem dX1_lay_12 : decode cX1_lay 12 = .ok (.putfield 26, 3) := by decide +kernel
theorem dX1_lay_15 : decode cX1_lay 15 = .ok (.aload_n 0, 1) := by decide +kernel
theorem dX1_lay_16 : decode cX1_lay 16 = .ok (.iconst 0, 1) := by decide +kernel
theorem dX1_lay_17 : decode cX1_lay 17 = .ok (.putfield 29, 3) := by decide +kernel
theorem dX1_lay_20 : decode cX1_lay 20 = .ok (.aload_n 0, 1) := by decide +kernel
theorem dX1_lay_21 : decode cX1_lay 21 = .ok (.bipush 50, 2) := by decide +kernel
theorem dX1_lay_23 : decode cX1_lay 23 = .ok (.putfield 32, 3) := by decide +kernel
theorem dX1_lay_26 : decode cX1_lay 26 = .ok (.aload_n 0, 1) := by decide +kernel
theorem dX1_lay_27 : decode cX1_lay 27 = .ok (.iconst 0, 1) := by decide +kernel
theorem dX1_lay_28 : decode cX1_lay 28 = .ok (.putfield 35, 3) := by decide +kernel
theorem dX1_lay_31 : decode cX1_lay 31 = .ok (.aload_n 0, 1) := by decide +kernel
theorem dX1_lay_32 : decode cX1_lay 32 = .ok (.lconst 0, 1) := by decide +kernel
theorem dX1_lay_33 : decode cX1_lay 33 = .ok (.putfield 38, 3) := by decide +kernel
theorem dX1_lay_36 : decode cX1_lay 36 = .ok (.aload_n 0, 1) := by decide +kernel
theorem dX1_lay_37 : decode cX1_lay 37 = .ok (.lconst 0, 1) := by decide +kernel
theorem dX1_lay_38 : decode cX1_lay 38 = .ok (.putfield 42, 3) := by decide +kernel
theorem dX1_lay_41 : decode cX1_lay 41 = .ok (.return_, 1) := by decide +kernel
theorem dX1_become_0 : decode cX1_become 0 = .ok (.aload_n 0, 1) := by decide +kernel
theorem dX1_become_1 : decode cX1_become 1 = .ok (.aload_n 1, 1) := by decide +kernel
theorem dX1_become_2 : decode cX1_become 2 = .ok (.getfield 19, 3) := by decide +kernel
theorem dX1_become_5 : decode cX1_become 5 = .ok (.putfield 19, 3) := by decide +kernel
theorem dX1_become_8 : decode cX1_become 8 = .ok (.aload_n 0, 1) := by decide +kernel
theorem dX1_become_9 : decode cX1_become 9 = .ok (.aload_n 1, 1) := by decide +kernel
theorem dX1_become_10 : decode cX1_become 10 = .ok (.getfield 23, 3) := by decide +kernel
theorem dX1_become_13 : decode cX1_become 13 = .ok (.putfield 23, 3) := by decide +kernel
theorem dX1_become_16 : decode cX1_become 16 = .ok (.aload_n 0, 1) := by decide +kernel
theorem dX1_become_17 : decode cX1_become 17 = .ok (.aload_n 1, 1) := by decide +kernel
theorem dX1_become_18 : decode cX1_become 18 = .ok (.getfield 26, 3) := by decide +kernel
theorem dX1_become_21 : decode cX1_become 21 = .ok (.putfield 26, 3) := by decide +kernel
theorem dX1_become_24 : decode cX1_become 24 = .ok (.aload_n 0, 1) := by decide +kernel
theorem dX1_become_25 : decode cX1_become 25 = .ok (.aload_n 1, 1) := by decide +kernel
theorem dX1_become_26 : decode cX1_become 26 = .ok (.getfield 29, 3) := by decide +kernel
theorem dX1_become_29 : decode cX1_become 29 = .ok (.putfield 29, 3) := by decide +kernel
theorem dX1_become_32 : decode cX1_become 32 = .ok (.aload_n 0, 1) := by decide +kernel
theorem dX1_become_33 : decode cX1_become 33 = .ok (.aload_n 1, 1) := by decide +kernel
theorem dX1_become_34 : decode cX1_become 34 = .ok (.getfield 32, 3) := by decide +kernel
theorem dX1_become_37 : decode cX1_become 37 = .ok (.putfield 32, 3) := by decide +kernel
theorem dX1_become_40 : decode cX1_become 40 = .ok (.aload_n 0, 1) := by decide +kernel
theorem dX1_become_41 : decode cX1_become 41 = .ok (.aload_n 1, 1) := by decide +kernel
theorem dX1_become_42 : decode cX1_become 42 = .ok (.getfield 35, 3) := by decide +kernel
theorem dX1_become_45 : decode cX1_become 45 = .ok (.putfield 35, 3) := by decide +kernel
theorem dX1_become_48 : decode cX1_become 48 = .ok (.aload_n 0, 1) := by decide +kernel
theorem dX1_become_49 : decode cX1_become 49 = .ok (.aload_n 1, 1) := by decide +kernel
theorem dX1_become_50 : decode cX1_become 50 = .ok (.getfield 38, 3) := by decide +kernel
theorem dX1_become_53 : decode cX1_become 53 = .ok (.putfield 38, 3) := by decide +kernel
theorem dX1_become_56 : decode cX1_become 56 = .ok (.aload_n 0, 1) := by decide +kernel
theorem dX1_become_57 : decode cX1_become 57 = .ok (.aload_n 1, 1) := by decide +kernel
theorem dX1_become_58 : decode cX1_become 58 = .ok (.getfield 42, 3) := by decide +kernel
theorem dX1_become_61 : decode cX1_become 61 = .ok (.putfield 42, 3) := by decide +kernel
theorem dX1_become_64 : decode cX1_become 64 = .ok (.aload_n 1, 1) := by decide +kernel
theorem dX1_become_65 : decode cX1_become 65 = .ok (.getfield 11, 3) := by decide +kernel
theorem dX1_become_68 : decode cX1_become 68 = .ok (.iconst 0, 1) := by decide +kernel
theorem dX1_become_69 : decode cX1_become 69 = .ok (.aload_n 0, 1) := by decide +kernel
theorem dX1_become_70 : decode cX1_become 70 = .ok (.getfield 11, 3) := by decide +kernel
theorem dX1_become_73 : decode cX1_become 73 = .ok (.iconst 0, 1) := by decide +kernel
theorem dX1_become_74 : decode cX1_become 74 = .ok (.aload_n 0, 1) := by decide +kernel
theorem dX1_become_75 : decode cX1_become 75 = .ok (.getfield 11, 3) := by decide +kernel
theorem dX1_become_78 : decode cX1_become 78 = .ok (.arraylength, 1) := by decide +kernel
theorem dX1_become_79 : decode cX1_become 79 = .ok (.invokestatic 45, 3) := by decide +kernel
theorem dX1_become_82 : decode cX1_become 82 = .ok (.return_, 1) := by decide +kernel
theorem dX1_places_0 : decode cX1_places 0 = .ok (.aload_n 0, 1) := by decide +kernel
theorem dX1_places_1 : decode cX1_places 1 = .ok (.getfield 19, 3) := by decide +kernel
theorem dX1_places_4 : decode cX1_places 4 = .ok (.aload_n 0, 1) := by decide +kernel
theorem dX1_places_5 : decode cX1_places 5 = .ok (.getfield 23, 3) := by decide +kernel
theorem dX1_places_8 : decode cX1_places 8 = .ok (.imul, 1) := by decide +kernel
theorem dX1_places_9 : decode cX1_places 9 = .ok (.ireturn, 1) := by decide +kernel
theorem dX1_hasPlace_0 : decode cX1_hasPlace 0 = .ok (.iload_n 1, 1) := by decide +kernel
theorem dX1_hasPlace_1 : decode cX1_hasPlace 1 = .ok (.ifCond .lt 15, 3) := by decide +kernel
theorem dX1_hasPlace_4 : decode cX1_hasPlace 4 = .ok (.iload_n 1, 1) := by decide +kernel
theorem dX1_hasPlace_5 : decode cX1_hasPlace 5 = .ok (.aload_n 0, 1) := by decide +kernel
theorem dX1_hasPlace_6 : decode cX1_hasPlace 6 = .ok (.invokevirtual 51, 3) := by decide +kernel
theorem dX1_hasPlace_9 : decode cX1_hasPlace 9 = .ok (.if_icmp .ge 7, 3) := by decide +kernel
theorem dX1_hasPlace_12 : decode cX1_hasPlace 12 = .ok (.iconst 1, 1) := by decide +kernel
theorem dX1_hasPlace_13 : decode cX1_hasPlace 13 = .ok (.goto 4, 3) := by decide +kernel
theorem dX1_hasPlace_16 : decode cX1_hasPlace 16 = .ok (.iconst 0, 1) := by decide +kernel
theorem dX1_hasPlace_17 : decode cX1_hasPlace 17 = .ok (.ireturn, 1) := by decide +kernel
theorem dX1_isOfWalk_0 : decode cX1_isOfWalk 0 = .ok (.aload_n 0, 1) := by decide +kernel
theorem dX1_isOfWalk_1 : decode cX1_isOfWalk 1 = .ok (.getfield 38, 3) := by decide +kernel
theorem dX1_isOfWalk_4 : decode cX1_isOfWalk 4 = .ok (.iload_n 1, 1) := by decide +kernel
theorem dX1_isOfWalk_5 : decode cX1_isOfWalk 5 = .ok (.lushr, 1) := by decide +kernel
theorem dX1_isOfWalk_6 : decode cX1_isOfWalk 6 = .ok (.lconst 1, 1) := by decide +kernel
theorem dX1_isOfWalk_7 : decode cX1_isOfWalk 7 = .ok (.land, 1) := by decide +kernel
theorem dX1_isOfWalk_8 : decode cX1_isOfWalk 8 = .ok (.lconst 1, 1) := by decide +kernel
theorem dX1_isOfWalk_9 : decode cX1_isOfWalk 9 = .ok (.lcmp, 1) := by decide +kernel
theorem dX1_isOfWalk_10 : decode cX1_isOfWalk 10 = .ok (.ifCond .ne 7, 3) := by decide +kernel
theorem dX1_isOfWalk_13 : decode cX1_isOfWalk 13 = .ok (.iconst 1, 1) := by decide +kernel
theorem dX1_isOfWalk_14 : decode cX1_isOfWalk 14 = .ok (.goto 4, 3) := by decide +kernel
theorem dX1_isOfWalk_17 : decode cX1_isOfWalk 17 = .ok (.iconst 0, 1) := by decide +kernel
theorem dX1_isOfWalk_18 : decode cX1_isOfWalk 18 = .ok (.ireturn, 1) := by decide +kernel
theorem dX1_hasHedge_0 : decode cX1_hasHedge 0 = .ok (.aload_n 0, 1) := by decide +kernel
theorem dX1_hasHedge_1 : decode cX1_hasHedge 1 = .ok (.getfield 42, 3) := by decide +kernel
theorem dX1_hasHedge_4 : decode cX1_hasHedge 4 = .ok (.iload_n 1, 1) := by decide +kernel
theorem dX1_hasHedge_5 : decode cX1_hasHedge 5 = .ok (.lushr, 1) := by decide +kernel
theorem dX1_hasHedge_6 : decode cX1_hasHedge 6 = .ok (.lconst 1, 1) := by decide +kernel
theorem dX1_hasHedge_7 : decode cX1_hasHedge 7 = .ok (.land, 1) := by decide +kernel
theorem dX1_hasHedge_8 : decode cX1_hasHedge 8 = .ok (.lconst 1, 1) := by decide +kernel
theorem dX1_hasHedge_9 : decode cX1_hasHedge 9 = .ok (.lcmp, 1) := by decide +kernel
theorem dX1_hasHedge_10 : decode cX1_hasHedge 10 = .ok (.ifCond .ne 7, 3) := by decide +kernel
theorem dX1_hasHedge_13 : decode cX1_hasHedge 13 = .ok (.iconst 1, 1) := by decide +kernel
theorem dX1_hasHedge_14 : decode cX1_hasHedge 14 = .ok (.goto 4, 3) := by decide +kernel
theorem dX1_hasHedge_17 : decode cX1_hasHedge 17 = .ok (.iconst 0, 1) := by decide +kernel
theorem dX1_hasHedge_18 : decode cX1_hasHedge 18 = .ok (.ireturn, 1) := by decide +kernel
theorem dX1_addHedge_0 : decode cX1_addHedge 0 = .ok (.aload_n 0, 1) := by decide +kernel
theorem dX1_addHedge_1 : decode cX1_addHedge 1 = .ok (.dup, 1) := by decide +kernel
theorem dX1_addHedge_2 : decode cX1_addHedge 2 = .ok (.getfield 42, 3) := by decide +kernel
theorem dX1_addHedge_5 : decode cX1_addHedge 5 = .ok (.lconst 1, 1) := by decide +kernel
theorem dX1_addHedge_6 : decode cX1_addHedge 6 = .ok (.iload_n 1, 1) := by decide +kernel
theorem dX1_addHedge_7 : decode cX1_addHedge 7 = .ok (.lshl, 1) := by decide +kernel
theorem dX1_addHedge_8 : decode cX1_addHedge 8 = .ok (.lor, 1) := by decide +kernel
theorem dX1_addHedge_9 : decode cX1_addHedge 9 = .ok (.putfield 42, 3) := by decide +kernel
theorem dX1_addHedge_12 : decode cX1_addHedge 12 = .ok (.return_, 1) := by decide +kernel
theorem dX1_addWalk_0 : decode cX1_addWalk 0 = .ok (.iload_n 1, 1) := by decide +kernel
theorem dX1_addWalk_1 : decode cX1_addWalk 1 = .ok (.istore_n 3, 1) := by decide +kernel
theorem dX1_addWalk_2 : decode cX1_addWalk 2 = .ok (.iload_n 3, 1) := by decide +kernel
theorem dX1_addWalk_3 : decode cX1_addWalk 3 = .ok (.iload_n 2, 1) := by decide +kernel
theorem dX1_addWalk_4 : decode cX1_addWalk 4 = .ok (.if_icmp .gt 27, 3) := by decide +kernel
theorem dX1_addWalk_7 : decode cX1_addWalk 7 = .ok (.iload_n 3, 1) := by decide +kernel
theorem dX1_addWalk_8 : decode cX1_addWalk 8 = .ok (.bipush 36, 2) := by decide +kernel
theorem dX1_addWalk_10 : decode cX1_addWalk 10 = .ok (.if_icmp .ge 21, 3) := by decide +kernel
theorem dX1_addWalk_13 : decode cX1_addWalk 13 = .ok (.aload_n 0, 1) := by decide +kernel
theorem dX1_addWalk_14 : decode cX1_addWalk 14 = .ok (.dup, 1) := by decide +kernel
theorem dX1_addWalk_15 : decode cX1_addWalk 15 = .ok (.getfield 38, 3) := by decide +kernel
theorem dX1_addWalk_18 : decode cX1_addWalk 18 = .ok (.lconst 1, 1) := by decide +kernel
theorem dX1_addWalk_19 : decode cX1_addWalk 19 = .ok (.iload_n 3, 1) := by decide +kernel
theorem dX1_addWalk_20 : decode cX1_addWalk 20 = .ok (.lshl, 1) := by decide +kernel
theorem dX1_addWalk_21 : decode cX1_addWalk 21 = .ok (.lor, 1) := by decide +kernel
theorem dX1_addWalk_22 : decode cX1_addWalk 22 = .ok (.putfield 38, 3) := by decide +kernel
theorem dX1_addWalk_25 : decode cX1_addWalk 25 = .ok (.iinc 3 1, 3) := by decide +kernel
theorem dX1_addWalk_28 : decode cX1_addWalk 28 = .ok (.goto (-26), 3) := by decide +kernel
theorem dX1_addWalk_31 : decode cX1_addWalk 31 = .ok (.return_, 1) := by decide +kernel
theorem dX1_leastOfWalk_0 : decode cX1_leastOfWalk 0 = .ok (.iconst 0, 1) := by decide +kernel
theorem dX1_leastOfWalk_1 : decode cX1_leastOfWalk 1 = .ok (.istore_n 1, 1) := by decide +kernel
theorem dX1_leastOfWalk_2 : decode cX1_leastOfWalk 2 = .ok (.iload_n 1, 1) := by decide +kernel
theorem dX1_leastOfWalk_3 : decode cX1_leastOfWalk 3 = .ok (.aload_n 0, 1) := by decide +kernel
theorem dX1_leastOfWalk_4 : decode cX1_leastOfWalk 4 = .ok (.invokevirtual 51, 3) := by decide +kernel
theorem dX1_leastOfWalk_7 : decode cX1_leastOfWalk 7 = .ok (.if_icmp .ge 19, 3) := by decide +kernel
theorem dX1_leastOfWalk_10 : decode cX1_leastOfWalk 10 = .ok (.aload_n 0, 1) := by decide +kernel
theorem dX1_leastOfWalk_11 : decode cX1_leastOfWalk 11 = .ok (.iload_n 1, 1) := by decide +kernel
theorem dX1_leastOfWalk_12 : decode cX1_leastOfWalk 12 = .ok (.invokevirtual 55, 3) := by decide +kernel
theorem dX1_leastOfWalk_15 : decode cX1_leastOfWalk 15 = .ok (.ifCond .eq 5, 3) := by decide +kernel
theorem dX1_leastOfWalk_18 : decode cX1_leastOfWalk 18 = .ok (.iload_n 1, 1) := by decide +kernel
theorem dX1_leastOfWalk_19 : decode cX1_leastOfWalk 19 = .ok (.ireturn, 1) := by decide +kernel
theorem dX1_leastOfWalk_20 : decode cX1_leastOfWalk 20 = .ok (.iinc 1 1, 3) := by decide +kernel
theorem dX1_leastOfWalk_23 : decode cX1_leastOfWalk 23 = .ok (.goto (-21), 3) := by decide +kernel
theorem dX1_leastOfWalk_26 : decode cX1_leastOfWalk 26 = .ok (.iconst (-1), 1) := by decide +kernel
theorem dX1_leastOfWalk_27 : decode cX1_leastOfWalk 27 = .ok (.ireturn, 1) := by decide +kernel
theorem dX1_column_0 : decode cX1_column 0 = .ok (.aload_n 0, 1) := by decide +kernel
theorem dX1_column_1 : decode cX1_column 1 = .ok (.getfield 19, 3) := by decide +kernel
theorem dX1_column_4 : decode cX1_column 4 = .ok (.iconst 1, 1) := by decide +kernel
theorem dX1_column_5 : decode cX1_column 5 = .ok (.if_icmp .ge 7, 3) := by decide +kernel
theorem dX1_column_8 : decode cX1_column 8 = .ok (.iconst 0, 1) := by decide +kernel
theorem dX1_column_9 : decode cX1_column 9 = .ok (.goto 9, 3) := by decide +kernel
theorem dX1_column_12 : decode cX1_column 12 = .ok (.iload_n 1, 1) := by decide +kernel
theorem dX1_column_13 : decode cX1_column 13 = .ok (.aload_n 0, 1) := by decide +kernel
theorem dX1_column_14 : decode cX1_column 14 = .ok (.getfield 19, 3) := by decide +kernel
theorem dX1_column_17 : decode cX1_column 17 = .ok (.irem, 1) := by decide +kernel
theorem dX1_column_18 : decode cX1_column 18 = .ok (.ireturn, 1) := by decide +kernel
theorem dX1_row_0 : decode cX1_row 0 = .ok (.aload_n 0, 1) := by decide +kernel
theorem dX1_row_1 : decode cX1_row 1 = .ok (.getfield 19, 3) := by decide +kernel
theorem dX1_row_4 : decode cX1_row 4 = .ok (.iconst 1, 1) := by decide +kernel
theorem dX1_row_5 : decode cX1_row 5 = .ok (.if_icmp .ge 7, 3) := by decide +kernel
theorem dX1_row_8 : decode cX1_row 8 = .ok (.iconst 0, 1) := by decide +kernel
theorem dX1_row_9 : decode cX1_row 9 = .ok (.goto 9, 3) := by decide +kernel
theorem dX1_row_12 : decode cX1_row 12 = .ok (.iload_n 1, 1) := by decide +kernel
theorem dX1_row_13 : decode cX1_row 13 = .ok (.aload_n 0, 1) := by decide +kernel
theorem dX1_row_14 : decode cX1_row 14 = .ok (.getfield 19, 3) := by decide +kernel
theorem dX1_row_17 : decode cX1_row 17 = .ok (.idiv, 1) := by decide +kernel
theorem dX1_row_18 : decode cX1_row 18 = .ok (.ireturn, 1) := by decide +kernel
theorem dX1_far_0 : decode cX1_far 0 = .ok (.aload_n 0, 1) := by decide +kernel
theorem dX1_far_1 : decode cX1_far 1 = .ok (.iload_n 1, 1) := by decide +kernel
theorem dX1_far_2 : decode cX1_far 2 = .ok (.invokevirtual 59, 3) := by decide +kernel
theorem dX1_far_5 : decode cX1_far 5 = .ok (.aload_n 0, 1) := by decide +kernel
theorem dX1_far_6 : decode cX1_far 6 = .ok (.iload_n 2, 1) := by decide +kernel
theorem dX1_far_7 : decode cX1_far 7 = .ok (.invokevirtual 59, 3) := by decide +kernel
theorem dX1_far_10 : decode cX1_far 10 = .ok (.isub, 1) := by decide +kernel
theorem dX1_far_11 : decode cX1_far 11 = .ok (.invokestatic 63, 3) := by decide +kernel
theorem dX1_far_14 : decode cX1_far 14 = .ok (.aload_n 0, 1) := by decide +kernel
theorem dX1_far_15 : decode cX1_far 15 = .ok (.iload_n 1, 1) := by decide +kernel
theorem dX1_far_16 : decode cX1_far 16 = .ok (.invokevirtual 68, 3) := by decide +kernel
theorem dX1_far_19 : decode cX1_far 19 = .ok (.aload_n 0, 1) := by decide +kernel
theorem dX1_far_20 : decode cX1_far 20 = .ok (.iload_n 2, 1) := by decide +kernel
theorem dX1_far_21 : decode cX1_far 21 = .ok (.invokevirtual 68, 3) := by decide +kernel
theorem dX1_far_24 : decode cX1_far 24 = .ok (.isub, 1) := by decide +kernel
theorem dX1_far_25 : decode cX1_far 25 = .ok (.invokestatic 63, 3) := by decide +kernel
theorem dX1_far_28 : decode cX1_far 28 = .ok (.iadd, 1) := by decide +kernel
theorem dX1_far_29 : decode cX1_far 29 = .ok (.ireturn, 1) := by decide +kernel
theorem dX1_around_0 : decode cX1_around 0 = .ok (.lconst 0, 1) := by decide +kernel
theorem dX1_around_1 : decode cX1_around 1 = .ok (.lstore_n 3, 1) := by decide +kernel
theorem dX1_around_2 : decode cX1_around 2 = .ok (.iconst 0, 1) := by decide +kernel
theorem dX1_around_3 : decode cX1_around 3 = .ok (.istore 5, 2) := by decide +kernel
theorem dX1_around_5 : decode cX1_around 5 = .ok (.iload 5, 2) := by decide +kernel
theorem dX1_around_7 : decode cX1_around 7 = .ok (.aload_n 0, 1) := by decide +kernel
theorem dX1_around_8 : decode cX1_around 8 = .ok (.invokevirtual 51, 3) := by decide +kernel
theorem dX1_around_11 : decode cX1_around 11 = .ok (.if_icmp .ge 29, 3) := by decide +kernel
theorem dX1_around_14 : decode cX1_around 14 = .ok (.lload_n 3, 1) := by decide +kernel
theorem dX1_around_15 : decode cX1_around 15 = .ok (.aload_n 0, 1) := by decide +kernel
theorem dX1_around_16 : decode cX1_around 16 = .ok (.iload 5, 2) := by decide +kernel
theorem dX1_around_18 : decode cX1_around 18 = .ok (.invokevirtual 59, 3) := by decide +kernel
theorem dX1_around_21 : decode cX1_around 21 = .ok (.ifCond .ne 10, 3) := by decide +kernel
theorem dX1_around_24 : decode cX1_around 24 = .ok (.lconst 1, 1) := by decide +kernel
theorem dX1_around_25 : decode cX1_around 25 = .ok (.iload 5, 2) := by decide +kernel
theorem dX1_around_27 : decode cX1_around 27 = .ok (.lshl, 1) := by decide +kernel
theorem dX1_around_28 : decode cX1_around 28 = .ok (.goto 4, 3) := by decide +kernel
theorem dX1_around_31 : decode cX1_around 31 = .ok (.lconst 0, 1) := by decide +kernel
theorem dX1_around_32 : decode cX1_around 32 = .ok (.lor, 1) := by decide +kernel
theorem dX1_around_33 : decode cX1_around 33 = .ok (.lstore_n 3, 1) := by decide +kernel
theorem dX1_around_34 : decode cX1_around 34 = .ok (.iinc 5 1, 3) := by decide +kernel
theorem dX1_around_37 : decode cX1_around 37 = .ok (.goto (-32), 3) := by decide +kernel
theorem dX1_around_40 : decode cX1_around 40 = .ok (.lload_n 3, 1) := by decide +kernel
theorem dX1_around_41 : decode cX1_around 41 = .ok (.aload_n 0, 1) := by decide +kernel
theorem dX1_around_42 : decode cX1_around 42 = .ok (.getfield 19, 3) := by decide +kernel
theorem dX1_around_45 : decode cX1_around 45 = .ok (.iconst 1, 1) := by decide +kernel
theorem dX1_around_46 : decode cX1_around 46 = .ok (.isub, 1) := by decide +kernel
theorem dX1_around_47 : decode cX1_around 47 = .ok (.lshl, 1) := by decide +kernel
theorem dX1_around_48 : decode cX1_around 48 = .ok (.lstore 5, 2) := by decide +kernel
theorem dX1_around_50 : decode cX1_around 50 = .ok (.lload_n 1, 1) := by decide +kernel
theorem dX1_around_51 : decode cX1_around 51 = .ok (.lload_n 1, 1) := by decide +kernel
theorem dX1_around_52 : decode cX1_around 52 = .ok (.aload_n 0, 1) := by decide +kernel
theorem dX1_around_53 : decode cX1_around 53 = .ok (.getfield 19, 3) := by decide +kernel
theorem dX1_around_56 : decode cX1_around 56 = .ok (.lshl, 1) := by decide +kernel
theorem dX1_around_57 : decode cX1_around 57 = .ok (.lor, 1) := by decide +kernel
theorem dX1_around_58 : decode cX1_around 58 = .ok (.lload_n 1, 1) := by decide +kernel
theorem dX1_around_59 : decode cX1_around 59 = .ok (.aload_n 0, 1) := by decide +kernel
theorem dX1_around_60 : decode cX1_around 60 = .ok (.getfield 19, 3) := by decide +kernel
theorem dX1_around_63 : decode cX1_around 63 = .ok (.lushr, 1) := by decide +kernel
theorem dX1_around_64 : decode cX1_around 64 = .ok (.lor, 1) := by decide +kernel
theorem dX1_around_65 : decode cX1_around 65 = .ok (.lload_n 1, 1) := by decide +kernel
theorem dX1_around_66 : decode cX1_around 66 = .ok (.lload 5, 2) := by decide +kernel
theorem dX1_around_68 : decode cX1_around 68 = .ok (.ldc2_w 71, 3) := by decide +kernel
theorem dX1_around_71 : decode cX1_around 71 = .ok (.lxor, 1) := by decide +kernel
theorem dX1_around_72 : decode cX1_around 72 = .ok (.land, 1) := by decide +kernel
theorem dX1_around_73 : decode cX1_around 73 = .ok (.iconst 1, 1) := by decide +kernel
theorem dX1_around_74 : decode cX1_around 74 = .ok (.lshl, 1) := by decide +kernel
theorem dX1_around_75 : decode cX1_around 75 = .ok (.lor, 1) := by decide +kernel
theorem dX1_around_76 : decode cX1_around 76 = .ok (.lload_n 1, 1) := by decide +kernel
theorem dX1_around_77 : decode cX1_around 77 = .ok (.lload_n 3, 1) := by decide +kernel
theorem dX1_around_78 : decode cX1_around 78 = .ok (.ldc2_w 71, 3) := by decide +kernel
theorem dX1_around_81 : decode cX1_around 81 = .ok (.lxor, 1) := by decide +kernel
theorem dX1_around_82 : decode cX1_around 82 = .ok (.land, 1) := by decide +kernel
theorem dX1_around_83 : decode cX1_around 83 = .ok (.iconst 1, 1) := by decide +kernel
theorem dX1_around_84 : decode cX1_around 84 = .ok (.lushr, 1) := by decide +kernel
theorem dX1_around_85 : decode cX1_around 85 = .ok (.lor, 1) := by decide +kernel
theorem dX1_around_86 : decode cX1_around 86 = .ok (.lreturn, 1) := by decide +kernel
theorem dX1_hasBand_0 : decode cX1_hasBand 0 = .ok (.iload_n 1, 1) := by decide +kernel
theorem dX1_hasBand_1 : decode cX1_hasBand 1 = .ok (.ifCond .lt 15, 3) := by decide +kernel
theorem dX1_hasBand_4 : decode cX1_hasBand 4 = .ok (.iload_n 1, 1) := by decide +kernel
theorem dX1_hasBand_5 : decode cX1_hasBand 5 = .ok (.aload_n 0, 1) := by decide +kernel
theorem dX1_hasBand_6 : decode cX1_hasBand 6 = .ok (.getfield 35, 3) := by decide +kernel
theorem dX1_hasBand_9 : decode cX1_hasBand 9 = .ok (.if_icmp .ge 7, 3) := by decide +kernel
theorem dX1_hasBand_12 : decode cX1_hasBand 12 = .ok (.iconst 1, 1) := by decide +kernel
theorem dX1_hasBand_13 : decode cX1_hasBand 13 = .ok (.goto 4, 3) := by decide +kernel
theorem dX1_hasBand_16 : decode cX1_hasBand 16 = .ok (.iconst 0, 1) := by decide +kernel
theorem dX1_hasBand_17 : decode cX1_hasBand 17 = .ok (.ireturn, 1) := by decide +kernel
theorem dX1_bandSets_0 : decode cX1_bandSets 0 = .ok (.iconst 1, 1) := by decide +kernel
theorem dX1_bandSets_1 : decode cX1_bandSets 1 = .ok (.aload_n 0, 1) := by decide +kernel
theorem dX1_bandSets_2 : decode cX1_bandSets 2 = .ok (.getfield 35, 3) := by decide +kernel
theorem dX1_bandSets_5 : decode cX1_bandSets 5 = .ok (.ishl, 1) := by decide +kernel
theorem dX1_bandSets_6 : decode cX1_bandSets 6 = .ok (.ireturn, 1) := by decide +kernel
theorem dX1_addBand_0 : decode cX1_addBand 0 = .ok (.aload_n 0, 1) := by decide +kernel
theorem dX1_addBand_1 : decode cX1_addBand 1 = .ok (.getfield 35, 3) := by decide +kernel
theorem dX1_addBand_4 : decode cX1_addBand 4 = .ok (.istore 6, 2) := by decide +kernel
theorem dX1_addBand_6 : decode cX1_addBand 6 = .ok (.iload 6, 2) := by decide +kernel
theorem dX1_addBand_8 : decode cX1_addBand 8 = .ok (.bipush 6, 2) := by decide +kernel
theorem dX1_addBand_10 : decode cX1_addBand 10 = .ok (.if_icmp .lt 4, 3) := by decide +kernel
theorem dX1_addBand_13 : decode cX1_addBand 13 = .ok (.return_, 1) := by decide +kernel
theorem dX1_addBand_14 : decode cX1_addBand 14 = .ok (.aload_n 0, 1) := by decide +kernel
theorem dX1_addBand_15 : decode cX1_addBand 15 = .ok (.dup, 1) := by decide +kernel
theorem dX1_addBand_16 : decode cX1_addBand 16 = .ok (.getfield 35, 3) := by decide +kernel
theorem dX1_addBand_19 : decode cX1_addBand 19 = .ok (.iconst 1, 1) := by decide +kernel
theorem dX1_addBand_20 : decode cX1_addBand 20 = .ok (.iadd, 1) := by decide +kernel
theorem dX1_addBand_21 : decode cX1_addBand 21 = .ok (.putfield 35, 3) := by decide +kernel
theorem dX1_addBand_24 : decode cX1_addBand 24 = .ok (.aload_n 0, 1) := by decide +kernel
theorem dX1_addBand_25 : decode cX1_addBand 25 = .ok (.iload 6, 2) := by decide +kernel
theorem dX1_addBand_27 : decode cX1_addBand 27 = .ok (.iconst 0, 1) := by decide +kernel
theorem dX1_addBand_28 : decode cX1_addBand 28 = .ok (.iload_n 1, 1) := by decide +kernel
theorem dX1_addBand_29 : decode cX1_addBand 29 = .ok (.invokevirtual 73, 3) := by decide +kernel
theorem dX1_addBand_32 : decode cX1_addBand 32 = .ok (.aload_n 0, 1) := by decide +kernel
theorem dX1_addBand_33 : decode cX1_addBand 33 = .ok (.iload 6, 2) := by decide +kernel
theorem dX1_addBand_35 : decode cX1_addBand 35 = .ok (.iconst 1, 1) := by decide +kernel
theorem dX1_addBand_36 : decode cX1_addBand 36 = .ok (.iload_n 2, 1) := by decide +kernel
theorem dX1_addBand_37 : decode cX1_addBand 37 = .ok (.invokevirtual 73, 3) := by decide +kernel
theorem dX1_addBand_40 : decode cX1_addBand 40 = .ok (.aload_n 0, 1) := by decide +kernel
theorem dX1_addBand_41 : decode cX1_addBand 41 = .ok (.iload 6, 2) := by decide +kernel
theorem dX1_addBand_43 : decode cX1_addBand 43 = .ok (.iconst 2, 1) := by decide +kernel
theorem dX1_addBand_44 : decode cX1_addBand 44 = .ok (.iload_n 3, 1) := by decide +kernel
theorem dX1_addBand_45 : decode cX1_addBand 45 = .ok (.invokevirtual 73, 3) := by decide +kernel
theorem dX1_addBand_48 : decode cX1_addBand 48 = .ok (.aload_n 0, 1) := by decide +kernel
theorem dX1_addBand_49 : decode cX1_addBand 49 = .ok (.iload 6, 2) := by decide +kernel
theorem dX1_addBand_51 : decode cX1_addBand 51 = .ok (.iconst 3, 1) := by decide +kernel
theorem dX1_addBand_52 : decode cX1_addBand 52 = .ok (.iload 4, 2) := by decide +kernel
theorem dX1_addBand_54 : decode cX1_addBand 54 = .ok (.invokevirtual 73, 3) := by decide +kernel
theorem dX1_addBand_57 : decode cX1_addBand 57 = .ok (.aload_n 0, 1) := by decide +kernel
theorem dX1_addBand_58 : decode cX1_addBand 58 = .ok (.iload 6, 2) := by decide +kernel
theorem dX1_addBand_60 : decode cX1_addBand 60 = .ok (.iconst 4, 1) := by decide +kernel
theorem dX1_addBand_61 : decode cX1_addBand 61 = .ok (.iload 5, 2) := by decide +kernel
theorem dX1_addBand_63 : decode cX1_addBand 63 = .ok (.invokevirtual 73, 3) := by decide +kernel
theorem dX1_addBand_66 : decode cX1_addBand 66 = .ok (.aload_n 0, 1) := by decide +kernel
theorem dX1_addBand_67 : decode cX1_addBand 67 = .ok (.iload 6, 2) := by decide +kernel
theorem dX1_addBand_69 : decode cX1_addBand 69 = .ok (.iconst 5, 1) := by decide +kernel
theorem dX1_addBand_70 : decode cX1_addBand 70 = .ok (.iconst 1, 1) := by decide +kernel
theorem dX1_addBand_71 : decode cX1_addBand 71 = .ok (.invokevirtual 73, 3) := by decide +kernel
theorem dX1_addBand_74 : decode cX1_addBand 74 = .ok (.aload_n 0, 1) := by decide +kernel
theorem dX1_addBand_75 : decode cX1_addBand 75 = .ok (.iload 6, 2) := by decide +kernel
theorem dX1_addBand_77 : decode cX1_addBand 77 = .ok (.bipush 6, 2) := by decide +kernel
theorem dX1_addBand_79 : decode cX1_addBand 79 = .ok (.iconst 0, 1) := by decide +kernel
theorem dX1_addBand_80 : decode cX1_addBand 80 = .ok (.invokevirtual 73, 3) := by decide +kernel
theorem dX1_addBand_83 : decode cX1_addBand 83 = .ok (.return_, 1) := by decide +kernel
theorem dX1_trait_0 : decode cX1_trait 0 = .ok (.iload_n 1, 1) := by decide +kernel
theorem dX1_trait_1 : decode cX1_trait 1 = .ok (.iload_n 2, 1) := by decide +kernel
theorem dX1_trait_2 : decode cX1_trait 2 = .ok (.invokestatic 77, 3) := by decide +kernel
theorem dX1_trait_5 : decode cX1_trait 5 = .ok (.ifCond .eq 17, 3) := by decide +kernel
theorem dX1_trait_8 : decode cX1_trait 8 = .ok (.aload_n 0, 1) := by decide +kernel
theorem dX1_trait_9 : decode cX1_trait 9 = .ok (.getfield 11, 3) := by decide +kernel
theorem dX1_trait_12 : decode cX1_trait 12 = .ok (.iload_n 1, 1) := by decide +kernel
theorem dX1_trait_13 : decode cX1_trait 13 = .ok (.bipush 7, 2) := by decide +kernel
theorem dX1_trait_15 : decode cX1_trait 15 = .ok (.imul, 1) := by decide +kernel
theorem dX1_trait_16 : decode cX1_trait 16 = .ok (.iload_n 2, 1) := by decide +kernel
theorem dX1_trait_17 : decode cX1_trait 17 = .ok (.iadd, 1) := by decide +kernel
theorem dX1_trait_18 : decode cX1_trait 18 = .ok (.iaload, 1) := by decide +kernel
theorem dX1_trait_19 : decode cX1_trait 19 = .ok (.goto 4, 3) := by decide +kernel
theorem dX1_trait_22 : decode cX1_trait 22 = .ok (.iconst 0, 1) := by decide +kernel
theorem dX1_trait_23 : decode cX1_trait 23 = .ok (.ireturn, 1) := by decide +kernel
theorem dX1_setTrait_0 : decode cX1_setTrait 0 = .ok (.iload_n 1, 1) := by decide +kernel
theorem dX1_setTrait_1 : decode cX1_setTrait 1 = .ok (.iload_n 2, 1) := by decide +kernel
theorem dX1_setTrait_2 : decode cX1_setTrait 2 = .ok (.invokestatic 77, 3) := by decide +kernel
theorem dX1_setTrait_5 : decode cX1_setTrait 5 = .ok (.ifCond .eq 15, 3) := by decide +kernel
theorem dX1_setTrait_8 : decode cX1_setTrait 8 = .ok (.aload_n 0, 1) := by decide +kernel
theorem dX1_setTrait_9 : decode cX1_setTrait 9 = .ok (.getfield 11, 3) := by decide +kernel
theorem dX1_setTrait_12 : decode cX1_setTrait 12 = .ok (.iload_n 1, 1) := by decide +kernel
theorem dX1_setTrait_13 : decode cX1_setTrait 13 = .ok (.bipush 7, 2) := by decide +kernel
theorem dX1_setTrait_15 : decode cX1_setTrait 15 = .ok (.imul, 1) := by decide +kernel
theorem dX1_setTrait_16 : decode cX1_setTrait 16 = .ok (.iload_n 2, 1) := by decide +kernel
theorem dX1_setTrait_17 : decode cX1_setTrait 17 = .ok (.iadd, 1) := by decide +kernel
theorem dX1_setTrait_18 : decode cX1_setTrait 18 = .ok (.iload_n 3, 1) := by decide +kernel
theorem dX1_setTrait_19 : decode cX1_setTrait 19 = .ok (.iastore, 1) := by decide +kernel
theorem dX1_setTrait_20 : decode cX1_setTrait 20 = .ok (.return_, 1) := by decide +kernel
theorem dX1_isTrait_0 : decode cX1_isTrait 0 = .ok (.iload_n 0, 1) := by decide +kernel
theorem dX1_isTrait_1 : decode cX1_isTrait 1 = .ok (.ifCond .lt 23, 3) := by decide +kernel
theorem dX1_isTrait_4 : decode cX1_isTrait 4 = .ok (.iload_n 0, 1) := by decide +kernel
theorem dX1_isTrait_5 : decode cX1_isTrait 5 = .ok (.bipush 6, 2) := by decide +kernel
theorem dX1_isTrait_7 : decode cX1_isTrait 7 = .ok (.if_icmp .ge 17, 3) := by decide +kernel
theorem dX1_isTrait_10 : decode cX1_isTrait 10 = .ok (.iload_n 1, 1) := by decide +kernel
theorem dX1_isTrait_11 : decode cX1_isTrait 11 = .ok (.ifCond .lt 13, 3) := by decide +kernel
theorem dX1_isTrait_14 : decode cX1_isTrait 14 = .ok (.iload_n 1, 1) := by decide +kernel
theorem dX1_isTrait_15 : decode cX1_isTrait 15 = .ok (.bipush 7, 2) := by decide +kernel
theorem dX1_isTrait_17 : decode cX1_isTrait 17 = .ok (.if_icmp .ge 7, 3) := by decide +kernel
theorem dX1_isTrait_20 : decode cX1_isTrait 20 = .ok (.iconst 1, 1) := by decide +kernel
theorem dX1_isTrait_21 : decode cX1_isTrait 21 = .ok (.goto 4, 3) := by decide +kernel
theorem dX1_isTrait_24 : decode cX1_isTrait 24 = .ok (.iconst 0, 1) := by decide +kernel
theorem dX1_isTrait_25 : decode cX1_isTrait 25 = .ok (.ireturn, 1) := by decide +kernel
theorem dX1_isOfKind_0 : decode cX1_isOfKind 0 = .ok (.aload_n 0, 1) := by decide +kernel
theorem dX1_isOfKind_1 : decode cX1_isOfKind 1 = .ok (.iload_n 1, 1) := by decide +kernel
theorem dX1_isOfKind_2 : decode cX1_isOfKind 2 = .ok (.iconst 0, 1) := by decide +kernel
theorem dX1_isOfKind_3 : decode cX1_isOfKind 3 = .ok (.invokevirtual 81, 3) := by decide +kernel
theorem dX1_isOfKind_6 : decode cX1_isOfKind 6 = .ok (.istore_n 3, 1) := by decide +kernel
theorem dX1_isOfKind_7 : decode cX1_isOfKind 7 = .ok (.iload_n 2, 1) := by decide +kernel
theorem dX1_isOfKind_8 : decode cX1_isOfKind 8 = .ok (.ifCond .ne 5, 3) := by decide +kernel
theorem dX1_isOfKind_11 : decode cX1_isOfKind 11 = .ok (.iconst 1, 1) := by decide +kernel
theorem dX1_isOfKind_12 : decode cX1_isOfKind 12 = .ok (.ireturn, 1) := by decide +kernel
theorem dX1_isOfKind_13 : decode cX1_isOfKind 13 = .ok (.iload_n 2, 1) := by decide +kernel
theorem dX1_isOfKind_14 : decode cX1_isOfKind 14 = .ok (.iconst 1, 1) := by decide +kernel
theorem dX1_isOfKind_15 : decode cX1_isOfKind 15 = .ok (.if_icmp .ne 16, 3) := by decide +kernel
theorem dX1_isOfKind_18 : decode cX1_isOfKind 18 = .ok (.iload_n 3, 1) := by decide +kernel
theorem dX1_isOfKind_19 : decode cX1_isOfKind 19 = .ok (.iconst 3, 1) := by decide +kernel
theorem dX1_isOfKind_20 : decode cX1_isOfKind 20 = .ok (.if_icmp .eq 7, 3) := by decide +kernel
theorem dX1_isOfKind_23 : decode cX1_isOfKind 23 = .ok (.iconst 1, 1) := by decide +kernel
theorem dX1_isOfKind_24 : decode cX1_isOfKind 24 = .ok (.goto 19, 3) := by decide +kernel
theorem dX1_isOfKind_27 : decode cX1_isOfKind 27 = .ok (.iconst 0, 1) := by decide +kernel
theorem dX1_isOfKind_28 : decode cX1_isOfKind 28 = .ok (.goto 15, 3) := by decide +kernel
theorem dX1_isOfKind_31 : decode cX1_isOfKind 31 = .ok (.iload_n 3, 1) := by decide +kernel
theorem dX1_isOfKind_32 : decode cX1_isOfKind 32 = .ok (.iload_n 2, 1) := by decide +kernel
theorem dX1_isOfKind_33 : decode cX1_isOfKind 33 = .ok (.iconst 1, 1) := by decide +kernel
theorem dX1_isOfKind_34 : decode cX1_isOfKind 34 = .ok (.isub, 1) := by decide +kernel
theorem dX1_isOfKind_35 : decode cX1_isOfKind 35 = .ok (.if_icmp .ne 7, 3) := by decide +kernel
theorem dX1_isOfKind_38 : decode cX1_isOfKind 38 = .ok (.iconst 1, 1) := by decide +kernel
theorem dX1_isOfKind_39 : decode cX1_isOfKind 39 = .ok (.goto 4, 3) := by decide +kernel
theorem dX1_isOfKind_42 : decode cX1_isOfKind 42 = .ok (.iconst 0, 1) := by decide +kernel
theorem dX1_isOfKind_43 : decode cX1_isOfKind 43 = .ok (.ireturn, 1) := by decide +kernel
theorem dX1_bandsAt_0 : decode cX1_bandsAt 0 = .ok (.iconst 0, 1) := by decide +kernel
theorem dX1_bandsAt_1 : decode cX1_bandsAt 1 = .ok (.istore_n 2, 1) := by decide +kernel
theorem dX1_bandsAt_2 : decode cX1_bandsAt 2 = .ok (.iconst 0, 1) := by decide +kernel
theorem dX1_bandsAt_3 : decode cX1_bandsAt 3 = .ok (.istore_n 3, 1) := by decide +kernel
theorem dX1_bandsAt_4 : decode cX1_bandsAt 4 = .ok (.iload_n 3, 1) := by decide +kernel
theorem dX1_bandsAt_5 : decode cX1_bandsAt 5 = .ok (.aload_n 0, 1) := by decide +kernel
theorem dX1_bandsAt_6 : decode cX1_bandsAt 6 = .ok (.getfield 35, 3) := by decide +kernel
theorem dX1_bandsAt_9 : decode cX1_bandsAt 9 = .ok (.if_icmp .ge 29, 3) := by decide +kernel
theorem dX1_bandsAt_12 : decode cX1_bandsAt 12 = .ok (.iload_n 2, 1) := by decide +kernel
theorem dX1_bandsAt_13 : decode cX1_bandsAt 13 = .ok (.aload_n 0, 1) := by decide +kernel
theorem dX1_bandsAt_14 : decode cX1_bandsAt 14 = .ok (.iload_n 3, 1) := by decide +kernel
theorem dX1_bandsAt_15 : decode cX1_bandsAt 15 = .ok (.iconst 1, 1) := by decide +kernel
theorem dX1_bandsAt_16 : decode cX1_bandsAt 16 = .ok (.invokevirtual 81, 3) := by decide +kernel
theorem dX1_bandsAt_19 : decode cX1_bandsAt 19 = .ok (.iload_n 1, 1) := by decide +kernel
theorem dX1_bandsAt_20 : decode cX1_bandsAt 20 = .ok (.if_icmp .ne 9, 3) := by decide +kernel
theorem dX1_bandsAt_23 : decode cX1_bandsAt 23 = .ok (.iconst 1, 1) := by decide +kernel
theorem dX1_bandsAt_24 : decode cX1_bandsAt 24 = .ok (.iload_n 3, 1) := by decide +kernel
theorem dX1_bandsAt_25 : decode cX1_bandsAt 25 = .ok (.ishl, 1) := by decide +kernel
theorem dX1_bandsAt_26 : decode cX1_bandsAt 26 = .ok (.goto 4, 3) := by decide +kernel
theorem dX1_bandsAt_29 : decode cX1_bandsAt 29 = .ok (.iconst 0, 1) := by decide +kernel
theorem dX1_bandsAt_30 : decode cX1_bandsAt 30 = .ok (.ior, 1) := by decide +kernel
theorem dX1_bandsAt_31 : decode cX1_bandsAt 31 = .ok (.istore_n 2, 1) := by decide +kernel
theorem dX1_bandsAt_32 : decode cX1_bandsAt 32 = .ok (.iinc 3 1, 3) := by decide +kernel
theorem dX1_bandsAt_35 : decode cX1_bandsAt 35 = .ok (.goto (-31), 3) := by decide +kernel
theorem dX1_bandsAt_38 : decode cX1_bandsAt 38 = .ok (.iload_n 2, 1) := by decide +kernel
theorem dX1_bandsAt_39 : decode cX1_bandsAt 39 = .ok (.ireturn, 1) := by decide +kernel
theorem dX1_placesOf_0 : decode cX1_placesOf 0 = .ok (.lconst 0, 1) := by decide +kernel
theorem dX1_placesOf_1 : decode cX1_placesOf 1 = .ok (.lstore_n 2, 1) := by decide +kernel
theorem dX1_placesOf_2 : decode cX1_placesOf 2 = .ok (.iconst 0, 1) := by decide +kernel
theorem dX1_placesOf_3 : decode cX1_placesOf 3 = .ok (.istore 4, 2) := by decide +kernel
theorem dX1_placesOf_5 : decode cX1_placesOf 5 = .ok (.iload 4, 2) := by decide +kernel
theorem dX1_placesOf_7 : decode cX1_placesOf 7 = .ok (.aload_n 0, 1) := by decide +kernel
theorem dX1_placesOf_8 : decode cX1_placesOf 8 = .ok (.getfield 35, 3) := by decide +kernel
theorem dX1_placesOf_11 : decode cX1_placesOf 11 = .ok (.if_icmp .ge 34, 3) := by decide +kernel
theorem dX1_placesOf_14 : decode cX1_placesOf 14 = .ok (.lload_n 2, 1) := by decide +kernel
theorem dX1_placesOf_15 : decode cX1_placesOf 15 = .ok (.iload 4, 2) := by decide +kernel
theorem dX1_placesOf_17 : decode cX1_placesOf 17 = .ok (.iload_n 1, 1) := by decide +kernel
theorem dX1_placesOf_18 : decode cX1_placesOf 18 = .ok (.invokestatic 85, 3) := by decide +kernel
theorem dX1_placesOf_21 : decode cX1_placesOf 21 = .ok (.ifCond .eq 15, 3) := by decide +kernel
theorem dX1_placesOf_24 : decode cX1_placesOf 24 = .ok (.lconst 1, 1) := by decide +kernel
theorem dX1_placesOf_25 : decode cX1_placesOf 25 = .ok (.aload_n 0, 1) := by decide +kernel
theorem dX1_placesOf_26 : decode cX1_placesOf 26 = .ok (.iload 4, 2) := by decide +kernel
theorem dX1_placesOf_28 : decode cX1_placesOf 28 = .ok (.iconst 1, 1) := by decide +kernel
theorem dX1_placesOf_29 : decode cX1_placesOf 29 = .ok (.invokevirtual 81, 3) := by decide +kernel
theorem dX1_placesOf_32 : decode cX1_placesOf 32 = .ok (.lshl, 1) := by decide +kernel
theorem dX1_placesOf_33 : decode cX1_placesOf 33 = .ok (.goto 4, 3) := by decide +kernel
theorem dX1_placesOf_36 : decode cX1_placesOf 36 = .ok (.lconst 0, 1) := by decide +kernel
theorem dX1_placesOf_37 : decode cX1_placesOf 37 = .ok (.lor, 1) := by decide +kernel
theorem dX1_placesOf_38 : decode cX1_placesOf 38 = .ok (.lstore_n 2, 1) := by decide +kernel
theorem dX1_placesOf_39 : decode cX1_placesOf 39 = .ok (.iinc 4 1, 3) := by decide +kernel
theorem dX1_placesOf_42 : decode cX1_placesOf 42 = .ok (.goto (-37), 3) := by decide +kernel
theorem dX1_placesOf_45 : decode cX1_placesOf 45 = .ok (.lload_n 2, 1) := by decide +kernel
theorem dX1_placesOf_46 : decode cX1_placesOf 46 = .ok (.lreturn, 1) := by decide +kernel
theorem dX1_worthOf_0 : decode cX1_worthOf 0 = .ok (.iconst 0, 1) := by decide +kernel
theorem dX1_worthOf_1 : decode cX1_worthOf 1 = .ok (.istore_n 2, 1) := by decide +kernel
theorem dX1_worthOf_2 : decode cX1_worthOf 2 = .ok (.iconst 0, 1) := by decide +kernel
theorem dX1_worthOf_3 : decode cX1_worthOf 3 = .ok (.istore_n 3, 1) := by decide +kernel
theorem dX1_worthOf_4 : decode cX1_worthOf 4 = .ok (.iload_n 3, 1) := by decide +kernel
theorem dX1_worthOf_5 : decode cX1_worthOf 5 = .ok (.aload_n 0, 1) := by decide +kernel
theorem dX1_worthOf_6 : decode cX1_worthOf 6 = .ok (.getfield 35, 3) := by decide +kernel
theorem dX1_worthOf_9 : decode cX1_worthOf 9 = .ok (.if_icmp .ge 30, 3) := by decide +kernel
theorem dX1_worthOf_12 : decode cX1_worthOf 12 = .ok (.iload_n 2, 1) := by decide +kernel
theorem dX1_worthOf_13 : decode cX1_worthOf 13 = .ok (.iload_n 3, 1) := by decide +kernel
theorem dX1_worthOf_14 : decode cX1_worthOf 14 = .ok (.iload_n 1, 1) := by decide +kernel
theorem dX1_worthOf_15 : decode cX1_worthOf 15 = .ok (.invokestatic 85, 3) := by decide +kernel
theorem dX1_worthOf_18 : decode cX1_worthOf 18 = .ok (.ifCond .eq 12, 3) := by decide +kernel
theorem dX1_worthOf_21 : decode cX1_worthOf 21 = .ok (.aload_n 0, 1) := by decide +kernel
theorem dX1_worthOf_22 : decode cX1_worthOf 22 = .ok (.iload_n 3, 1) := by decide +kernel
theorem dX1_worthOf_23 : decode cX1_worthOf 23 = .ok (.iconst 5, 1) := by decide +kernel
theorem dX1_worthOf_24 : decode cX1_worthOf 24 = .ok (.invokevirtual 81, 3) := by decide +kernel
theorem dX1_worthOf_27 : decode cX1_worthOf 27 = .ok (.goto 4, 3) := by decide +kernel
theorem dX1_worthOf_30 : decode cX1_worthOf 30 = .ok (.iconst 0, 1) := by decide +kernel
theorem dX1_worthOf_31 : decode cX1_worthOf 31 = .ok (.iadd, 1) := by decide +kernel
theorem dX1_worthOf_32 : decode cX1_worthOf 32 = .ok (.istore_n 2, 1) := by decide +kernel
theorem dX1_worthOf_33 : decode cX1_worthOf 33 = .ok (.iinc 3 1, 3) := by decide +kernel
theorem dX1_worthOf_36 : decode cX1_worthOf 36 = .ok (.goto (-32), 3) := by decide +kernel
theorem dX1_worthOf_39 : decode cX1_worthOf 39 = .ok (.iload_n 2, 1) := by decide +kernel
theorem dX1_worthOf_40 : decode cX1_worthOf 40 = .ok (.ireturn, 1) := by decide +kernel
theorem dX1_fluteSound_0 : decode cX1_fluteSound 0 = .ok (.iconst 0, 1) := by decide +kernel
theorem dX1_fluteSound_1 : decode cX1_fluteSound 1 = .ok (.aload_n 0, 1) := by decide +kernel
theorem dX1_fluteSound_2 : decode cX1_fluteSound 2 = .ok (.getfield 32, 3) := by decide +kernel
theorem dX1_fluteSound_5 : decode cX1_fluteSound 5 = .ok (.aload_n 0, 1) := by decide +kernel
theorem dX1_fluteSound_6 : decode cX1_fluteSound 6 = .ok (.getfield 26, 3) := by decide +kernel
theorem dX1_fluteSound_9 : decode cX1_fluteSound 9 = .ok (.aload_n 0, 1) := by decide +kernel
theorem dX1_fluteSound_10 : decode cX1_fluteSound 10 = .ok (.aload_n 0, 1) := by decide +kernel
theorem dX1_fluteSound_11 : decode cX1_fluteSound 11 = .ok (.getfield 29, 3) := by decide +kernel
theorem dX1_fluteSound_14 : decode cX1_fluteSound 14 = .ok (.iload_n 1, 1) := by decide +kernel
theorem dX1_fluteSound_15 : decode cX1_fluteSound 15 = .ok (.invokevirtual 88, 3) := by decide +kernel
theorem dX1_fluteSound_18 : decode cX1_fluteSound 18 = .ok (.imul, 1) := by decide +kernel
theorem dX1_fluteSound_19 : decode cX1_fluteSound 19 = .ok (.isub, 1) := by decide +kernel
theorem dX1_fluteSound_20 : decode cX1_fluteSound 20 = .ok (.invokestatic 91, 3) := by decide +kernel
theorem dX1_fluteSound_23 : decode cX1_fluteSound 23 = .ok (.ireturn, 1) := by decide +kernel
theorem dX1_bandSound_0 : decode cX1_bandSound 0 = .ok (.aload_n 0, 1) := by decide +kernel
theorem dX1_bandSound_1 : decode cX1_bandSound 1 = .ok (.iload_n 1, 1) := by decide +kernel
theorem dX1_bandSound_2 : decode cX1_bandSound 2 = .ok (.iconst 0, 1) := by decide +kernel
theorem dX1_bandSound_3 : decode cX1_bandSound 3 = .ok (.invokevirtual 81, 3) := by decide +kernel
theorem dX1_bandSound_6 : decode cX1_bandSound 6 = .ok (.istore_n 3, 1) := by decide +kernel
theorem dX1_bandSound_7 : decode cX1_bandSound 7 = .ok (.aload_n 0, 1) := by decide +kernel
theorem dX1_bandSound_8 : decode cX1_bandSound 8 = .ok (.iload_n 1, 1) := by decide +kernel
theorem dX1_bandSound_9 : decode cX1_bandSound 9 = .ok (.iconst 1, 1) := by decide +kernel
theorem dX1_bandSound_10 : decode cX1_bandSound 10 = .ok (.invokevirtual 81, 3) := by decide +kernel
theorem dX1_bandSound_13 : decode cX1_bandSound 13 = .ok (.istore 4, 2) := by decide +kernel
theorem dX1_bandSound_15 : decode cX1_bandSound 15 = .ok (.iload_n 3, 1) := by decide +kernel
theorem dX1_bandSound_16 : decode cX1_bandSound 16 = .ok (.iconst 1, 1) := by decide +kernel
theorem dX1_bandSound_17 : decode cX1_bandSound 17 = .ok (.if_icmp .ne 22, 3) := by decide +kernel
theorem dX1_bandSound_20 : decode cX1_bandSound 20 = .ok (.aload_n 0, 1) := by decide +kernel
theorem dX1_bandSound_21 : decode cX1_bandSound 21 = .ok (.aload_n 0, 1) := by decide +kernel
theorem dX1_bandSound_22 : decode cX1_bandSound 22 = .ok (.iload_n 1, 1) := by decide +kernel
theorem dX1_bandSound_23 : decode cX1_bandSound 23 = .ok (.bipush 6, 2) := by decide +kernel
theorem dX1_bandSound_25 : decode cX1_bandSound 25 = .ok (.invokevirtual 81, 3) := by decide +kernel
theorem dX1_bandSound_28 : decode cX1_bandSound 28 = .ok (.iload 4, 2) := by decide +kernel
theorem dX1_bandSound_30 : decode cX1_bandSound 30 = .ok (.iload_n 2, 1) := by decide +kernel
theorem dX1_bandSound_31 : decode cX1_bandSound 31 = .ok (.invokevirtual 94, 3) := by decide +kernel
theorem dX1_bandSound_34 : decode cX1_bandSound 34 = .ok (.ifCond .ne 5, 3) := by decide +kernel
theorem dX1_bandSound_37 : decode cX1_bandSound 37 = .ok (.iconst 0, 1) := by decide +kernel
theorem dX1_bandSound_38 : decode cX1_bandSound 38 = .ok (.ireturn, 1) := by decide +kernel
theorem dX1_bandSound_39 : decode cX1_bandSound 39 = .ok (.iconst 0, 1) := by decide +kernel
theorem dX1_bandSound_40 : decode cX1_bandSound 40 = .ok (.aload_n 0, 1) := by decide +kernel
theorem dX1_bandSound_41 : decode cX1_bandSound 41 = .ok (.iload_n 1, 1) := by decide +kernel
theorem dX1_bandSound_42 : decode cX1_bandSound 42 = .ok (.iconst 2, 1) := by decide +kernel
theorem dX1_bandSound_43 : decode cX1_bandSound 43 = .ok (.invokevirtual 81, 3) := by decide +kernel
theorem dX1_bandSound_46 : decode cX1_bandSound 46 = .ok (.aload_n 0, 1) := by decide +kernel
theorem dX1_bandSound_47 : decode cX1_bandSound 47 = .ok (.getfield 26, 3) := by decide +kernel
theorem dX1_bandSound_50 : decode cX1_bandSound 50 = .ok (.aload_n 0, 1) := by decide +kernel
theorem dX1_bandSound_51 : decode cX1_bandSound 51 = .ok (.iload 4, 2) := by decide +kernel
theorem dX1_bandSound_53 : decode cX1_bandSound 53 = .ok (.iload_n 2, 1) := by decide +kernel
theorem dX1_bandSound_54 : decode cX1_bandSound 54 = .ok (.invokevirtual 88, 3) := by decide +kernel
theorem dX1_bandSound_57 : decode cX1_bandSound 57 = .ok (.imul, 1) := by decide +kernel
theorem dX1_bandSound_58 : decode cX1_bandSound 58 = .ok (.isub, 1) := by decide +kernel
theorem dX1_bandSound_59 : decode cX1_bandSound 59 = .ok (.invokestatic 91, 3) := by decide +kernel
theorem dX1_bandSound_62 : decode cX1_bandSound 62 = .ok (.istore 5, 2) := by decide +kernel
theorem dX1_bandSound_64 : decode cX1_bandSound 64 = .ok (.iload_n 3, 1) := by decide +kernel
theorem dX1_bandSound_65 : decode cX1_bandSound 65 = .ok (.iconst 3, 1) := by decide +kernel
theorem dX1_bandSound_66 : decode cX1_bandSound 66 = .ok (.if_icmp .eq 19, 3) := by decide +kernel
theorem dX1_bandSound_69 : decode cX1_bandSound 69 = .ok (.aload_n 0, 1) := by decide +kernel
theorem dX1_bandSound_70 : decode cX1_bandSound 70 = .ok (.iload 4, 2) := by decide +kernel
theorem dX1_bandSound_72 : decode cX1_bandSound 72 = .ok (.invokevirtual 98, 3) := by decide +kernel
theorem dX1_bandSound_75 : decode cX1_bandSound 75 = .ok (.ifCond .eq 10, 3) := by decide +kernel
theorem dX1_bandSound_78 : decode cX1_bandSound 78 = .ok (.iload 5, 2) := by decide +kernel
theorem dX1_bandSound_80 : decode cX1_bandSound 80 = .ok (.iconst 2, 1) := by decide +kernel
theorem dX1_bandSound_81 : decode cX1_bandSound 81 = .ok (.idiv, 1) := by decide +kernel
theorem dX1_bandSound_82 : decode cX1_bandSound 82 = .ok (.goto 5, 3) := by decide +kernel
theorem dX1_bandSound_85 : decode cX1_bandSound 85 = .ok (.iload 5, 2) := by decide +kernel
theorem dX1_bandSound_87 : decode cX1_bandSound 87 = .ok (.ireturn, 1) := by decide +kernel
theorem dX1_liesToSide_0 : decode cX1_liesToSide 0 = .ok (.iload_n 1, 1) := by decide +kernel
theorem dX1_liesToSide_1 : decode cX1_liesToSide 1 = .ok (.tableswitch 84 0 2 #[27, 46, 65], 27) := by decide +kernel
theorem dX1_liesToSide_28 : decode cX1_liesToSide 28 = .ok (.aload_n 0, 1) := by decide +kernel
theorem dX1_liesToSide_29 : decode cX1_liesToSide 29 = .ok (.iload_n 3, 1) := by decide +kernel
theorem dX1_liesToSide_30 : decode cX1_liesToSide 30 = .ok (.invokevirtual 68, 3) := by decide +kernel
theorem dX1_liesToSide_33 : decode cX1_liesToSide 33 = .ok (.aload_n 0, 1) := by decide +kernel
theorem dX1_liesToSide_34 : decode cX1_liesToSide 34 = .ok (.iload_n 2, 1) := by decide +kernel
theorem dX1_liesToSide_35 : decode cX1_liesToSide 35 = .ok (.invokevirtual 68, 3) := by decide +kernel
theorem dX1_liesToSide_38 : decode cX1_liesToSide 38 = .ok (.if_icmp .ge 7, 3) := by decide +kernel
theorem dX1_liesToSide_41 : decode cX1_liesToSide 41 = .ok (.iconst 1, 1) := by decide +kernel
theorem dX1_liesToSide_42 : decode cX1_liesToSide 42 = .ok (.goto 4, 3) := by decide +kernel
theorem dX1_liesToSide_45 : decode cX1_liesToSide 45 = .ok (.iconst 0, 1) := by decide +kernel
theorem dX1_liesToSide_46 : decode cX1_liesToSide 46 = .ok (.ireturn, 1) := by decide +kernel
theorem dX1_liesToSide_47 : decode cX1_liesToSide 47 = .ok (.aload_n 0, 1) := by decide +kernel
theorem dX1_liesToSide_48 : decode cX1_liesToSide 48 = .ok (.iload_n 3, 1) := by decide +kernel
theorem dX1_liesToSide_49 : decode cX1_liesToSide 49 = .ok (.invokevirtual 59, 3) := by decide +kernel
theorem dX1_liesToSide_52 : decode cX1_liesToSide 52 = .ok (.aload_n 0, 1) := by decide +kernel
theorem dX1_liesToSide_53 : decode cX1_liesToSide 53 = .ok (.iload_n 2, 1) := by decide +kernel
theorem dX1_liesToSide_54 : decode cX1_liesToSide 54 = .ok (.invokevirtual 59, 3) := by decide +kernel
theorem dX1_liesToSide_57 : decode cX1_liesToSide 57 = .ok (.if_icmp .le 7, 3) := by decide +kernel
theorem dX1_liesToSide_60 : decode cX1_liesToSide 60 = .ok (.iconst 1, 1) := by decide +kernel
theorem dX1_liesToSide_61 : decode cX1_liesToSide 61 = .ok (.goto 4, 3) := by decide +kernel
theorem dX1_liesToSide_64 : decode cX1_liesToSide 64 = .ok (.iconst 0, 1) := by decide +kernel
theorem dX1_liesToSide_65 : decode cX1_liesToSide 65 = .ok (.ireturn, 1) := by decide +kernel
theorem dX1_liesToSide_66 : decode cX1_liesToSide 66 = .ok (.aload_n 0, 1) := by decide +kernel
theorem dX1_liesToSide_67 : decode cX1_liesToSide 67 = .ok (.iload_n 3, 1) := by decide +kernel
theorem dX1_liesToSide_68 : decode cX1_liesToSide 68 = .ok (.invokevirtual 68, 3) := by decide +kernel
theorem dX1_liesToSide_71 : decode cX1_liesToSide 71 = .ok (.aload_n 0, 1) := by decide +kernel
theorem dX1_liesToSide_72 : decode cX1_liesToSide 72 = .ok (.iload_n 2, 1) := by decide +kernel
theorem dX1_liesToSide_73 : decode cX1_liesToSide 73 = .ok (.invokevirtual 68, 3) := by decide +kernel
theorem dX1_liesToSide_76 : decode cX1_liesToSide 76 = .ok (.if_icmp .le 7, 3) := by decide +kernel
theorem dX1_liesToSide_79 : decode cX1_liesToSide 79 = .ok (.iconst 1, 1) := by decide +kernel
theorem dX1_liesToSide_80 : decode cX1_liesToSide 80 = .ok (.goto 4, 3) := by decide +kernel
theorem dX1_liesToSide_83 : decode cX1_liesToSide 83 = .ok (.iconst 0, 1) := by decide +kernel
theorem dX1_liesToSide_84 : decode cX1_liesToSide 84 = .ok (.ireturn, 1) := by decide +kernel
theorem dX1_liesToSide_85 : decode cX1_liesToSide 85 = .ok (.aload_n 0, 1) := by decide +kernel
theorem dX1_liesToSide_86 : decode cX1_liesToSide 86 = .ok (.iload_n 3, 1) := by decide +kernel
theorem dX1_liesToSide_87 : decode cX1_liesToSide 87 = .ok (.invokevirtual 59, 3) := by decide +kernel
theorem dX1_liesToSide_90 : decode cX1_liesToSide 90 = .ok (.aload_n 0, 1) := by decide +kernel
theorem dX1_liesToSide_91 : decode cX1_liesToSide 91 = .ok (.iload_n 2, 1) := by decide +kernel
theorem dX1_liesToSide_92 : decode cX1_liesToSide 92 = .ok (.invokevirtual 59, 3) := by decide +kernel
theorem dX1_liesToSide_95 : decode cX1_liesToSide 95 = .ok (.if_icmp .ge 7, 3) := by decide +kernel
theorem dX1_liesToSide_98 : decode cX1_liesToSide 98 = .ok (.iconst 1, 1) := by decide +kernel
theorem dX1_liesToSide_99 : decode cX1_liesToSide 99 = .ok (.goto 4, 3) := by decide +kernel
theorem dX1_liesToSide_102 : decode cX1_liesToSide 102 = .ok (.iconst 0, 1) := by decide +kernel
theorem dX1_liesToSide_103 : decode cX1_liesToSide 103 = .ok (.ireturn, 1) := by decide +kernel
theorem dX1_plays_0 : decode cX1_plays 0 = .ok (.iload_n 2, 1) := by decide +kernel
theorem dX1_plays_1 : decode cX1_plays 1 = .ok (.aload_n 0, 1) := by decide +kernel
theorem dX1_plays_2 : decode cX1_plays 2 = .ok (.iload_n 1, 1) := by decide +kernel
theorem dX1_plays_3 : decode cX1_plays 3 = .ok (.iconst 3, 1) := by decide +kernel
theorem dX1_plays_4 : decode cX1_plays 4 = .ok (.invokevirtual 81, 3) := by decide +kernel
theorem dX1_plays_7 : decode cX1_plays 7 = .ok (.if_icmp .lt 13, 3) := by decide +kernel
theorem dX1_plays_10 : decode cX1_plays 10 = .ok (.iload_n 2, 1) := by decide +kernel
theorem dX1_plays_11 : decode cX1_plays 11 = .ok (.aload_n 0, 1) := by decide +kernel
theorem dX1_plays_12 : decode cX1_plays 12 = .ok (.iload_n 1, 1) := by decide +kernel
theorem dX1_plays_13 : decode cX1_plays 13 = .ok (.iconst 4, 1) := by decide +kernel
theorem dX1_plays_14 : decode cX1_plays 14 = .ok (.invokevirtual 81, 3) := by decide +kernel
theorem dX1_plays_17 : decode cX1_plays 17 = .ok (.if_icmp .le 5, 3) := by decide +kernel
theorem dX1_plays_20 : decode cX1_plays 20 = .ok (.iconst 0, 1) := by decide +kernel
theorem dX1_plays_21 : decode cX1_plays 21 = .ok (.ireturn, 1) := by decide +kernel
theorem dX1_plays_22 : decode cX1_plays 22 = .ok (.aload_n 0, 1) := by decide +kernel
theorem dX1_plays_23 : decode cX1_plays 23 = .ok (.iload_n 1, 1) := by decide +kernel
theorem dX1_plays_24 : decode cX1_plays 24 = .ok (.iconst 0, 1) := by decide +kernel
theorem dX1_plays_25 : decode cX1_plays 25 = .ok (.invokevirtual 81, 3) := by decide +kernel
theorem dX1_plays_28 : decode cX1_plays 28 = .ok (.iconst 2, 1) := by decide +kernel
theorem dX1_plays_29 : decode cX1_plays 29 = .ok (.if_icmp .ne 9, 3) := by decide +kernel
theorem dX1_plays_32 : decode cX1_plays 32 = .ok (.iload_n 2, 1) := by decide +kernel
theorem dX1_plays_33 : decode cX1_plays 33 = .ok (.iconst 2, 1) := by decide +kernel
theorem dX1_plays_34 : decode cX1_plays 34 = .ok (.irem, 1) := by decide +kernel
theorem dX1_plays_35 : decode cX1_plays 35 = .ok (.ifCond .ne 7, 3) := by decide +kernel
theorem dX1_plays_38 : decode cX1_plays 38 = .ok (.iconst 1, 1) := by decide +kernel
theorem dX1_plays_39 : decode cX1_plays 39 = .ok (.goto 4, 3) := by decide +kernel
theorem dX1_plays_42 : decode cX1_plays 42 = .ok (.iconst 0, 1) := by decide +kernel
theorem dX1_plays_43 : decode cX1_plays 43 = .ok (.ireturn, 1) := by decide +kernel
theorem dX2_init_0 : decode cX2_init 0 = .ok (.aload_n 0, 1) := by decide +kernel
theorem dX2_init_1 : decode cX2_init 1 = .ok (.invokespecial 3, 3) := by decide +kernel
theorem dX2_init_4 : decode cX2_init 4 = .ok (.aload_n 0, 1) := by decide +kernel
theorem dX2_init_5 : decode cX2_init 5 = .ok (.iconst 4, 1) := by decide +kernel
theorem dX2_init_6 : decode cX2_init 6 = .ok (.newarray .int, 2) := by decide +kernel
theorem dX2_init_8 : decode cX2_init 8 = .ok (.putfield 9, 3) := by decide +kernel
theorem dX2_init_11 : decode cX2_init 11 = .ok (.return_, 1) := by decide +kernel
theorem dX2_readLines_0 : decode cX2_readLines 0 = .ok (.aload_n 3, 1) := by decide +kernel
theorem dX2_readLines_1 : decode cX2_readLines 1 = .ok (.aload_n 2, 1) := by decide +kernel
theorem dX2_readLines_2 : decode cX2_readLines 2 = .ok (.invokevirtual 15, 3) := by decide +kernel
theorem dX2_readLines_5 : decode cX2_readLines 5 = .ok (.aload_n 1, 1) := by decide +kernel
theorem dX2_readLines_6 : decode cX2_readLines 6 = .ok (.invokevirtual 21, 3) := by decide +kernel
theorem dX2_readLines_9 : decode cX2_readLines 9 = .ok (.aload_n 0, 1) := by decide +kernel
theorem dX2_readLines_10 : decode cX2_readLines 10 = .ok (.iconst 1, 1) := by decide +kernel
theorem dX2_readLines_11 : decode cX2_readLines 11 = .ok (.putfield 26, 3) := by decide +kernel
theorem dX2_readLines_14 : decode cX2_readLines 14 = .ok (.aload_n 0, 1) := by decide +kernel
theorem dX2_readLines_15 : decode cX2_readLines 15 = .ok (.getfield 26, 3) := by decide +kernel
theorem dX2_readLines_18 : decode cX2_readLines 18 = .ok (.bipush 12, 2) := by decide +kernel
theorem dX2_readLines_20 : decode cX2_readLines 20 = .ok (.if_icmp .gt 57, 3) := by decide +kernel
theorem dX2_readLines_23 : decode cX2_readLines 23 = .ok (.aload_n 0, 1) := by decide +kernel
theorem dX2_readLines_24 : decode cX2_readLines 24 = .ok (.aload_n 1, 1) := by decide +kernel
theorem dX2_readLines_25 : decode cX2_readLines 25 = .ok (.aload_n 3, 1) := by decide +kernel
theorem dX2_readLines_26 : decode cX2_readLines 26 = .ok (.invokevirtual 30, 3) := by decide +kernel
theorem dX2_readLines_29 : decode cX2_readLines 29 = .ok (.ifCond .ne 8, 3) := by decide +kernel
theorem dX2_readLines_32 : decode cX2_readLines 32 = .ok (.aload_n 1, 1) := by decide +kernel
theorem dX2_readLines_33 : decode cX2_readLines 33 = .ok (.invokevirtual 34, 3) := by decide +kernel
theorem dX2_readLines_36 : decode cX2_readLines 36 = .ok (.ireturn, 1) := by decide +kernel
theorem dX2_readLines_37 : decode cX2_readLines 37 = .ok (.aload_n 1, 1) := by decide +kernel
theorem dX2_readLines_38 : decode cX2_readLines 38 = .ok (.invokevirtual 38, 3) := by decide +kernel
theorem dX2_readLines_41 : decode cX2_readLines 41 = .ok (.aload_n 1, 1) := by decide +kernel
theorem dX2_readLines_42 : decode cX2_readLines 42 = .ok (.invokevirtual 41, 3) := by decide +kernel
theorem dX2_readLines_45 : decode cX2_readLines 45 = .ok (.ifCond .eq 5, 3) := by decide +kernel
theorem dX2_readLines_48 : decode cX2_readLines 48 = .ok (.iconst (-1), 1) := by decide +kernel
theorem dX2_readLines_49 : decode cX2_readLines 49 = .ok (.ireturn, 1) := by decide +kernel
theorem dX2_readLines_50 : decode cX2_readLines 50 = .ok (.aload_n 1, 1) := by decide +kernel
theorem dX2_readLines_51 : decode cX2_readLines 51 = .ok (.ldc 45, 2) := by decide +kernel
theorem dX2_readLines_53 : decode cX2_readLines 53 = .ok (.invokevirtual 47, 3) := by decide +kernel
theorem dX2_readLines_56 : decode cX2_readLines 56 = .ok (.ifCond .ne 8, 3) := by decide +kernel
theorem dX2_readLines_59 : decode cX2_readLines 59 = .ok (.aload_n 1, 1) := by decide +kernel
theorem dX2_readLines_60 : decode cX2_readLines 60 = .ok (.invokevirtual 34, 3) := by decide +kernel
theorem dX2_readLines_63 : decode cX2_readLines 63 = .ok (.ireturn, 1) := by decide +kernel
theorem dX2_readLines_64 : decode cX2_readLines 64 = .ok (.aload_n 0, 1) := by decide +kernel
theorem dX2_readLines_65 : decode cX2_readLines 65 = .ok (.dup, 1) := by decide +kernel
theorem dX2_readLines_66 : decode cX2_readLines 66 = .ok (.getfield 26, 3) := by decide +kernel
theorem dX2_readLines_69 : decode cX2_readLines 69 = .ok (.iconst 1, 1) := by decide +kernel
theorem dX2_readLines_70 : decode cX2_readLines 70 = .ok (.iadd, 1) := by decide +kernel
theorem dX2_readLines_71 : decode cX2_readLines 71 = .ok (.putfield 26, 3) := by decide +kernel
theorem dX2_readLines_74 : decode cX2_readLines 74 = .ok (.goto (-60), 3) := by decide +kernel
theorem dX2_readLines_77 : decode cX2_readLines 77 = .ok (.aload_n 1, 1) := by decide +kernel
theorem dX2_readLines_78 : decode cX2_readLines 78 = .ok (.invokevirtual 34, 3) := by decide +kernel
theorem dX2_readLines_81 : decode cX2_readLines 81 = .ok (.ireturn, 1) := by decide +kernel
theorem dX2_readLine_0 : decode cX2_readLine 0 = .ok (.aload_n 1, 1) := by decide +kernel
theorem dX2_readLine_1 : decode cX2_readLine 1 = .ok (.invokevirtual 38, 3) := by decide +kernel
theorem dX2_readLine_4 : decode cX2_readLine 4 = .ok (.aload_n 1, 1) := by decide +kernel
theorem dX2_readLine_5 : decode cX2_readLine 5 = .ok (.invokestatic 51, 3) := by decide +kernel
theorem dX2_readLine_8 : decode cX2_readLine 8 = .ok (.istore_n 3, 1) := by decide +kernel
theorem dX2_readLine_9 : decode cX2_readLine 9 = .ok (.iload_n 3, 1) := by decide +kernel
theorem dX2_readLine_10 : decode cX2_readLine 10 = .ok (.ifCond .lt 27, 3) := by decide +kernel
theorem dX2_readLine_13 : decode cX2_readLine 13 = .ok (.iload_n 3, 1) := by decide +kernel
theorem dX2_readLine_14 : decode cX2_readLine 14 = .ok (.getstatic 55, 3) := by decide +kernel
theorem dX2_readLine_17 : decode cX2_readLine 17 = .ok (.arraylength, 1) := by decide +kernel
theorem dX2_readLine_18 : decode cX2_readLine 18 = .ok (.if_icmp .ge 19, 3) := by decide +kernel
theorem dX2_readLine_21 : decode cX2_readLine 21 = .ok (.iload_n 3, 1) := by decide +kernel
theorem dX2_readLine_22 : decode cX2_readLine 22 = .ok (.invokestatic 58, 3) := by decide +kernel
theorem dX2_readLine_25 : decode cX2_readLine 25 = .ok (.ifCond .eq 14, 3) := by decide +kernel
theorem dX2_readLine_28 : decode cX2_readLine 28 = .ok (.aload_n 2, 1) := by decide +kernel
theorem dX2_readLine_29 : decode cX2_readLine 29 = .ok (.getfield 62, 3) := by decide +kernel
theorem dX2_readLine_32 : decode cX2_readLine 32 = .ok (.bipush 6, 2) := by decide +kernel
theorem dX2_readLine_34 : decode cX2_readLine 34 = .ok (.if_icmp .lt 5, 3) := by decide +kernel
theorem dX2_readLine_37 : decode cX2_readLine 37 = .ok (.iconst 0, 1) := by decide +kernel
theorem dX2_readLine_38 : decode cX2_readLine 38 = .ok (.ireturn, 1) := by decide +kernel
theorem dX2_readLine_39 : decode cX2_readLine 39 = .ok (.iconst 0, 1) := by decide +kernel
theorem dX2_readLine_40 : decode cX2_readLine 40 = .ok (.istore 4, 2) := by decide +kernel
theorem dX2_readLine_42 : decode cX2_readLine 42 = .ok (.iload 4, 2) := by decide +kernel
theorem dX2_readLine_44 : decode cX2_readLine 44 = .ok (.getstatic 55, 3) := by decide +kernel
theorem dX2_readLine_47 : decode cX2_readLine 47 = .ok (.iload_n 3, 1) := by decide +kernel
theorem dX2_readLine_48 : decode cX2_readLine 48 = .ok (.iaload, 1) := by decide +kernel
theorem dX2_readLine_49 : decode cX2_readLine 49 = .ok (.if_icmp .ge 47, 3) := by decide +kernel
theorem dX2_readLine_52 : decode cX2_readLine 52 = .ok (.iload 4, 2) := by decide +kernel
theorem dX2_readLine_54 : decode cX2_readLine 54 = .ok (.aload_n 0, 1) := by decide +kernel
theorem dX2_readLine_55 : decode cX2_readLine 55 = .ok (.getfield 9, 3) := by decide +kernel
theorem dX2_readLine_58 : decode cX2_readLine 58 = .ok (.arraylength, 1) := by decide +kernel
theorem dX2_readLine_59 : decode cX2_readLine 59 = .ok (.if_icmp .ge 37, 3) := by decide +kernel
theorem dX2_readLine_62 : decode cX2_readLine 62 = .ok (.aload_n 1, 1) := by decide +kernel
theorem dX2_readLine_63 : decode cX2_readLine 63 = .ok (.invokevirtual 38, 3) := by decide +kernel
theorem dX2_readLine_66 : decode cX2_readLine 66 = .ok (.aload_n 0, 1) := by decide +kernel
theorem dX2_readLine_67 : decode cX2_readLine 67 = .ok (.getfield 9, 3) := by decide +kernel
theorem dX2_readLine_70 : decode cX2_readLine 70 = .ok (.iload 4, 2) := by decide +kernel
theorem dX2_readLine_72 : decode cX2_readLine 72 = .ok (.aload_n 1, 1) := by decide +kernel
theorem dX2_readLine_73 : decode cX2_readLine 73 = .ok (.invokevirtual 65, 3) := by decide +kernel
theorem dX2_readLine_76 : decode cX2_readLine 76 = .ok (.iastore, 1) := by decide +kernel
theorem dX2_readLine_77 : decode cX2_readLine 77 = .ok (.aload_n 0, 1) := by decide +kernel
theorem dX2_readLine_78 : decode cX2_readLine 78 = .ok (.aload_n 2, 1) := by decide +kernel
theorem dX2_readLine_79 : decode cX2_readLine 79 = .ok (.iload_n 3, 1) := by decide +kernel
theorem dX2_readLine_80 : decode cX2_readLine 80 = .ok (.iload 4, 2) := by decide +kernel
theorem dX2_readLine_82 : decode cX2_readLine 82 = .ok (.invokevirtual 68, 3) := by decide +kernel
theorem dX2_readLine_85 : decode cX2_readLine 85 = .ok (.ifCond .ne 5, 3) := by decide +kernel
theorem dX2_readLine_88 : decode cX2_readLine 88 = .ok (.iconst 0, 1) := by decide +kernel
theorem dX2_readLine_89 : decode cX2_readLine 89 = .ok (.ireturn, 1) := by decide +kernel
theorem dX2_readLine_90 : decode cX2_readLine 90 = .ok (.iinc 4 1, 3) := by decide +kernel
theorem dX2_readLine_93 : decode cX2_readLine 93 = .ok (.goto (-51), 3) := by decide +kernel
theorem dX2_readLine_96 : decode cX2_readLine 96 = .ok (.aload_n 0, 1) := by decide +kernel
theorem dX2_readLine_97 : decode cX2_readLine 97 = .ok (.aload_n 2, 1) := by decide +kernel
theorem dX2_readLine_98 : decode cX2_readLine 98 = .ok (.iload_n 3, 1) := by decide +kernel
theorem dX2_readLine_99 : decode cX2_readLine 99 = .ok (.invokevirtual 72, 3) := by decide +kernel
theorem dX2_readLine_102 : decode cX2_readLine 102 = .ok (.iconst 1, 1) := by decide +kernel
theorem dX2_readLine_103 : decode cX2_readLine 103 = .ok (.ireturn, 1) := by decide +kernel
theorem dX2_lineOf_0 : decode cX2_lineOf 0 = .ok (.iconst 0, 1) := by decide +kernel
theorem dX2_lineOf_1 : decode cX2_lineOf 1 = .ok (.istore_n 1, 1) := by decide +kernel
theorem dX2_lineOf_2 : decode cX2_lineOf 2 = .ok (.iload_n 1, 1) := by decide +kernel
theorem dX2_lineOf_3 : decode cX2_lineOf 3 = .ok (.bipush 12, 2) := by decide +kernel
theorem dX2_lineOf_5 : decode cX2_lineOf 5 = .ok (.if_icmp .ge 22, 3) := by decide +kernel
theorem dX2_lineOf_8 : decode cX2_lineOf 8 = .ok (.aload_n 0, 1) := by decide +kernel
theorem dX2_lineOf_9 : decode cX2_lineOf 9 = .ok (.iload_n 1, 1) := by decide +kernel
theorem dX2_lineOf_10 : decode cX2_lineOf 10 = .ok (.invokestatic 76, 3) := by decide +kernel
theorem dX2_lineOf_13 : decode cX2_lineOf 13 = .ok (.invokevirtual 47, 3) := by decide +kernel
theorem dX2_lineOf_16 : decode cX2_lineOf 16 = .ok (.ifCond .eq 5, 3) := by decide +kernel
theorem dX2_lineOf_19 : decode cX2_lineOf 19 = .ok (.iload_n 1, 1) := by decide +kernel
theorem dX2_lineOf_20 : decode cX2_lineOf 20 = .ok (.ireturn, 1) := by decide +kernel
theorem dX2_lineOf_21 : decode cX2_lineOf 21 = .ok (.iinc 1 1, 3) := by decide +kernel
theorem dX2_lineOf_24 : decode cX2_lineOf 24 = .ok (.goto (-22), 3) := by decide +kernel
theorem dX2_lineOf_27 : decode cX2_lineOf 27 = .ok (.iconst (-1), 1) := by decide +kernel
theorem dX2_lineOf_28 : decode cX2_lineOf 28 = .ok (.ireturn, 1) := by decide +kernel
theorem dX2_wordOf_0 : decode cX2_wordOf 0 = .ok (.iload_n 0, 1) := by decide +kernel
theorem dX2_wordOf_1 : decode cX2_wordOf 1 = .ok (.tableswitch 92 0 10 #[59, 62, 65, 68, 71, 74, 77, 80, 83, 86, 89], 59) := by decide +kernel
theorem dX2_wordOf_60 : decode cX2_wordOf 60 = .ok (.ldc 80, 2) := by decide +kernel
theorem dX2_wordOf_62 : decode cX2_wordOf 62 = .ok (.areturn, 1) := by decide +kernel
theorem dX2_wordOf_63 : decode cX2_wordOf 63 = .ok (.ldc 82, 2) := by decide +kernel
theorem dX2_wordOf_65 : decode cX2_wordOf 65 = .ok (.areturn, 1) := by decide +kernel
theorem dX2_wordOf_66 : decode cX2_wordOf 66 = .ok (.ldc 84, 2) := by decide +kernel
theorem dX2_wordOf_68 : decode cX2_wordOf 68 = .ok (.areturn, 1) := by decide +kernel
theorem dX2_wordOf_69 : decode cX2_wordOf 69 = .ok (.ldc 86, 2) := by decide +kernel
theorem dX2_wordOf_71 : decode cX2_wordOf 71 = .ok (.areturn, 1) := by decide +kernel
theorem dX2_wordOf_72 : decode cX2_wordOf 72 = .ok (.ldc 88, 2) := by decide +kernel
theorem dX2_wordOf_74 : decode cX2_wordOf 74 = .ok (.areturn, 1) := by decide +kernel
theorem dX2_wordOf_75 : decode cX2_wordOf 75 = .ok (.ldc 90, 2) := by decide +kernel
theorem dX2_wordOf_77 : decode cX2_wordOf 77 = .ok (.areturn, 1) := by decide +kernel
theorem dX2_wordOf_78 : decode cX2_wordOf 78 = .ok (.ldc 92, 2) := by decide +kernel
theorem dX2_wordOf_80 : decode cX2_wordOf 80 = .ok (.areturn, 1) := by decide +kernel
theorem dX2_wordOf_81 : decode cX2_wordOf 81 = .ok (.ldc 94, 2) := by decide +kernel
theorem dX2_wordOf_83 : decode cX2_wordOf 83 = .ok (.areturn, 1) := by decide +kernel
theorem dX2_wordOf_84 : decode cX2_wordOf 84 = .ok (.ldc 96, 2) := by decide +kernel
theorem dX2_wordOf_86 : decode cX2_wordOf 86 = .ok (.areturn, 1) := by decide +kernel
theorem dX2_wordOf_87 : decode cX2_wordOf 87 = .ok (.ldc 98, 2) := by decide +kernel
theorem dX2_wordOf_89 : decode cX2_wordOf 89 = .ok (.areturn, 1) := by decide +kernel
theorem dX2_wordOf_90 : decode cX2_wordOf 90 = .ok (.ldc 100, 2) := by decide +kernel
theorem dX2_wordOf_92 : decode cX2_wordOf 92 = .ok (.areturn, 1) := by decide +kernel
theorem dX2_wordOf_93 : decode cX2_wordOf 93 = .ok (.ldc 102, 2) := by decide +kernel
theorem dX2_wordOf_95 : decode cX2_wordOf 95 = .ok (.areturn, 1) := by decide +kernel
theorem dX2_isOfBand_0 : decode cX2_isOfBand 0 = .ok (.iload_n 0, 1) := by decide +kernel
theorem dX2_isOfBand_1 : decode cX2_isOfBand 1 = .ok (.iconst 3, 1) := by decide +kernel
theorem dX2_isOfBand_2 : decode cX2_isOfBand 2 = .ok (.if_icmp .lt 13, 3) := by decide +kernel
theorem dX2_isOfBand_5 : decode cX2_isOfBand 5 = .ok (.iload_n 0, 1) := by decide +kernel
theorem dX2_isOfBand_6 : decode cX2_isOfBand 6 = .ok (.bipush 6, 2) := by decide +kernel
theorem dX2_isOfBand_8 : decode cX2_isOfBand 8 = .ok (.if_icmp .gt 7, 3) := by decide +kernel
theorem dX2_isOfBand_11 : decode cX2_isOfBand 11 = .ok (.iconst 1, 1) := by decide +kernel
theorem dX2_isOfBand_12 : decode cX2_isOfBand 12 = .ok (.goto 4, 3) := by decide +kernel
theorem dX2_isOfBand_15 : decode cX2_isOfBand 15 = .ok (.iconst 0, 1) := by decide +kernel
theorem dX2_isOfBand_16 : decode cX2_isOfBand 16 = .ok (.ireturn, 1) := by decide +kernel
theorem dX2_canStand_0 : decode cX2_canStand 0 = .ok (.iload_n 3, 1) := by decide +kernel
theorem dX2_canStand_1 : decode cX2_canStand 1 = .ok (.ifCond .lt 21, 3) := by decide +kernel
theorem dX2_canStand_4 : decode cX2_canStand 4 = .ok (.iload_n 3, 1) := by decide +kernel
theorem dX2_canStand_5 : decode cX2_canStand 5 = .ok (.aload_n 0, 1) := by decide +kernel
theorem dX2_canStand_6 : decode cX2_canStand 6 = .ok (.getfield 9, 3) := by decide +kernel
theorem dX2_canStand_9 : decode cX2_canStand 9 = .ok (.arraylength, 1) := by decide +kernel
theorem dX2_canStand_10 : decode cX2_canStand 10 = .ok (.if_icmp .ge 12, 3) := by decide +kernel
theorem dX2_canStand_13 : decode cX2_canStand 13 = .ok (.aload_n 0, 1) := by decide +kernel
theorem dX2_canStand_14 : decode cX2_canStand 14 = .ok (.getfield 9, 3) := by decide +kernel
theorem dX2_canStand_17 : decode cX2_canStand 17 = .ok (.iload_n 3, 1) := by decide +kernel
theorem dX2_canStand_18 : decode cX2_canStand 18 = .ok (.iaload, 1) := by decide +kernel
theorem dX2_canStand_19 : decode cX2_canStand 19 = .ok (.goto 4, 3) := by decide +kernel
theorem dX2_canStand_22 : decode cX2_canStand 22 = .ok (.iconst (-1), 1) := by decide +kernel
theorem dX2_canStand_23 : decode cX2_canStand 23 = .ok (.istore 4, 2) := by decide +kernel
theorem dX2_canStand_25 : decode cX2_canStand 25 = .ok (.iload 4, 2) := by decide +kernel
theorem dX2_canStand_27 : decode cX2_canStand 27 = .ok (.aload_n 0, 1) := by decide +kernel
theorem dX2_canStand_28 : decode cX2_canStand 28 = .ok (.iload_n 2, 1) := by decide +kernel
theorem dX2_canStand_29 : decode cX2_canStand 29 = .ok (.iload_n 3, 1) := by decide +kernel
theorem dX2_canStand_30 : decode cX2_canStand 30 = .ok (.invokevirtual 104, 3) := by decide +kernel
theorem dX2_canStand_33 : decode cX2_canStand 33 = .ok (.if_icmp .lt 14, 3) := by decide +kernel
theorem dX2_canStand_36 : decode cX2_canStand 36 = .ok (.iload 4, 2) := by decide +kernel
theorem dX2_canStand_38 : decode cX2_canStand 38 = .ok (.aload_n 1, 1) := by decide +kernel
theorem dX2_canStand_39 : decode cX2_canStand 39 = .ok (.iload_n 2, 1) := by decide +kernel
theorem dX2_canStand_40 : decode cX2_canStand 40 = .ok (.iload_n 3, 1) := by decide +kernel
theorem dX2_canStand_41 : decode cX2_canStand 41 = .ok (.invokestatic 108, 3) := by decide +kernel
theorem dX2_canStand_44 : decode cX2_canStand 44 = .ok (.if_icmp .le 5, 3) := by decide +kernel
theorem dX2_canStand_47 : decode cX2_canStand 47 = .ok (.iconst 0, 1) := by decide +kernel
theorem dX2_canStand_48 : decode cX2_canStand 48 = .ok (.ireturn, 1) := by decide +kernel
theorem dX2_canStand_49 : decode cX2_canStand 49 = .ok (.iload_n 2, 1) := by decide +kernel
theorem dX2_canStand_50 : decode cX2_canStand 50 = .ok (.bipush 9, 2) := by decide +kernel
theorem dX2_canStand_52 : decode cX2_canStand 52 = .ok (.if_icmp .ne 12, 3) := by decide +kernel
theorem dX2_canStand_55 : decode cX2_canStand 55 = .ok (.aload_n 1, 1) := by decide +kernel
theorem dX2_canStand_56 : decode cX2_canStand 56 = .ok (.iload 4, 2) := by decide +kernel
theorem dX2_canStand_58 : decode cX2_canStand 58 = .ok (.invokevirtual 112, 3) := by decide +kernel
theorem dX2_canStand_61 : decode cX2_canStand 61 = .ok (.ifCond .ne 7, 3) := by decide +kernel
theorem dX2_canStand_64 : decode cX2_canStand 64 = .ok (.iconst 1, 1) := by decide +kernel
theorem dX2_canStand_65 : decode cX2_canStand 65 = .ok (.goto 4, 3) := by decide +kernel
theorem dX2_canStand_68 : decode cX2_canStand 68 = .ok (.iconst 0, 1) := by decide +kernel
theorem dX2_canStand_69 : decode cX2_canStand 69 = .ok (.ireturn, 1) := by decide +kernel
theorem dX2_leastNumber_0 : decode cX2_leastNumber 0 = .ok (.iload_n 1, 1) := by decide +kernel
theorem dX2_leastNumber_1 : decode cX2_leastNumber 1 = .ok (.ifCond .ne 5, 3) := by decide +kernel
theorem dX2_leastNumber_4 : decode cX2_leastNumber 4 = .ok (.iconst 2, 1) := by decide +kernel
theorem dX2_leastNumber_5 : decode cX2_leastNumber 5 = .ok (.ireturn, 1) := by decide +kernel
theorem dX2_leastNumber_6 : decode cX2_leastNumber 6 = .ok (.iload_n 1, 1) := by decide +kernel
theorem dX2_leastNumber_7 : decode cX2_leastNumber 7 = .ok (.iconst 1, 1) := by decide +kernel
theorem dX2_leastNumber_8 : decode cX2_leastNumber 8 = .ok (.if_icmp .ne 5, 3) := by decide +kernel
theorem dX2_leastNumber_11 : decode cX2_leastNumber 11 = .ok (.iconst 1, 1) := by decide +kernel
theorem dX2_leastNumber_12 : decode cX2_leastNumber 12 = .ok (.ireturn, 1) := by decide +kernel
theorem dX2_leastNumber_13 : decode cX2_leastNumber 13 = .ok (.iload_n 1, 1) := by decide +kernel
theorem dX2_leastNumber_14 : decode cX2_leastNumber 14 = .ok (.bipush 10, 2) := by decide +kernel
theorem dX2_leastNumber_16 : decode cX2_leastNumber 16 = .ok (.if_icmp .ne 15, 3) := by decide +kernel
theorem dX2_leastNumber_19 : decode cX2_leastNumber 19 = .ok (.iload_n 2, 1) := by decide +kernel
theorem dX2_leastNumber_20 : decode cX2_leastNumber 20 = .ok (.iconst 1, 1) := by decide +kernel
theorem dX2_leastNumber_21 : decode cX2_leastNumber 21 = .ok (.if_icmp .ne 10, 3) := by decide +kernel
theorem dX2_leastNumber_24 : decode cX2_leastNumber 24 = .ok (.aload_n 0, 1) := by decide +kernel
theorem dX2_leastNumber_25 : decode cX2_leastNumber 25 = .ok (.getfield 9, 3) := by decide +kernel
theorem dX2_leastNumber_28 : decode cX2_leastNumber 28 = .ok (.iconst 0, 1) := by decide +kernel
theorem dX2_leastNumber_29 : decode cX2_leastNumber 29 = .ok (.iaload, 1) := by decide +kernel
theorem dX2_leastNumber_30 : decode cX2_leastNumber 30 = .ok (.ireturn, 1) := by decide +kernel
theorem dX2_leastNumber_31 : decode cX2_leastNumber 31 = .ok (.iload_n 1, 1) := by decide +kernel
theorem dX2_leastNumber_32 : decode cX2_leastNumber 32 = .ok (.invokestatic 58, 3) := by decide +kernel
theorem dX2_leastNumber_35 : decode cX2_leastNumber 35 = .ok (.ifCond .eq 17, 3) := by decide +kernel
theorem dX2_leastNumber_38 : decode cX2_leastNumber 38 = .ok (.iload_n 2, 1) := by decide +kernel
theorem dX2_leastNumber_39 : decode cX2_leastNumber 39 = .ok (.iconst 3, 1) := by decide +kernel
theorem dX2_leastNumber_40 : decode cX2_leastNumber 40 = .ok (.if_icmp .ne 12, 3) := by decide +kernel
theorem dX2_leastNumber_43 : decode cX2_leastNumber 43 = .ok (.aload_n 0, 1) := by decide +kernel
theorem dX2_leastNumber_44 : decode cX2_leastNumber 44 = .ok (.getfield 9, 3) := by decide +kernel
theorem dX2_leastNumber_47 : decode cX2_leastNumber 47 = .ok (.iconst 2, 1) := by decide +kernel
theorem dX2_leastNumber_48 : decode cX2_leastNumber 48 = .ok (.iaload, 1) := by decide +kernel
theorem dX2_leastNumber_49 : decode cX2_leastNumber 49 = .ok (.goto 4, 3) := by decide +kernel
theorem dX2_leastNumber_52 : decode cX2_leastNumber 52 = .ok (.iconst 0, 1) := by decide +kernel
theorem dX2_leastNumber_53 : decode cX2_leastNumber 53 = .ok (.ireturn, 1) := by decide +kernel
theorem dX2_greatestNumber_0 : decode cX2_greatestNumber 0 = .ok (.iload_n 1, 1) := by decide +kernel
theorem dX2_greatestNumber_1 : decode cX2_greatestNumber 1 = .ok (.tableswitch 103 0 10 #[59, 62, 103, 103, 103, 103, 103, 65, 81, 96, 96], 59) := by decide +kernel
theorem dX2_greatestNumber_60 : decode cX2_greatestNumber 60 = .ok (.bipush 6, 2) := by decide +kernel
theorem dX2_greatestNumber_62 : decode cX2_greatestNumber 62 = .ok (.ireturn, 1) := by decide +kernel
theorem dX2_greatestNumber_63 : decode cX2_greatestNumber 63 = .ok (.bipush 9, 2) := by decide +kernel
theorem dX2_greatestNumber_65 : decode cX2_greatestNumber 65 = .ok (.ireturn, 1) := by decide +kernel
theorem dX2_greatestNumber_66 : decode cX2_greatestNumber 66 = .ok (.iload_n 2, 1) := by decide +kernel
theorem dX2_greatestNumber_67 : decode cX2_greatestNumber 67 = .ok (.ifCond .ne 12, 3) := by decide +kernel
theorem dX2_greatestNumber_70 : decode cX2_greatestNumber 70 = .ok (.aload_n 0, 1) := by decide +kernel
theorem dX2_greatestNumber_71 : decode cX2_greatestNumber 71 = .ok (.getfield 62, 3) := by decide +kernel
theorem dX2_greatestNumber_74 : decode cX2_greatestNumber 74 = .ok (.iconst 1, 1) := by decide +kernel
theorem dX2_greatestNumber_75 : decode cX2_greatestNumber 75 = .ok (.isub, 1) := by decide +kernel
theorem dX2_greatestNumber_76 : decode cX2_greatestNumber 76 = .ok (.goto 5, 3) := by decide +kernel
theorem dX2_greatestNumber_79 : decode cX2_greatestNumber 79 = .ok (.bipush 99, 2) := by decide +kernel
theorem dX2_greatestNumber_81 : decode cX2_greatestNumber 81 = .ok (.ireturn, 1) := by decide +kernel
theorem dX2_greatestNumber_82 : decode cX2_greatestNumber 82 = .ok (.iload_n 2, 1) := by decide +kernel
theorem dX2_greatestNumber_83 : decode cX2_greatestNumber 83 = .ok (.ifCond .ne 12, 3) := by decide +kernel
theorem dX2_greatestNumber_86 : decode cX2_greatestNumber 86 = .ok (.aload_n 0, 1) := by decide +kernel
theorem dX2_greatestNumber_87 : decode cX2_greatestNumber 87 = .ok (.getfield 62, 3) := by decide +kernel
theorem dX2_greatestNumber_90 : decode cX2_greatestNumber 90 = .ok (.iconst 1, 1) := by decide +kernel
theorem dX2_greatestNumber_91 : decode cX2_greatestNumber 91 = .ok (.isub, 1) := by decide +kernel
theorem dX2_greatestNumber_92 : decode cX2_greatestNumber 92 = .ok (.goto 4, 3) := by decide +kernel
theorem dX2_greatestNumber_95 : decode cX2_greatestNumber 95 = .ok (.iconst 3, 1) := by decide +kernel
theorem dX2_greatestNumber_96 : decode cX2_greatestNumber 96 = .ok (.ireturn, 1) := by decide +kernel
theorem dX2_greatestNumber_97 : decode cX2_greatestNumber 97 = .ok (.aload_n 0, 1) := by decide +kernel
theorem dX2_greatestNumber_98 : decode cX2_greatestNumber 98 = .ok (.invokevirtual 115, 3) := by decide +kernel
theorem dX2_greatestNumber_101 : decode cX2_greatestNumber 101 = .ok (.iconst 1, 1) := by decide +kernel
theorem dX2_greatestNumber_102 : decode cX2_greatestNumber 102 = .ok (.isub, 1) := by decide +kernel
theorem dX2_greatestNumber_103 : decode cX2_greatestNumber 103 = .ok (.ireturn, 1) := by decide +kernel
theorem dX2_greatestNumber_104 : decode cX2_greatestNumber 104 = .ok (.iload_n 2, 1) := by decide +kernel
theorem dX2_greatestNumber_105 : decode cX2_greatestNumber 105 = .ok (.ifCond .ne 10, 3) := by decide +kernel
theorem dX2_greatestNumber_108 : decode cX2_greatestNumber 108 = .ok (.aload_n 0, 1) := by decide +kernel
theorem dX2_greatestNumber_109 : decode cX2_greatestNumber 109 = .ok (.invokevirtual 115, 3) := by decide +kernel
theorem dX2_greatestNumber_112 : decode cX2_greatestNumber 112 = .ok (.iconst 1, 1) := by decide +kernel
theorem dX2_greatestNumber_113 : decode cX2_greatestNumber 113 = .ok (.isub, 1) := by decide +kernel
theorem dX2_greatestNumber_114 : decode cX2_greatestNumber 114 = .ok (.ireturn, 1) := by decide +kernel
theorem dX2_greatestNumber_115 : decode cX2_greatestNumber 115 = .ok (.iload_n 2, 1) := by decide +kernel
theorem dX2_greatestNumber_116 : decode cX2_greatestNumber 116 = .ok (.iconst 1, 1) := by decide +kernel
theorem dX2_greatestNumber_117 : decode cX2_greatestNumber 117 = .ok (.if_icmp .ne 8, 3) := by decide +kernel
theorem dX2_greatestNumber_120 : decode cX2_greatestNumber 120 = .ok (.bipush 99, 2) := by decide +kernel
theorem dX2_greatestNumber_122 : decode cX2_greatestNumber 122 = .ok (.goto 5, 3) := by decide +kernel
theorem dX2_greatestNumber_125 : decode cX2_greatestNumber 125 = .ok (.bipush 11, 2) := by decide +kernel
theorem dX2_greatestNumber_127 : decode cX2_greatestNumber 127 = .ok (.ireturn, 1) := by decide +kernel
theorem dX2_doLine_0 : decode cX2_doLine 0 = .ok (.iload_n 2, 1) := by decide +kernel
theorem dX2_doLine_1 : decode cX2_doLine 1 = .ok (.tableswitch 199 0 11 #[63, 82, 95, 199, 199, 199, 199, 118, 138, 159, 172, 191], 63) := by decide +kernel
theorem dX2_doLine_64 : decode cX2_doLine 64 = .ok (.aload_n 1, 1) := by decide +kernel
theorem dX2_doLine_65 : decode cX2_doLine 65 = .ok (.aload_n 0, 1) := by decide +kernel
theorem dX2_doLine_66 : decode cX2_doLine 66 = .ok (.getfield 9, 3) := by decide +kernel
theorem dX2_doLine_69 : decode cX2_doLine 69 = .ok (.iconst 0, 1) := by decide +kernel
theorem dX2_doLine_70 : decode cX2_doLine 70 = .ok (.iaload, 1) := by decide +kernel
theorem dX2_doLine_71 : decode cX2_doLine 71 = .ok (.aload_n 0, 1) := by decide +kernel
theorem dX2_doLine_72 : decode cX2_doLine 72 = .ok (.getfield 9, 3) := by decide +kernel
theorem dX2_doLine_75 : decode cX2_doLine 75 = .ok (.iconst 1, 1) := by decide +kernel
theorem dX2_doLine_76 : decode cX2_doLine 76 = .ok (.iaload, 1) := by decide +kernel
theorem dX2_doLine_77 : decode cX2_doLine 77 = .ok (.invokevirtual 118, 3) := by decide +kernel
theorem dX2_doLine_80 : decode cX2_doLine 80 = .ok (.goto 151, 3) := by decide +kernel
theorem dX2_doLine_83 : decode cX2_doLine 83 = .ok (.aload_n 1, 1) := by decide +kernel
theorem dX2_doLine_84 : decode cX2_doLine 84 = .ok (.aload_n 0, 1) := by decide +kernel
theorem dX2_doLine_85 : decode cX2_doLine 85 = .ok (.getfield 9, 3) := by decide +kernel
theorem dX2_doLine_88 : decode cX2_doLine 88 = .ok (.iconst 0, 1) := by decide +kernel
theorem dX2_doLine_89 : decode cX2_doLine 89 = .ok (.iaload, 1) := by decide +kernel
theorem dX2_doLine_90 : decode cX2_doLine 90 = .ok (.putfield 122, 3) := by decide +kernel
theorem dX2_doLine_93 : decode cX2_doLine 93 = .ok (.goto 138, 3) := by decide +kernel
theorem dX2_doLine_96 : decode cX2_doLine 96 = .ok (.aload_n 1, 1) := by decide +kernel
theorem dX2_doLine_97 : decode cX2_doLine 97 = .ok (.aload_n 0, 1) := by decide +kernel
theorem dX2_doLine_98 : decode cX2_doLine 98 = .ok (.getfield 9, 3) := by decide +kernel
theorem dX2_doLine_101 : decode cX2_doLine 101 = .ok (.iconst 0, 1) := by decide +kernel
theorem dX2_doLine_102 : decode cX2_doLine 102 = .ok (.iaload, 1) := by decide +kernel
theorem dX2_doLine_103 : decode cX2_doLine 103 = .ok (.putfield 124, 3) := by decide +kernel
theorem dX2_doLine_106 : decode cX2_doLine 106 = .ok (.aload_n 1, 1) := by decide +kernel
theorem dX2_doLine_107 : decode cX2_doLine 107 = .ok (.aload_n 0, 1) := by decide +kernel
theorem dX2_doLine_108 : decode cX2_doLine 108 = .ok (.getfield 9, 3) := by decide +kernel
theorem dX2_doLine_111 : decode cX2_doLine 111 = .ok (.iconst 1, 1) := by decide +kernel
theorem dX2_doLine_112 : decode cX2_doLine 112 = .ok (.iaload, 1) := by decide +kernel
theorem dX2_doLine_113 : decode cX2_doLine 113 = .ok (.putfield 127, 3) := by decide +kernel
theorem dX2_doLine_116 : decode cX2_doLine 116 = .ok (.goto 115, 3) := by decide +kernel
theorem dX2_doLine_119 : decode cX2_doLine 119 = .ok (.aload_n 1, 1) := by decide +kernel
theorem dX2_doLine_120 : decode cX2_doLine 120 = .ok (.aload_n 0, 1) := by decide +kernel
theorem dX2_doLine_121 : decode cX2_doLine 121 = .ok (.getfield 9, 3) := by decide +kernel
theorem dX2_doLine_124 : decode cX2_doLine 124 = .ok (.iconst 0, 1) := by decide +kernel
theorem dX2_doLine_125 : decode cX2_doLine 125 = .ok (.iaload, 1) := by decide +kernel
theorem dX2_doLine_126 : decode cX2_doLine 126 = .ok (.iconst 5, 1) := by decide +kernel
theorem dX2_doLine_127 : decode cX2_doLine 127 = .ok (.aload_n 0, 1) := by decide +kernel
theorem dX2_doLine_128 : decode cX2_doLine 128 = .ok (.getfield 9, 3) := by decide +kernel
theorem dX2_doLine_131 : decode cX2_doLine 131 = .ok (.iconst 1, 1) := by decide +kernel
theorem dX2_doLine_132 : decode cX2_doLine 132 = .ok (.iaload, 1) := by decide +kernel
theorem dX2_doLine_133 : decode cX2_doLine 133 = .ok (.invokevirtual 130, 3) := by decide +kernel
theorem dX2_doLine_136 : decode cX2_doLine 136 = .ok (.goto 95, 3) := by decide +kernel
theorem dX2_doLine_139 : decode cX2_doLine 139 = .ok (.aload_n 1, 1) := by decide +kernel
theorem dX2_doLine_140 : decode cX2_doLine 140 = .ok (.aload_n 0, 1) := by decide +kernel
theorem dX2_doLine_141 : decode cX2_doLine 141 = .ok (.getfield 9, 3) := by decide +kernel
theorem dX2_doLine_144 : decode cX2_doLine 144 = .ok (.iconst 0, 1) := by decide +kernel
theorem dX2_doLine_145 : decode cX2_doLine 145 = .ok (.iaload, 1) := by decide +kernel
theorem dX2_doLine_146 : decode cX2_doLine 146 = .ok (.bipush 6, 2) := by decide +kernel
theorem dX2_doLine_148 : decode cX2_doLine 148 = .ok (.aload_n 0, 1) := by decide +kernel
theorem dX2_doLine_149 : decode cX2_doLine 149 = .ok (.getfield 9, 3) := by decide +kernel
theorem dX2_doLine_152 : decode cX2_doLine 152 = .ok (.iconst 1, 1) := by decide +kernel
theorem dX2_doLine_153 : decode cX2_doLine 153 = .ok (.iaload, 1) := by decide +kernel
theorem dX2_doLine_154 : decode cX2_doLine 154 = .ok (.invokevirtual 130, 3) := by decide +kernel
theorem dX2_doLine_157 : decode cX2_doLine 157 = .ok (.goto 74, 3) := by decide +kernel
theorem dX2_doLine_160 : decode cX2_doLine 160 = .ok (.aload_n 1, 1) := by decide +kernel
theorem dX2_doLine_161 : decode cX2_doLine 161 = .ok (.aload_n 0, 1) := by decide +kernel
theorem dX2_doLine_162 : decode cX2_doLine 162 = .ok (.getfield 9, 3) := by decide +kernel
theorem dX2_doLine_165 : decode cX2_doLine 165 = .ok (.iconst 0, 1) := by decide +kernel
theorem dX2_doLine_166 : decode cX2_doLine 166 = .ok (.iaload, 1) := by decide +kernel
theorem dX2_doLine_167 : decode cX2_doLine 167 = .ok (.invokevirtual 134, 3) := by decide +kernel
theorem dX2_doLine_170 : decode cX2_doLine 170 = .ok (.goto 61, 3) := by decide +kernel
theorem dX2_doLine_173 : decode cX2_doLine 173 = .ok (.aload_n 1, 1) := by decide +kernel
theorem dX2_doLine_174 : decode cX2_doLine 174 = .ok (.aload_n 0, 1) := by decide +kernel
theorem dX2_doLine_175 : decode cX2_doLine 175 = .ok (.getfield 9, 3) := by decide +kernel
theorem dX2_doLine_178 : decode cX2_doLine 178 = .ok (.iconst 0, 1) := by decide +kernel
theorem dX2_doLine_179 : decode cX2_doLine 179 = .ok (.iaload, 1) := by decide +kernel
theorem dX2_doLine_180 : decode cX2_doLine 180 = .ok (.aload_n 0, 1) := by decide +kernel
theorem dX2_doLine_181 : decode cX2_doLine 181 = .ok (.getfield 9, 3) := by decide +kernel
theorem dX2_doLine_184 : decode cX2_doLine 184 = .ok (.iconst 1, 1) := by decide +kernel
theorem dX2_doLine_185 : decode cX2_doLine 185 = .ok (.iaload, 1) := by decide +kernel
theorem dX2_doLine_186 : decode cX2_doLine 186 = .ok (.invokevirtual 138, 3) := by decide +kernel
theorem dX2_doLine_189 : decode cX2_doLine 189 = .ok (.goto 42, 3) := by decide +kernel
theorem dX2_doLine_192 : decode cX2_doLine 192 = .ok (.aload_n 1, 1) := by decide +kernel
theorem dX2_doLine_193 : decode cX2_doLine 193 = .ok (.iconst 0, 1) := by decide +kernel
theorem dX2_doLine_194 : decode cX2_doLine 194 = .ok (.putfield 62, 3) := by decide +kernel
theorem dX2_doLine_197 : decode cX2_doLine 197 = .ok (.goto 34, 3) := by decide +kernel
theorem dX2_doLine_200 : decode cX2_doLine 200 = .ok (.aload_n 1, 1) := by decide +kernel
theorem dX2_doLine_201 : decode cX2_doLine 201 = .ok (.iload_n 2, 1) := by decide +kernel
theorem dX2_doLine_202 : decode cX2_doLine 202 = .ok (.iconst 3, 1) := by decide +kernel
theorem dX2_doLine_203 : decode cX2_doLine 203 = .ok (.isub, 1) := by decide +kernel
theorem dX2_doLine_204 : decode cX2_doLine 204 = .ok (.aload_n 0, 1) := by decide +kernel
theorem dX2_doLine_205 : decode cX2_doLine 205 = .ok (.getfield 9, 3) := by decide +kernel
theorem dX2_doLine_208 : decode cX2_doLine 208 = .ok (.iconst 0, 1) := by decide +kernel
theorem dX2_doLine_209 : decode cX2_doLine 209 = .ok (.iaload, 1) := by decide +kernel
theorem dX2_doLine_210 : decode cX2_doLine 210 = .ok (.aload_n 0, 1) := by decide +kernel
theorem dX2_doLine_211 : decode cX2_doLine 211 = .ok (.getfield 9, 3) := by decide +kernel
theorem dX2_doLine_214 : decode cX2_doLine 214 = .ok (.iconst 1, 1) := by decide +kernel
theorem dX2_doLine_215 : decode cX2_doLine 215 = .ok (.iaload, 1) := by decide +kernel
theorem dX2_doLine_216 : decode cX2_doLine 216 = .ok (.aload_n 0, 1) := by decide +kernel
theorem dX2_doLine_217 : decode cX2_doLine 217 = .ok (.getfield 9, 3) := by decide +kernel
theorem dX2_doLine_220 : decode cX2_doLine 220 = .ok (.iconst 2, 1) := by decide +kernel
theorem dX2_doLine_221 : decode cX2_doLine 221 = .ok (.iaload, 1) := by decide +kernel
theorem dX2_doLine_222 : decode cX2_doLine 222 = .ok (.aload_n 0, 1) := by decide +kernel
theorem dX2_doLine_223 : decode cX2_doLine 223 = .ok (.getfield 9, 3) := by decide +kernel
theorem dX2_doLine_226 : decode cX2_doLine 226 = .ok (.iconst 3, 1) := by decide +kernel
theorem dX2_doLine_227 : decode cX2_doLine 227 = .ok (.iaload, 1) := by decide +kernel
theorem dX2_doLine_228 : decode cX2_doLine 228 = .ok (.invokevirtual 141, 3) := by decide +kernel
theorem dX2_doLine_231 : decode cX2_doLine 231 = .ok (.return_, 1) := by decide +kernel
theorem dX3_init_0 : decode cX3_init 0 = .ok (.aload_n 0, 1) := by decide +kernel
theorem dX3_init_1 : decode cX3_init 1 = .ok (.invokespecial 3, 3) := by decide +kernel
theorem dX3_init_4 : decode cX3_init 4 = .ok (.aload_n 0, 1) := by decide +kernel
theorem dX3_init_5 : decode cX3_init 5 = .ok (.sipush 200, 3) := by decide +kernel
theorem dX3_init_8 : decode cX3_init 8 = .ok (.newarray .int, 2) := by decide +kernel
theorem dX3_init_10 : decode cX3_init 10 = .ok (.putfield 11, 3) := by decide +kernel
theorem dX3_init_13 : decode cX3_init 13 = .ok (.return_, 1) := by decide +kernel
theorem dX3_add_0 : decode cX3_add 0 = .ok (.aload_n 0, 1) := by decide +kernel
theorem dX3_add_1 : decode cX3_add 1 = .ok (.getfield 15, 3) := by decide +kernel
theorem dX3_add_4 : decode cX3_add 4 = .ok (.ifCond .lt 33, 3) := by decide +kernel
theorem dX3_add_7 : decode cX3_add 7 = .ok (.aload_n 0, 1) := by decide +kernel
theorem dX3_add_8 : decode cX3_add 8 = .ok (.getfield 15, 3) := by decide +kernel
theorem dX3_add_11 : decode cX3_add 11 = .ok (.sipush 200, 3) := by decide +kernel
theorem dX3_add_14 : decode cX3_add 14 = .ok (.if_icmp .ge 23, 3) := by decide +kernel
theorem dX3_add_17 : decode cX3_add 17 = .ok (.aload_n 0, 1) := by decide +kernel
theorem dX3_add_18 : decode cX3_add 18 = .ok (.getfield 11, 3) := by decide +kernel
theorem dX3_add_21 : decode cX3_add 21 = .ok (.aload_n 0, 1) := by decide +kernel
theorem dX3_add_22 : decode cX3_add 22 = .ok (.getfield 15, 3) := by decide +kernel
theorem dX3_add_25 : decode cX3_add 25 = .ok (.iload_n 1, 1) := by decide +kernel
theorem dX3_add_26 : decode cX3_add 26 = .ok (.iastore, 1) := by decide +kernel
theorem dX3_add_27 : decode cX3_add 27 = .ok (.aload_n 0, 1) := by decide +kernel
theorem dX3_add_28 : decode cX3_add 28 = .ok (.dup, 1) := by decide +kernel
theorem dX3_add_29 : decode cX3_add 29 = .ok (.getfield 15, 3) := by decide +kernel
theorem dX3_add_32 : decode cX3_add 32 = .ok (.iconst 1, 1) := by decide +kernel
theorem dX3_add_33 : decode cX3_add 33 = .ok (.iadd, 1) := by decide +kernel
theorem dX3_add_34 : decode cX3_add 34 = .ok (.putfield 15, 3) := by decide +kernel
theorem dX3_add_37 : decode cX3_add 37 = .ok (.return_, 1) := by decide +kernel
theorem dX3_clear_0 : decode cX3_clear 0 = .ok (.aload_n 0, 1) := by decide +kernel
theorem dX3_clear_1 : decode cX3_clear 1 = .ok (.getfield 15, 3) := by decide +kernel
theorem dX3_clear_4 : decode cX3_clear 4 = .ok (.istore_n 1, 1) := by decide +kernel
theorem dX3_clear_5 : decode cX3_clear 5 = .ok (.aload_n 0, 1) := by decide +kernel
theorem dX3_clear_6 : decode cX3_clear 6 = .ok (.iconst 0, 1) := by decide +kernel
theorem dX3_clear_7 : decode cX3_clear 7 = .ok (.putfield 15, 3) := by decide +kernel
theorem dX3_clear_10 : decode cX3_clear 10 = .ok (.iload_n 1, 1) := by decide +kernel
theorem dX3_clear_11 : decode cX3_clear 11 = .ok (.ireturn, 1) := by decide +kernel
theorem dX3_rewind_0 : decode cX3_rewind 0 = .ok (.aload_n 0, 1) := by decide +kernel
theorem dX3_rewind_1 : decode cX3_rewind 1 = .ok (.iconst 0, 1) := by decide +kernel
theorem dX3_rewind_2 : decode cX3_rewind 2 = .ok (.putfield 19, 3) := by decide +kernel
theorem dX3_rewind_5 : decode cX3_rewind 5 = .ok (.return_, 1) := by decide +kernel
theorem dX3_takeToken_0 : decode cX3_takeToken 0 = .ok (.aload_n 0, 1) := by decide +kernel
theorem dX3_takeToken_1 : decode cX3_takeToken 1 = .ok (.aload_n 0, 1) := by decide +kernel
theorem dX3_takeToken_2 : decode cX3_takeToken 2 = .ok (.getfield 19, 3) := by decide +kernel
theorem dX3_takeToken_5 : decode cX3_takeToken 5 = .ok (.putfield 22, 3) := by decide +kernel
theorem dX3_takeToken_8 : decode cX3_takeToken 8 = .ok (.aload_n 0, 1) := by decide +kernel
theorem dX3_takeToken_9 : decode cX3_takeToken 9 = .ok (.getfield 22, 3) := by decide +kernel
theorem dX3_takeToken_12 : decode cX3_takeToken 12 = .ok (.aload_n 0, 1) := by decide +kernel
theorem dX3_takeToken_13 : decode cX3_takeToken 13 = .ok (.getfield 15, 3) := by decide +kernel
theorem dX3_takeToken_16 : decode cX3_takeToken 16 = .ok (.if_icmp .ge 29, 3) := by decide +kernel
theorem dX3_takeToken_19 : decode cX3_takeToken 19 = .ok (.aload_n 0, 1) := by decide +kernel
theorem dX3_takeToken_20 : decode cX3_takeToken 20 = .ok (.aload_n 0, 1) := by decide +kernel
theorem dX3_takeToken_21 : decode cX3_takeToken 21 = .ok (.getfield 22, 3) := by decide +kernel
theorem dX3_takeToken_24 : decode cX3_takeToken 24 = .ok (.invokevirtual 25, 3) := by decide +kernel
theorem dX3_takeToken_27 : decode cX3_takeToken 27 = .ok (.bipush 32, 2) := by decide +kernel
theorem dX3_takeToken_29 : decode cX3_takeToken 29 = .ok (.if_icmp .ne 16, 3) := by decide +kernel
theorem dX3_takeToken_32 : decode cX3_takeToken 32 = .ok (.aload_n 0, 1) := by decide +kernel
theorem dX3_takeToken_33 : decode cX3_takeToken 33 = .ok (.dup, 1) := by decide +kernel
theorem dX3_takeToken_34 : decode cX3_takeToken 34 = .ok (.getfield 22, 3) := by decide +kernel
theorem dX3_takeToken_37 : decode cX3_takeToken 37 = .ok (.iconst 1, 1) := by decide +kernel
theorem dX3_takeToken_38 : decode cX3_takeToken 38 = .ok (.iadd, 1) := by decide +kernel
theorem dX3_takeToken_39 : decode cX3_takeToken 39 = .ok (.putfield 22, 3) := by decide +kernel
theorem dX3_takeToken_42 : decode cX3_takeToken 42 = .ok (.goto (-34), 3) := by decide +kernel
theorem dX3_takeToken_45 : decode cX3_takeToken 45 = .ok (.aload_n 0, 1) := by decide +kernel
theorem dX3_takeToken_46 : decode cX3_takeToken 46 = .ok (.aload_n 0, 1) := by decide +kernel
theorem dX3_takeToken_47 : decode cX3_takeToken 47 = .ok (.getfield 22, 3) := by decide +kernel
theorem dX3_takeToken_50 : decode cX3_takeToken 50 = .ok (.aload_n 0, 1) := by decide +kernel
theorem dX3_takeToken_51 : decode cX3_takeToken 51 = .ok (.getfield 15, 3) := by decide +kernel
theorem dX3_takeToken_54 : decode cX3_takeToken 54 = .ok (.if_icmp .ge 12, 3) := by decide +kernel
theorem dX3_takeToken_57 : decode cX3_takeToken 57 = .ok (.aload_n 0, 1) := by decide +kernel
theorem dX3_takeToken_58 : decode cX3_takeToken 58 = .ok (.getfield 22, 3) := by decide +kernel
theorem dX3_takeToken_61 : decode cX3_takeToken 61 = .ok (.iconst 1, 1) := by decide +kernel
theorem dX3_takeToken_62 : decode cX3_takeToken 62 = .ok (.iadd, 1) := by decide +kernel
theorem dX3_takeToken_63 : decode cX3_takeToken 63 = .ok (.goto 7, 3) := by decide +kernel
theorem dX3_takeToken_66 : decode cX3_takeToken 66 = .ok (.aload_n 0, 1) := by decide +kernel
theorem dX3_takeToken_67 : decode cX3_takeToken 67 = .ok (.getfield 22, 3) := by decide +kernel
theorem dX3_takeToken_70 : decode cX3_takeToken 70 = .ok (.putfield 19, 3) := by decide +kernel
theorem dX3_takeToken_73 : decode cX3_takeToken 73 = .ok (.aload_n 0, 1) := by decide +kernel
theorem dX3_takeToken_74 : decode cX3_takeToken 74 = .ok (.getfield 19, 3) := by decide +kernel
theorem dX3_takeToken_77 : decode cX3_takeToken 77 = .ok (.aload_n 0, 1) := by decide +kernel
theorem dX3_takeToken_78 : decode cX3_takeToken 78 = .ok (.getfield 15, 3) := by decide +kernel
theorem dX3_takeToken_81 : decode cX3_takeToken 81 = .ok (.if_icmp .ge 38, 3) := by decide +kernel
theorem dX3_takeToken_84 : decode cX3_takeToken 84 = .ok (.aload_n 0, 1) := by decide +kernel
theorem dX3_takeToken_85 : decode cX3_takeToken 85 = .ok (.aload_n 0, 1) := by decide +kernel
theorem dX3_takeToken_86 : decode cX3_takeToken 86 = .ok (.getfield 22, 3) := by decide +kernel
theorem dX3_takeToken_89 : decode cX3_takeToken 89 = .ok (.invokevirtual 25, 3) := by decide +kernel
theorem dX3_takeToken_92 : decode cX3_takeToken 92 = .ok (.aload_n 0, 1) := by decide +kernel
theorem dX3_takeToken_93 : decode cX3_takeToken 93 = .ok (.aload_n 0, 1) := by decide +kernel
theorem dX3_takeToken_94 : decode cX3_takeToken 94 = .ok (.getfield 19, 3) := by decide +kernel
theorem dX3_takeToken_97 : decode cX3_takeToken 97 = .ok (.invokevirtual 25, 3) := by decide +kernel
theorem dX3_takeToken_100 : decode cX3_takeToken 100 = .ok (.invokestatic 29, 3) := by decide +kernel
theorem dX3_takeToken_103 : decode cX3_takeToken 103 = .ok (.ifCond .eq 16, 3) := by decide +kernel
theorem dX3_takeToken_106 : decode cX3_takeToken 106 = .ok (.aload_n 0, 1) := by decide +kernel
theorem dX3_takeToken_107 : decode cX3_takeToken 107 = .ok (.dup, 1) := by decide +kernel
theorem dX3_takeToken_108 : decode cX3_takeToken 108 = .ok (.getfield 19, 3) := by decide +kernel
theorem dX3_takeToken_111 : decode cX3_takeToken 111 = .ok (.iconst 1, 1) := by decide +kernel
theorem dX3_takeToken_112 : decode cX3_takeToken 112 = .ok (.iadd, 1) := by decide +kernel
theorem dX3_takeToken_113 : decode cX3_takeToken 113 = .ok (.putfield 19, 3) := by decide +kernel
theorem dX3_takeToken_116 : decode cX3_takeToken 116 = .ok (.goto (-43), 3) := by decide +kernel
theorem dX3_takeToken_119 : decode cX3_takeToken 119 = .ok (.return_, 1) := by decide +kernel
theorem dX3_tokenPlace_0 : decode cX3_tokenPlace 0 = .ok (.aload_n 0, 1) := by decide +kernel
theorem dX3_tokenPlace_1 : decode cX3_tokenPlace 1 = .ok (.getfield 22, 3) := by decide +kernel
theorem dX3_tokenPlace_4 : decode cX3_tokenPlace 4 = .ok (.ireturn, 1) := by decide +kernel
theorem dX3_isAtEnd_0 : decode cX3_isAtEnd 0 = .ok (.aload_n 0, 1) := by decide +kernel
theorem dX3_isAtEnd_1 : decode cX3_isAtEnd 1 = .ok (.getfield 22, 3) := by decide +kernel
theorem dX3_isAtEnd_4 : decode cX3_isAtEnd 4 = .ok (.aload_n 0, 1) := by decide +kernel
theorem dX3_isAtEnd_5 : decode cX3_isAtEnd 5 = .ok (.getfield 15, 3) := by decide +kernel
theorem dX3_isAtEnd_8 : decode cX3_isAtEnd 8 = .ok (.if_icmp .lt 7, 3) := by decide +kernel
theorem dX3_isAtEnd_11 : decode cX3_isAtEnd 11 = .ok (.iconst 1, 1) := by decide +kernel
theorem dX3_isAtEnd_12 : decode cX3_isAtEnd 12 = .ok (.goto 4, 3) := by decide +kernel
theorem dX3_isAtEnd_15 : decode cX3_isAtEnd 15 = .ok (.iconst 0, 1) := by decide +kernel
theorem dX3_isAtEnd_16 : decode cX3_isAtEnd 16 = .ok (.ireturn, 1) := by decide +kernel
theorem dX3_isToken_0 : decode cX3_isToken 0 = .ok (.aload_n 0, 1) := by decide +kernel
theorem dX3_isToken_1 : decode cX3_isToken 1 = .ok (.getfield 19, 3) := by decide +kernel
theorem dX3_isToken_4 : decode cX3_isToken 4 = .ok (.aload_n 0, 1) := by decide +kernel
theorem dX3_isToken_5 : decode cX3_isToken 5 = .ok (.getfield 22, 3) := by decide +kernel
theorem dX3_isToken_8 : decode cX3_isToken 8 = .ok (.isub, 1) := by decide +kernel
theorem dX3_isToken_9 : decode cX3_isToken 9 = .ok (.aload_n 1, 1) := by decide +kernel
theorem dX3_isToken_10 : decode cX3_isToken 10 = .ok (.invokevirtual 33, 3) := by decide +kernel
theorem dX3_isToken_13 : decode cX3_isToken 13 = .ok (.if_icmp .eq 5, 3) := by decide +kernel
theorem dX3_isToken_16 : decode cX3_isToken 16 = .ok (.iconst 0, 1) := by decide +kernel
theorem dX3_isToken_17 : decode cX3_isToken 17 = .ok (.ireturn, 1) := by decide +kernel
theorem dX3_isToken_18 : decode cX3_isToken 18 = .ok (.iconst 0, 1) := by decide +kernel
theorem dX3_isToken_19 : decode cX3_isToken 19 = .ok (.istore_n 2, 1) := by decide +kernel
theorem dX3_isToken_20 : decode cX3_isToken 20 = .ok (.iload_n 2, 1) := by decide +kernel
theorem dX3_isToken_21 : decode cX3_isToken 21 = .ok (.aload_n 1, 1) := by decide +kernel
theorem dX3_isToken_22 : decode cX3_isToken 22 = .ok (.invokevirtual 33, 3) := by decide +kernel
theorem dX3_isToken_25 : decode cX3_isToken 25 = .ok (.if_icmp .ge 29, 3) := by decide +kernel
theorem dX3_isToken_28 : decode cX3_isToken 28 = .ok (.aload_n 0, 1) := by decide +kernel
theorem dX3_isToken_29 : decode cX3_isToken 29 = .ok (.aload_n 0, 1) := by decide +kernel
theorem dX3_isToken_30 : decode cX3_isToken 30 = .ok (.getfield 22, 3) := by decide +kernel
theorem dX3_isToken_33 : decode cX3_isToken 33 = .ok (.iload_n 2, 1) := by decide +kernel
theorem dX3_isToken_34 : decode cX3_isToken 34 = .ok (.iadd, 1) := by decide +kernel
theorem dX3_isToken_35 : decode cX3_isToken 35 = .ok (.invokevirtual 25, 3) := by decide +kernel
theorem dX3_isToken_38 : decode cX3_isToken 38 = .ok (.aload_n 1, 1) := by decide +kernel
theorem dX3_isToken_39 : decode cX3_isToken 39 = .ok (.iload_n 2, 1) := by decide +kernel
theorem dX3_isToken_40 : decode cX3_isToken 40 = .ok (.invokevirtual 38, 3) := by decide +kernel
theorem dX3_isToken_43 : decode cX3_isToken 43 = .ok (.if_icmp .eq 5, 3) := by decide +kernel
theorem dX3_isToken_46 : decode cX3_isToken 46 = .ok (.iconst 0, 1) := by decide +kernel
theorem dX3_isToken_47 : decode cX3_isToken 47 = .ok (.ireturn, 1) := by decide +kernel
theorem dX3_isToken_48 : decode cX3_isToken 48 = .ok (.iinc 2 1, 3) := by decide +kernel
theorem dX3_isToken_51 : decode cX3_isToken 51 = .ok (.goto (-31), 3) := by decide +kernel
theorem dX3_isToken_54 : decode cX3_isToken 54 = .ok (.iconst 1, 1) := by decide +kernel
theorem dX3_isToken_55 : decode cX3_isToken 55 = .ok (.ireturn, 1) := by decide +kernel
theorem dX3_number_0 : decode cX3_number 0 = .ok (.aload_n 0, 1) := by decide +kernel
theorem dX3_number_1 : decode cX3_number 1 = .ok (.getfield 19, 3) := by decide +kernel
theorem dX3_number_4 : decode cX3_number 4 = .ok (.aload_n 0, 1) := by decide +kernel
theorem dX3_number_5 : decode cX3_number 5 = .ok (.getfield 22, 3) := by decide +kernel
theorem dX3_number_8 : decode cX3_number 8 = .ok (.isub, 1) := by decide +kernel
theorem dX3_number_9 : decode cX3_number 9 = .ok (.istore_n 1, 1) := by decide +kernel
theorem dX3_number_10 : decode cX3_number 10 = .ok (.iload_n 1, 1) := by decide +kernel
theorem dX3_number_11 : decode cX3_number 11 = .ok (.iconst 1, 1) := by decide +kernel
theorem dX3_number_12 : decode cX3_number 12 = .ok (.if_icmp .lt 8, 3) := by decide +kernel
theorem dX3_number_15 : decode cX3_number 15 = .ok (.iload_n 1, 1) := by decide +kernel
theorem dX3_number_16 : decode cX3_number 16 = .ok (.iconst 2, 1) := by decide +kernel
theorem dX3_number_17 : decode cX3_number 17 = .ok (.if_icmp .le 5, 3) := by decide +kernel
theorem dX3_number_20 : decode cX3_number 20 = .ok (.iconst (-1), 1) := by decide +kernel
theorem dX3_number_21 : decode cX3_number 21 = .ok (.ireturn, 1) := by decide +kernel
theorem dX3_number_22 : decode cX3_number 22 = .ok (.iconst 0, 1) := by decide +kernel
theorem dX3_number_23 : decode cX3_number 23 = .ok (.istore_n 2, 1) := by decide +kernel
theorem dX3_number_24 : decode cX3_number 24 = .ok (.aload_n 0, 1) := by decide +kernel
theorem dX3_number_25 : decode cX3_number 25 = .ok (.getfield 22, 3) := by decide +kernel
theorem dX3_number_28 : decode cX3_number 28 = .ok (.istore_n 3, 1) := by decide +kernel
theorem dX3_number_29 : decode cX3_number 29 = .ok (.iload_n 3, 1) := by decide +kernel
theorem dX3_number_30 : decode cX3_number 30 = .ok (.aload_n 0, 1) := by decide +kernel
theorem dX3_number_31 : decode cX3_number 31 = .ok (.getfield 19, 3) := by decide +kernel
theorem dX3_number_34 : decode cX3_number 34 = .ok (.if_icmp .ge 36, 3) := by decide +kernel
theorem dX3_number_37 : decode cX3_number 37 = .ok (.aload_n 0, 1) := by decide +kernel
theorem dX3_number_38 : decode cX3_number 38 = .ok (.iload_n 3, 1) := by decide +kernel
theorem dX3_number_39 : decode cX3_number 39 = .ok (.invokevirtual 25, 3) := by decide +kernel
theorem dX3_number_42 : decode cX3_number 42 = .ok (.invokestatic 42, 3) := by decide +kernel
theorem dX3_number_45 : decode cX3_number 45 = .ok (.ifCond .ne 5, 3) := by decide +kernel
theorem dX3_number_48 : decode cX3_number 48 = .ok (.iconst (-1), 1) := by decide +kernel
theorem dX3_number_49 : decode cX3_number 49 = .ok (.ireturn, 1) := by decide +kernel
theorem dX3_number_50 : decode cX3_number 50 = .ok (.iload_n 2, 1) := by decide +kernel
theorem dX3_number_51 : decode cX3_number 51 = .ok (.bipush 10, 2) := by decide +kernel
theorem dX3_number_53 : decode cX3_number 53 = .ok (.imul, 1) := by decide +kernel
theorem dX3_number_54 : decode cX3_number 54 = .ok (.aload_n 0, 1) := by decide +kernel
theorem dX3_number_55 : decode cX3_number 55 = .ok (.iload_n 3, 1) := by decide +kernel
theorem dX3_number_56 : decode cX3_number 56 = .ok (.invokevirtual 25, 3) := by decide +kernel
theorem dX3_number_59 : decode cX3_number 59 = .ok (.iadd, 1) := by decide +kernel
theorem dX3_number_60 : decode cX3_number 60 = .ok (.bipush 48, 2) := by decide +kernel
theorem dX3_number_62 : decode cX3_number 62 = .ok (.isub, 1) := by decide +kernel
theorem dX3_number_63 : decode cX3_number 63 = .ok (.istore_n 2, 1) := by decide +kernel
theorem dX3_number_64 : decode cX3_number 64 = .ok (.iinc 3 1, 3) := by decide +kernel
theorem dX3_number_67 : decode cX3_number 67 = .ok (.goto (-38), 3) := by decide +kernel
theorem dX3_number_70 : decode cX3_number 70 = .ok (.iload_n 2, 1) := by decide +kernel
theorem dX3_number_71 : decode cX3_number 71 = .ok (.ireturn, 1) := by decide +kernel
theorem dX3_byteAt_0 : decode cX3_byteAt 0 = .ok (.iload_n 1, 1) := by decide +kernel
theorem dX3_byteAt_1 : decode cX3_byteAt 1 = .ok (.ifCond .lt 27, 3) := by decide +kernel
theorem dX3_byteAt_4 : decode cX3_byteAt 4 = .ok (.iload_n 1, 1) := by decide +kernel
theorem dX3_byteAt_5 : decode cX3_byteAt 5 = .ok (.aload_n 0, 1) := by decide +kernel
theorem dX3_byteAt_6 : decode cX3_byteAt 6 = .ok (.getfield 15, 3) := by decide +kernel
theorem dX3_byteAt_9 : decode cX3_byteAt 9 = .ok (.if_icmp .ge 19, 3) := by decide +kernel
theorem dX3_byteAt_12 : decode cX3_byteAt 12 = .ok (.iload_n 1, 1) := by decide +kernel
theorem dX3_byteAt_13 : decode cX3_byteAt 13 = .ok (.sipush 200, 3) := by decide +kernel
theorem dX3_byteAt_16 : decode cX3_byteAt 16 = .ok (.if_icmp .ge 12, 3) := by decide +kernel
theorem dX3_byteAt_19 : decode cX3_byteAt 19 = .ok (.aload_n 0, 1) := by decide +kernel
theorem dX3_byteAt_20 : decode cX3_byteAt 20 = .ok (.getfield 11, 3) := by decide +kernel
theorem dX3_byteAt_23 : decode cX3_byteAt 23 = .ok (.iload_n 1, 1) := by decide +kernel
theorem dX3_byteAt_24 : decode cX3_byteAt 24 = .ok (.iaload, 1) := by decide +kernel
theorem dX3_byteAt_25 : decode cX3_byteAt 25 = .ok (.goto 4, 3) := by decide +kernel
theorem dX3_byteAt_28 : decode cX3_byteAt 28 = .ok (.iconst (-1), 1) := by decide +kernel
theorem dX3_byteAt_29 : decode cX3_byteAt 29 = .ok (.ireturn, 1) := by decide +kernel
theorem dX3_areOfOneRow_0 : decode cX3_areOfOneRow 0 = .ok (.iload_n 0, 1) := by decide +kernel
theorem dX3_areOfOneRow_1 : decode cX3_areOfOneRow 1 = .ok (.invokestatic 42, 3) := by decide +kernel
theorem dX3_areOfOneRow_4 : decode cX3_areOfOneRow 4 = .ok (.ifCond .eq 10, 3) := by decide +kernel
theorem dX3_areOfOneRow_7 : decode cX3_areOfOneRow 7 = .ok (.iload_n 1, 1) := by decide +kernel
theorem dX3_areOfOneRow_8 : decode cX3_areOfOneRow 8 = .ok (.invokestatic 42, 3) := by decide +kernel
theorem dX3_areOfOneRow_11 : decode cX3_areOfOneRow 11 = .ok (.ifCond .ne 17, 3) := by decide +kernel
theorem dX3_areOfOneRow_14 : decode cX3_areOfOneRow 14 = .ok (.iload_n 0, 1) := by decide +kernel
theorem dX3_areOfOneRow_15 : decode cX3_areOfOneRow 15 = .ok (.invokestatic 46, 3) := by decide +kernel
theorem dX3_areOfOneRow_18 : decode cX3_areOfOneRow 18 = .ok (.ifCond .eq 14, 3) := by decide +kernel
theorem dX3_areOfOneRow_21 : decode cX3_areOfOneRow 21 = .ok (.iload_n 1, 1) := by decide +kernel
theorem dX3_areOfOneRow_22 : decode cX3_areOfOneRow 22 = .ok (.invokestatic 46, 3) := by decide +kernel
theorem dX3_areOfOneRow_25 : decode cX3_areOfOneRow 25 = .ok (.ifCond .eq 7, 3) := by decide +kernel
theorem dX3_areOfOneRow_28 : decode cX3_areOfOneRow 28 = .ok (.iconst 1, 1) := by decide +kernel
theorem dX3_areOfOneRow_29 : decode cX3_areOfOneRow 29 = .ok (.goto 4, 3) := by decide +kernel
theorem dX3_areOfOneRow_32 : decode cX3_areOfOneRow 32 = .ok (.iconst 0, 1) := by decide +kernel
theorem dX3_areOfOneRow_33 : decode cX3_areOfOneRow 33 = .ok (.ireturn, 1) := by decide +kernel
theorem dX3_isDigit_0 : decode cX3_isDigit 0 = .ok (.iload_n 0, 1) := by decide +kernel
theorem dX3_isDigit_1 : decode cX3_isDigit 1 = .ok (.bipush 48, 2) := by decide +kernel
theorem dX3_isDigit_3 : decode cX3_isDigit 3 = .ok (.if_icmp .lt 13, 3) := by decide +kernel
theorem dX3_isDigit_6 : decode cX3_isDigit 6 = .ok (.iload_n 0, 1) := by decide +kernel
theorem dX3_isDigit_7 : decode cX3_isDigit 7 = .ok (.bipush 57, 2) := by decide +kernel
theorem dX3_isDigit_9 : decode cX3_isDigit 9 = .ok (.if_icmp .gt 7, 3) := by decide +kernel
theorem dX3_isDigit_12 : decode cX3_isDigit 12 = .ok (.iconst 1, 1) := by decide +kernel
theorem dX3_isDigit_13 : decode cX3_isDigit 13 = .ok (.goto 4, 3) := by decide +kernel
theorem dX3_isDigit_16 : decode cX3_isDigit 16 = .ok (.iconst 0, 1) := by decide +kernel
theorem dX3_isDigit_17 : decode cX3_isDigit 17 = .ok (.ireturn, 1) := by decide +kernel
theorem dX3_isLetter_0 : decode cX3_isLetter 0 = .ok (.iload_n 0, 1) := by decide +kernel
theorem dX3_isLetter_1 : decode cX3_isLetter 1 = .ok (.bipush 97, 2) := by decide +kernel
theorem dX3_isLetter_3 : decode cX3_isLetter 3 = .ok (.if_icmp .lt 13, 3) := by decide +kernel
theorem dX3_isLetter_6 : decode cX3_isLetter 6 = .ok (.iload_n 0, 1) := by decide +kernel
theorem dX3_isLetter_7 : decode cX3_isLetter 7 = .ok (.bipush 122, 2) := by decide +kernel
theorem dX3_isLetter_9 : decode cX3_isLetter 9 = .ok (.if_icmp .gt 7, 3) := by decide +kernel
theorem dX3_isLetter_12 : decode cX3_isLetter 12 = .ok (.iconst 1, 1) := by decide +kernel
theorem dX3_isLetter_13 : decode cX3_isLetter 13 = .ok (.goto 4, 3) := by decide +kernel
theorem dX3_isLetter_16 : decode cX3_isLetter 16 = .ok (.iconst 0, 1) := by decide +kernel
theorem dX3_isLetter_17 : decode cX3_isLetter 17 = .ok (.ireturn, 1) := by decide +kernel
theorem dX4_init_0 : decode cX4_init 0 = .ok (.aload_n 0, 1) := by decide +kernel
theorem dX4_init_1 : decode cX4_init 1 = .ok (.invokespecial 1, 3) := by decide +kernel
theorem dX4_init_4 : decode cX4_init 4 = .ok (.aload_n 0, 1) := by decide +kernel
theorem dX4_init_5 : decode cX4_init 5 = .ok (.new 7, 3) := by decide +kernel
theorem dX4_init_8 : decode cX4_init 8 = .ok (.dup, 1) := by decide +kernel
theorem dX4_init_9 : decode cX4_init 9 = .ok (.invokespecial 9, 3) := by decide +kernel
theorem dX4_init_12 : decode cX4_init 12 = .ok (.putfield 10, 3) := by decide +kernel
theorem dX4_init_15 : decode cX4_init 15 = .ok (.aload_n 0, 1) := by decide +kernel
theorem dX4_init_16 : decode cX4_init 16 = .ok (.new 16, 3) := by decide +kernel
theorem dX4_init_19 : decode cX4_init 19 = .ok (.dup, 1) := by decide +kernel
theorem dX4_init_20 : decode cX4_init 20 = .ok (.invokespecial 18, 3) := by decide +kernel
theorem dX4_init_23 : decode cX4_init 23 = .ok (.putfield 19, 3) := by decide +kernel
theorem dX4_init_26 : decode cX4_init 26 = .ok (.aload_n 0, 1) := by decide +kernel
theorem dX4_init_27 : decode cX4_init 27 = .ok (.new 23, 3) := by decide +kernel
theorem dX4_init_30 : decode cX4_init 30 = .ok (.dup, 1) := by decide +kernel
theorem dX4_init_31 : decode cX4_init 31 = .ok (.invokespecial 25, 3) := by decide +kernel
theorem dX4_init_34 : decode cX4_init 34 = .ok (.putfield 26, 3) := by decide +kernel
theorem dX4_init_37 : decode cX4_init 37 = .ok (.aload_n 0, 1) := by decide +kernel
theorem dX4_init_38 : decode cX4_init 38 = .ok (.new 30, 3) := by decide +kernel
theorem dX4_init_41 : decode cX4_init 41 = .ok (.dup, 1) := by decide +kernel
theorem dX4_init_42 : decode cX4_init 42 = .ok (.invokespecial 32, 3) := by decide +kernel
theorem dX4_init_45 : decode cX4_init 45 = .ok (.putfield 33, 3) := by decide +kernel
theorem dX4_init_48 : decode cX4_init 48 = .ok (.aload_n 0, 1) := by decide +kernel
theorem dX4_init_49 : decode cX4_init 49 = .ok (.new 23, 3) := by decide +kernel
theorem dX4_init_52 : decode cX4_init 52 = .ok (.dup, 1) := by decide +kernel
theorem dX4_init_53 : decode cX4_init 53 = .ok (.invokespecial 25, 3) := by decide +kernel
theorem dX4_init_56 : decode cX4_init 56 = .ok (.putfield 37, 3) := by decide +kernel
theorem dX4_init_59 : decode cX4_init 59 = .ok (.aload_n 0, 1) := by decide +kernel
theorem dX4_init_60 : decode cX4_init 60 = .ok (.new 30, 3) := by decide +kernel
theorem dX4_init_63 : decode cX4_init 63 = .ok (.dup, 1) := by decide +kernel
theorem dX4_init_64 : decode cX4_init 64 = .ok (.invokespecial 32, 3) := by decide +kernel
theorem dX4_init_67 : decode cX4_init 67 = .ok (.putfield 40, 3) := by decide +kernel
theorem dX4_init_70 : decode cX4_init 70 = .ok (.aload_n 0, 1) := by decide +kernel
theorem dX4_init_71 : decode cX4_init 71 = .ok (.iconst 2, 1) := by decide +kernel
theorem dX4_init_72 : decode cX4_init 72 = .ok (.newarray .int, 2) := by decide +kernel
theorem dX4_init_74 : decode cX4_init 74 = .ok (.putfield 43, 3) := by decide +kernel
theorem dX4_init_77 : decode cX4_init 77 = .ok (.aload_n 0, 1) := by decide +kernel
theorem dX4_init_78 : decode cX4_init 78 = .ok (.iconst 2, 1) := by decide +kernel
theorem dX4_init_79 : decode cX4_init 79 = .ok (.newarray .int, 2) := by decide +kernel
theorem dX4_init_81 : decode cX4_init 81 = .ok (.putfield 47, 3) := by decide +kernel
theorem dX4_init_84 : decode cX4_init 84 = .ok (.aload_n 0, 1) := by decide +kernel
theorem dX4_init_85 : decode cX4_init 85 = .ok (.iconst 2, 1) := by decide +kernel
theorem dX4_init_86 : decode cX4_init 86 = .ok (.newarray .int, 2) := by decide +kernel
theorem dX4_init_88 : decode cX4_init 88 = .ok (.putfield 50, 3) := by decide +kernel
theorem dX4_init_91 : decode cX4_init 91 = .ok (.aload_n 0, 1) := by decide +kernel
theorem dX4_init_92 : decode cX4_init 92 = .ok (.bipush 8, 2) := by decide +kernel
theorem dX4_init_94 : decode cX4_init 94 = .ok (.newarray .int, 2) := by decide +kernel
theorem dX4_init_96 : decode cX4_init 96 = .ok (.putfield 53, 3) := by decide +kernel
theorem dX4_init_99 : decode cX4_init 99 = .ok (.aload_n 0, 1) := by decide +kernel
theorem dX4_init_100 : decode cX4_init 100 = .ok (.bipush 8, 2) := by decide +kernel
theorem dX4_init_102 : decode cX4_init 102 = .ok (.newarray .int, 2) := by decide +kernel
theorem dX4_init_104 : decode cX4_init 104 = .ok (.putfield 56, 3) := by decide +kernel
theorem dX4_init_107 : decode cX4_init 107 = .ok (.aload_n 0, 1) := by decide +kernel
theorem dX4_init_108 : decode cX4_init 108 = .ok (.bipush 8, 2) := by decide +kernel
theorem dX4_init_110 : decode cX4_init 110 = .ok (.newarray .int, 2) := by decide +kernel
theorem dX4_init_112 : decode cX4_init 112 = .ok (.putfield 59, 3) := by decide +kernel
theorem dX4_init_115 : decode cX4_init 115 = .ok (.aload_n 0, 1) := by decide +kernel
theorem dX4_init_116 : decode cX4_init 116 = .ok (.bipush 12, 2) := by decide +kernel
theorem dX4_init_118 : decode cX4_init 118 = .ok (.newarray .long, 2) := by decide +kernel
theorem dX4_init_120 : decode cX4_init 120 = .ok (.putfield 62, 3) := by decide +kernel
theorem dX4_init_123 : decode cX4_init 123 = .ok (.aload_n 0, 1) := by decide +kernel
theorem dX4_init_124 : decode cX4_init 124 = .ok (.getfield 33, 3) := by decide +kernel
theorem dX4_init_127 : decode cX4_init 127 = .ok (.aload_n 0, 1) := by decide +kernel
theorem dX4_init_128 : decode cX4_init 128 = .ok (.getfield 26, 3) := by decide +kernel
theorem dX4_init_131 : decode cX4_init 131 = .ok (.invokevirtual 66, 3) := by decide +kernel
theorem dX4_init_134 : decode cX4_init 134 = .ok (.aload_n 0, 1) := by decide +kernel
theorem dX4_init_135 : decode cX4_init 135 = .ok (.invokevirtual 70, 3) := by decide +kernel
theorem dX4_init_138 : decode cX4_init 138 = .ok (.return_, 1) := by decide +kernel
theorem dX4_write_0 : decode cX4_write 0 = .ok (.iload_n 3, 1) := by decide +kernel
theorem dX4_write_1 : decode cX4_write 1 = .ok (.iconst 1, 1) := by decide +kernel
theorem dX4_write_2 : decode cX4_write 2 = .ok (.if_icmp .lt 9, 3) := by decide +kernel
theorem dX4_write_5 : decode cX4_write 5 = .ok (.iload_n 3, 1) := by decide +kernel
theorem dX4_write_6 : decode cX4_write 6 = .ok (.bipush 8, 2) := by decide +kernel
theorem dX4_write_8 : decode cX4_write 8 = .ok (.if_icmp .le 6, 3) := by decide +kernel
theorem dX4_write_11 : decode cX4_write 11 = .ok (.bipush (-3), 2) := by decide +kernel
theorem dX4_write_13 : decode cX4_write 13 = .ok (.ireturn, 1) := by decide +kernel
theorem dX4_write_14 : decode cX4_write 14 = .ok (.aload_n 0, 1) := by decide +kernel
theorem dX4_write_15 : decode cX4_write 15 = .ok (.getfield 10, 3) := by decide +kernel
theorem dX4_write_18 : decode cX4_write 18 = .ok (.getfield 73, 3) := by decide +kernel
theorem dX4_write_21 : decode cX4_write 21 = .ok (.iload_n 3, 1) := by decide +kernel
theorem dX4_write_22 : decode cX4_write 22 = .ok (.iadd, 1) := by decide +kernel
theorem dX4_write_23 : decode cX4_write 23 = .ok (.sipush 200, 3) := by decide +kernel
theorem dX4_write_26 : decode cX4_write 26 = .ok (.if_icmp .le 6, 3) := by decide +kernel
theorem dX4_write_29 : decode cX4_write 29 = .ok (.bipush (-5), 2) := by decide +kernel
theorem dX4_write_31 : decode cX4_write 31 = .ok (.ireturn, 1) := by decide +kernel
theorem dX4_write_32 : decode cX4_write 32 = .ok (.iconst 0, 1) := by decide +kernel
theorem dX4_write_33 : decode cX4_write 33 = .ok (.istore 4, 2) := by decide +kernel
theorem dX4_write_35 : decode cX4_write 35 = .ok (.iload 4, 2) := by decide +kernel
theorem dX4_write_37 : decode cX4_write 37 = .ok (.iload_n 3, 1) := by decide +kernel
theorem dX4_write_38 : decode cX4_write 38 = .ok (.if_icmp .ge 28, 3) := by decide +kernel
theorem dX4_write_41 : decode cX4_write 41 = .ok (.aload_n 0, 1) := by decide +kernel
theorem dX4_write_42 : decode cX4_write 42 = .ok (.getfield 10, 3) := by decide +kernel
theorem dX4_write_45 : decode cX4_write 45 = .ok (.lload_n 1, 1) := by decide +kernel
theorem dX4_write_46 : decode cX4_write 46 = .ok (.bipush 8, 2) := by decide +kernel
theorem dX4_write_48 : decode cX4_write 48 = .ok (.iload 4, 2) := by decide +kernel
theorem dX4_write_50 : decode cX4_write 50 = .ok (.imul, 1) := by decide +kernel
theorem dX4_write_51 : decode cX4_write 51 = .ok (.lshr, 1) := by decide +kernel
theorem dX4_write_52 : decode cX4_write 52 = .ok (.ldc2_w 77, 3) := by decide +kernel
theorem dX4_write_55 : decode cX4_write 55 = .ok (.land, 1) := by decide +kernel
theorem dX4_write_56 : decode cX4_write 56 = .ok (.l2i, 1) := by decide +kernel
theorem dX4_write_57 : decode cX4_write 57 = .ok (.invokevirtual 79, 3) := by decide +kernel
theorem dX4_write_60 : decode cX4_write 60 = .ok (.iinc 4 1, 3) := by decide +kernel
theorem dX4_write_63 : decode cX4_write 63 = .ok (.goto (-28), 3) := by decide +kernel
theorem dX4_write_66 : decode cX4_write 66 = .ok (.aload_n 0, 1) := by decide +kernel
theorem dX4_write_67 : decode cX4_write 67 = .ok (.getfield 10, 3) := by decide +kernel
theorem dX4_write_70 : decode cX4_write 70 = .ok (.getfield 73, 3) := by decide +kernel
theorem dX4_write_73 : decode cX4_write 73 = .ok (.ireturn, 1) := by decide +kernel
theorem dX4_erase_0 : decode cX4_erase 0 = .ok (.aload_n 0, 1) := by decide +kernel
theorem dX4_erase_1 : decode cX4_erase 1 = .ok (.getfield 10, 3) := by decide +kernel
theorem dX4_erase_4 : decode cX4_erase 4 = .ok (.invokevirtual 83, 3) := by decide +kernel
theorem dX4_erase_7 : decode cX4_erase 7 = .ok (.ireturn, 1) := by decide +kernel
theorem dX4_fault_0 : decode cX4_fault 0 = .ok (.aload_n 0, 1) := by decide +kernel
theorem dX4_fault_1 : decode cX4_fault 1 = .ok (.getfield 19, 3) := by decide +kernel
theorem dX4_fault_4 : decode cX4_fault 4 = .ok (.aload_n 0, 1) := by decide +kernel
theorem dX4_fault_5 : decode cX4_fault 5 = .ok (.getfield 10, 3) := by decide +kernel
theorem dX4_fault_8 : decode cX4_fault 8 = .ok (.aload_n 0, 1) := by decide +kernel
theorem dX4_fault_9 : decode cX4_fault 9 = .ok (.getfield 26, 3) := by decide +kernel
theorem dX4_fault_12 : decode cX4_fault 12 = .ok (.aload_n 0, 1) := by decide +kernel
theorem dX4_fault_13 : decode cX4_fault 13 = .ok (.getfield 37, 3) := by decide +kernel
theorem dX4_fault_16 : decode cX4_fault 16 = .ok (.invokevirtual 87, 3) := by decide +kernel
theorem dX4_fault_19 : decode cX4_fault 19 = .ok (.ireturn, 1) := by decide +kernel
theorem dX4_park_0 : decode cX4_park 0 = .ok (.aload_n 0, 1) := by decide +kernel
theorem dX4_park_1 : decode cX4_park 1 = .ok (.getfield 19, 3) := by decide +kernel
theorem dX4_park_4 : decode cX4_park 4 = .ok (.aload_n 0, 1) := by decide +kernel
theorem dX4_park_5 : decode cX4_park 5 = .ok (.getfield 10, 3) := by decide +kernel
theorem dX4_park_8 : decode cX4_park 8 = .ok (.aload_n 0, 1) := by decide +kernel
theorem dX4_park_9 : decode cX4_park 9 = .ok (.getfield 26, 3) := by decide +kernel
theorem dX4_park_12 : decode cX4_park 12 = .ok (.aload_n 0, 1) := by decide +kernel
theorem dX4_park_13 : decode cX4_park 13 = .ok (.getfield 37, 3) := by decide +kernel
theorem dX4_park_16 : decode cX4_park 16 = .ok (.invokevirtual 87, 3) := by decide +kernel
theorem dX4_park_19 : decode cX4_park 19 = .ok (.iconst (-1), 1) := by decide +kernel
theorem dX4_park_20 : decode cX4_park 20 = .ok (.if_icmp .eq 6, 3) := by decide +kernel
theorem dX4_park_23 : decode cX4_park 23 = .ok (.bipush (-4), 2) := by decide +kernel
theorem dX4_park_25 : decode cX4_park 25 = .ok (.ireturn, 1) := by decide +kernel
theorem dX4_park_26 : decode cX4_park 26 = .ok (.aload_n 0, 1) := by decide +kernel
theorem dX4_park_27 : decode cX4_park 27 = .ok (.getfield 26, 3) := by decide +kernel
theorem dX4_park_30 : decode cX4_park 30 = .ok (.aload_n 0, 1) := by decide +kernel
theorem dX4_park_31 : decode cX4_park 31 = .ok (.getfield 37, 3) := by decide +kernel
theorem dX4_park_34 : decode cX4_park 34 = .ok (.invokevirtual 91, 3) := by decide +kernel
theorem dX4_park_37 : decode cX4_park 37 = .ok (.aload_n 0, 1) := by decide +kernel
theorem dX4_park_38 : decode cX4_park 38 = .ok (.getfield 33, 3) := by decide +kernel
theorem dX4_park_41 : decode cX4_park 41 = .ok (.aload_n 0, 1) := by decide +kernel
theorem dX4_park_42 : decode cX4_park 42 = .ok (.getfield 26, 3) := by decide +kernel
theorem dX4_park_45 : decode cX4_park 45 = .ok (.invokevirtual 66, 3) := by decide +kernel
theorem dX4_park_48 : decode cX4_park 48 = .ok (.aload_n 0, 1) := by decide +kernel
theorem dX4_park_49 : decode cX4_park 49 = .ok (.getfield 10, 3) := by decide +kernel
theorem dX4_park_52 : decode cX4_park 52 = .ok (.invokevirtual 83, 3) := by decide +kernel
theorem dX4_park_55 : decode cX4_park 55 = .ok (.pop, 1) := by decide +kernel
theorem dX4_park_56 : decode cX4_park 56 = .ok (.aload_n 0, 1) := by decide +kernel
theorem dX4_park_57 : decode cX4_park 57 = .ok (.invokevirtual 70, 3) := by decide +kernel
theorem dX4_park_60 : decode cX4_park 60 = .ok (.aload_n 0, 1) := by decide +kernel
theorem dX4_park_61 : decode cX4_park 61 = .ok (.getfield 19, 3) := by decide +kernel
theorem dX4_park_64 : decode cX4_park 64 = .ok (.getfield 94, 3) := by decide +kernel
theorem dX4_park_67 : decode cX4_park 67 = .ok (.ireturn, 1) := by decide +kernel
theorem dX4_place_0 : decode cX4_place 0 = .ok (.aload_n 0, 1) := by decide +kernel
theorem dX4_place_1 : decode cX4_place 1 = .ok (.getfield 26, 3) := by decide +kernel
theorem dX4_place_4 : decode cX4_place 4 = .ok (.iload_n 1, 1) := by decide +kernel
theorem dX4_place_5 : decode cX4_place 5 = .ok (.invokevirtual 97, 3) := by decide +kernel
theorem dX4_place_8 : decode cX4_place 8 = .ok (.ifCond .ne 6, 3) := by decide +kernel
theorem dX4_place_11 : decode cX4_place 11 = .ok (.bipush (-2), 2) := by decide +kernel
theorem dX4_place_13 : decode cX4_place 13 = .ok (.ireturn, 1) := by decide +kernel
theorem dX4_place_14 : decode cX4_place 14 = .ok (.iload_n 2, 1) := by decide +kernel
theorem dX4_place_15 : decode cX4_place 15 = .ok (.tableswitch 71 0 3 #[29, 41, 53, 62], 29) := by decide +kernel
theorem dX4_place_44 : decode cX4_place 44 = .ok (.aload_n 0, 1) := by decide +kernel
theorem dX4_place_45 : decode cX4_place 45 = .ok (.getfield 26, 3) := by decide +kernel
theorem dX4_place_48 : decode cX4_place 48 = .ok (.iload_n 1, 1) := by decide +kernel
theorem dX4_place_49 : decode cX4_place 49 = .ok (.invokevirtual 101, 3) := by decide +kernel
theorem dX4_place_52 : decode cX4_place 52 = .ok (.invokestatic 104, 3) := by decide +kernel
theorem dX4_place_55 : decode cX4_place 55 = .ok (.ireturn, 1) := by decide +kernel
theorem dX4_place_56 : decode cX4_place 56 = .ok (.aload_n 0, 1) := by decide +kernel
theorem dX4_place_57 : decode cX4_place 57 = .ok (.getfield 26, 3) := by decide +kernel
theorem dX4_place_60 : decode cX4_place 60 = .ok (.iload_n 1, 1) := by decide +kernel
theorem dX4_place_61 : decode cX4_place 61 = .ok (.invokevirtual 108, 3) := by decide +kernel
theorem dX4_place_64 : decode cX4_place 64 = .ok (.invokestatic 104, 3) := by decide +kernel
theorem dX4_place_67 : decode cX4_place 67 = .ok (.ireturn, 1) := by decide +kernel
theorem dX4_place_68 : decode cX4_place 68 = .ok (.aload_n 0, 1) := by decide +kernel
theorem dX4_place_69 : decode cX4_place 69 = .ok (.getfield 26, 3) := by decide +kernel
theorem dX4_place_72 : decode cX4_place 72 = .ok (.iload_n 1, 1) := by decide +kernel
theorem dX4_place_73 : decode cX4_place 73 = .ok (.invokevirtual 111, 3) := by decide +kernel
theorem dX4_place_76 : decode cX4_place 76 = .ok (.ireturn, 1) := by decide +kernel
theorem dX4_place_77 : decode cX4_place 77 = .ok (.aload_n 0, 1) := by decide +kernel
theorem dX4_place_78 : decode cX4_place 78 = .ok (.getfield 33, 3) := by decide +kernel
theorem dX4_place_81 : decode cX4_place 81 = .ok (.iload_n 1, 1) := by decide +kernel
theorem dX4_place_82 : decode cX4_place 82 = .ok (.invokevirtual 115, 3) := by decide +kernel
theorem dX4_place_85 : decode cX4_place 85 = .ok (.ireturn, 1) := by decide +kernel
theorem dX4_place_86 : decode cX4_place 86 = .ok (.bipush (-3), 2) := by decide +kernel
theorem dX4_place_88 : decode cX4_place 88 = .ok (.ireturn, 1) := by decide +kernel
theorem dX4_band_0 : decode cX4_band 0 = .ok (.aload_n 0, 1) := by decide +kernel
theorem dX4_band_1 : decode cX4_band 1 = .ok (.getfield 26, 3) := by decide +kernel
theorem dX4_band_4 : decode cX4_band 4 = .ok (.iload_n 1, 1) := by decide +kernel
theorem dX4_band_5 : decode cX4_band 5 = .ok (.invokevirtual 118, 3) := by decide +kernel
theorem dX4_band_8 : decode cX4_band 8 = .ok (.ifCond .ne 6, 3) := by decide +kernel
theorem dX4_band_11 : decode cX4_band 11 = .ok (.bipush (-2), 2) := by decide +kernel
theorem dX4_band_13 : decode cX4_band 13 = .ok (.ireturn, 1) := by decide +kernel
theorem dX4_band_14 : decode cX4_band 14 = .ok (.iload_n 2, 1) := by decide +kernel
theorem dX4_band_15 : decode cX4_band 15 = .ok (.ifCond .lt 9, 3) := by decide +kernel
theorem dX4_band_18 : decode cX4_band 18 = .ok (.iload_n 2, 1) := by decide +kernel
theorem dX4_band_19 : decode cX4_band 19 = .ok (.bipush 7, 2) := by decide +kernel
theorem dX4_band_21 : decode cX4_band 21 = .ok (.if_icmp .le 6, 3) := by decide +kernel
theorem dX4_band_24 : decode cX4_band 24 = .ok (.bipush (-3), 2) := by decide +kernel
theorem dX4_band_26 : decode cX4_band 26 = .ok (.ireturn, 1) := by decide +kernel
theorem dX4_band_27 : decode cX4_band 27 = .ok (.iload_n 2, 1) := by decide +kernel
theorem dX4_band_28 : decode cX4_band 28 = .ok (.bipush 7, 2) := by decide +kernel
theorem dX4_band_30 : decode cX4_band 30 = .ok (.if_icmp .ne 17, 3) := by decide +kernel
theorem dX4_band_33 : decode cX4_band 33 = .ok (.iload_n 1, 1) := by decide +kernel
theorem dX4_band_34 : decode cX4_band 34 = .ok (.aload_n 0, 1) := by decide +kernel
theorem dX4_band_35 : decode cX4_band 35 = .ok (.getfield 121, 3) := by decide +kernel
theorem dX4_band_38 : decode cX4_band 38 = .ok (.invokestatic 124, 3) := by decide +kernel
theorem dX4_band_41 : decode cX4_band 41 = .ok (.invokestatic 104, 3) := by decide +kernel
theorem dX4_band_44 : decode cX4_band 44 = .ok (.goto 12, 3) := by decide +kernel
theorem dX4_band_47 : decode cX4_band 47 = .ok (.aload_n 0, 1) := by decide +kernel
theorem dX4_band_48 : decode cX4_band 48 = .ok (.getfield 26, 3) := by decide +kernel
theorem dX4_band_51 : decode cX4_band 51 = .ok (.iload_n 1, 1) := by decide +kernel
theorem dX4_band_52 : decode cX4_band 52 = .ok (.iload_n 2, 1) := by decide +kernel
theorem dX4_band_53 : decode cX4_band 53 = .ok (.invokevirtual 128, 3) := by decide +kernel
theorem dX4_band_56 : decode cX4_band 56 = .ok (.ireturn, 1) := by decide +kernel
theorem dX4_as_0 : decode cX4_as 0 = .ok (.aload_n 0, 1) := by decide +kernel
theorem dX4_as_1 : decode cX4_as 1 = .ok (.getfield 26, 3) := by decide +kernel
theorem dX4_as_4 : decode cX4_as 4 = .ok (.iload_n 1, 1) := by decide +kernel
theorem dX4_as_5 : decode cX4_as 5 = .ok (.invokevirtual 118, 3) := by decide +kernel
theorem dX4_as_8 : decode cX4_as 8 = .ok (.ifCond .ne 6, 3) := by decide +kernel
theorem dX4_as_11 : decode cX4_as 11 = .ok (.bipush (-2), 2) := by decide +kernel
theorem dX4_as_13 : decode cX4_as 13 = .ok (.ireturn, 1) := by decide +kernel
theorem dX4_as_14 : decode cX4_as 14 = .ok (.iload_n 2, 1) := by decide +kernel
theorem dX4_as_15 : decode cX4_as 15 = .ok (.ifCond .lt 8, 3) := by decide +kernel
theorem dX4_as_18 : decode cX4_as 18 = .ok (.iload_n 2, 1) := by decide +kernel
theorem dX4_as_19 : decode cX4_as 19 = .ok (.iconst 4, 1) := by decide +kernel
theorem dX4_as_20 : decode cX4_as 20 = .ok (.if_icmp .le 6, 3) := by decide +kernel
theorem dX4_as_23 : decode cX4_as 23 = .ok (.bipush (-3), 2) := by decide +kernel
theorem dX4_as_25 : decode cX4_as 25 = .ok (.ireturn, 1) := by decide +kernel
theorem dX4_as_26 : decode cX4_as 26 = .ok (.aload_n 0, 1) := by decide +kernel
theorem dX4_as_27 : decode cX4_as 27 = .ok (.getfield 26, 3) := by decide +kernel
theorem dX4_as_30 : decode cX4_as 30 = .ok (.iload_n 1, 1) := by decide +kernel
theorem dX4_as_31 : decode cX4_as 31 = .ok (.iload_n 2, 1) := by decide +kernel
theorem dX4_as_32 : decode cX4_as 32 = .ok (.invokevirtual 132, 3) := by decide +kernel
theorem dX4_as_35 : decode cX4_as 35 = .ok (.ifCond .ne 6, 3) := by decide +kernel
theorem dX4_as_38 : decode cX4_as 38 = .ok (.bipush (-4), 2) := by decide +kernel
theorem dX4_as_40 : decode cX4_as 40 = .ok (.ireturn, 1) := by decide +kernel
theorem dX4_as_41 : decode cX4_as 41 = .ok (.aload_n 0, 1) := by decide +kernel
theorem dX4_as_42 : decode cX4_as 42 = .ok (.getfield 33, 3) := by decide +kernel
theorem dX4_as_45 : decode cX4_as 45 = .ok (.iconst 1, 1) := by decide +kernel
theorem dX4_as_46 : decode cX4_as 46 = .ok (.iload_n 1, 1) := by decide +kernel
theorem dX4_as_47 : decode cX4_as 47 = .ok (.ishl, 1) := by decide +kernel
theorem dX4_as_48 : decode cX4_as 48 = .ok (.aload_n 0, 1) := by decide +kernel
theorem dX4_as_49 : decode cX4_as 49 = .ok (.getfield 26, 3) := by decide +kernel
theorem dX4_as_52 : decode cX4_as 52 = .ok (.iload_n 1, 1) := by decide +kernel
theorem dX4_as_53 : decode cX4_as 53 = .ok (.iconst 1, 1) := by decide +kernel
theorem dX4_as_54 : decode cX4_as 54 = .ok (.invokevirtual 128, 3) := by decide +kernel
theorem dX4_as_57 : decode cX4_as 57 = .ok (.aload_n 0, 1) := by decide +kernel
theorem dX4_as_58 : decode cX4_as 58 = .ok (.getfield 135, 3) := by decide +kernel
theorem dX4_as_61 : decode cX4_as 61 = .ok (.invokevirtual 138, 3) := by decide +kernel
theorem dX4_as_64 : decode cX4_as 64 = .ok (.ireturn, 1) := by decide +kernel
theorem dX4_licence_0 : decode cX4_licence 0 = .ok (.aload_n 0, 1) := by decide +kernel
theorem dX4_licence_1 : decode cX4_licence 1 = .ok (.getfield 26, 3) := by decide +kernel
theorem dX4_licence_4 : decode cX4_licence 4 = .ok (.iload_n 1, 1) := by decide +kernel
theorem dX4_licence_5 : decode cX4_licence 5 = .ok (.invokevirtual 118, 3) := by decide +kernel
theorem dX4_licence_8 : decode cX4_licence 8 = .ok (.ifCond .ne 6, 3) := by decide +kernel
theorem dX4_licence_11 : decode cX4_licence 11 = .ok (.bipush (-2), 2) := by decide +kernel
theorem dX4_licence_13 : decode cX4_licence 13 = .ok (.ireturn, 1) := by decide +kernel
theorem dX4_licence_14 : decode cX4_licence 14 = .ok (.iload_n 2, 1) := by decide +kernel
theorem dX4_licence_15 : decode cX4_licence 15 = .ok (.invokestatic 142, 3) := by decide +kernel
theorem dX4_licence_18 : decode cX4_licence 18 = .ok (.ifCond .ne 6, 3) := by decide +kernel
theorem dX4_licence_21 : decode cX4_licence 21 = .ok (.bipush (-3), 2) := by decide +kernel
theorem dX4_licence_23 : decode cX4_licence 23 = .ok (.ireturn, 1) := by decide +kernel
theorem dX4_licence_24 : decode cX4_licence 24 = .ok (.iload_n 1, 1) := by decide +kernel
theorem dX4_licence_25 : decode cX4_licence 25 = .ok (.aload_n 0, 1) := by decide +kernel
theorem dX4_licence_26 : decode cX4_licence 26 = .ok (.getfield 121, 3) := by decide +kernel
theorem dX4_licence_29 : decode cX4_licence 29 = .ok (.invokestatic 124, 3) := by decide +kernel
theorem dX4_licence_32 : decode cX4_licence 32 = .ok (.invokestatic 104, 3) := by decide +kernel
theorem dX4_licence_35 : decode cX4_licence 35 = .ok (.istore_n 3, 1) := by decide +kernel
theorem dX4_licence_36 : decode cX4_licence 36 = .ok (.aload_n 0, 1) := by decide +kernel
theorem dX4_licence_37 : decode cX4_licence 37 = .ok (.iload_n 2, 1) := by decide +kernel
theorem dX4_licence_38 : decode cX4_licence 38 = .ok (.iconst 1, 1) := by decide +kernel
theorem dX4_licence_39 : decode cX4_licence 39 = .ok (.if_icmp .ne 14, 3) := by decide +kernel
theorem dX4_licence_42 : decode cX4_licence 42 = .ok (.aload_n 0, 1) := by decide +kernel
theorem dX4_licence_43 : decode cX4_licence 43 = .ok (.getfield 121, 3) := by decide +kernel
theorem dX4_licence_46 : decode cX4_licence 46 = .ok (.iconst 1, 1) := by decide +kernel
theorem dX4_licence_47 : decode cX4_licence 47 = .ok (.iload_n 1, 1) := by decide +kernel
theorem dX4_licence_48 : decode cX4_licence 48 = .ok (.ishl, 1) := by decide +kernel
theorem dX4_licence_49 : decode cX4_licence 49 = .ok (.ior, 1) := by decide +kernel
theorem dX4_licence_50 : decode cX4_licence 50 = .ok (.goto 13, 3) := by decide +kernel
theorem dX4_licence_53 : decode cX4_licence 53 = .ok (.aload_n 0, 1) := by decide +kernel
theorem dX4_licence_54 : decode cX4_licence 54 = .ok (.getfield 121, 3) := by decide +kernel
theorem dX4_licence_57 : decode cX4_licence 57 = .ok (.iconst 1, 1) := by decide +kernel
theorem dX4_licence_58 : decode cX4_licence 58 = .ok (.iload_n 1, 1) := by decide +kernel
theorem dX4_licence_59 : decode cX4_licence 59 = .ok (.ishl, 1) := by decide +kernel
theorem dX4_licence_60 : decode cX4_licence 60 = .ok (.iconst (-1), 1) := by decide +kernel
theorem dX4_licence_61 : decode cX4_licence 61 = .ok (.ixor, 1) := by decide +kernel
theorem dX4_licence_62 : decode cX4_licence 62 = .ok (.iand, 1) := by decide +kernel
theorem dX4_licence_63 : decode cX4_licence 63 = .ok (.putfield 121, 3) := by decide +kernel
theorem dX4_licence_66 : decode cX4_licence 66 = .ok (.iload_n 3, 1) := by decide +kernel
theorem dX4_licence_67 : decode cX4_licence 67 = .ok (.ireturn, 1) := by decide +kernel
theorem dX4_sound_0 : decode cX4_sound 0 = .ok (.aload_n 0, 1) := by decide +kernel
theorem dX4_sound_1 : decode cX4_sound 1 = .ok (.getfield 26, 3) := by decide +kernel
theorem dX4_sound_4 : decode cX4_sound 4 = .ok (.iload_n 1, 1) := by decide +kernel
theorem dX4_sound_5 : decode cX4_sound 5 = .ok (.invokevirtual 118, 3) := by decide +kernel
theorem dX4_sound_8 : decode cX4_sound 8 = .ok (.ifCond .eq 14, 3) := by decide +kernel
theorem dX4_sound_11 : decode cX4_sound 11 = .ok (.aload_n 0, 1) := by decide +kernel
theorem dX4_sound_12 : decode cX4_sound 12 = .ok (.getfield 26, 3) := by decide +kernel
theorem dX4_sound_15 : decode cX4_sound 15 = .ok (.iload_n 2, 1) := by decide +kernel
theorem dX4_sound_16 : decode cX4_sound 16 = .ok (.invokevirtual 97, 3) := by decide +kernel
theorem dX4_sound_19 : decode cX4_sound 19 = .ok (.ifCond .ne 6, 3) := by decide +kernel
theorem dX4_sound_22 : decode cX4_sound 22 = .ok (.bipush (-2), 2) := by decide +kernel
theorem dX4_sound_24 : decode cX4_sound 24 = .ok (.ireturn, 1) := by decide +kernel
theorem dX4_sound_25 : decode cX4_sound 25 = .ok (.iload_n 3, 1) := by decide +kernel
theorem dX4_sound_26 : decode cX4_sound 26 = .ok (.invokestatic 145, 3) := by decide +kernel
theorem dX4_sound_29 : decode cX4_sound 29 = .ok (.ifCond .ne 6, 3) := by decide +kernel
theorem dX4_sound_32 : decode cX4_sound 32 = .ok (.bipush (-3), 2) := by decide +kernel
theorem dX4_sound_34 : decode cX4_sound 34 = .ok (.ireturn, 1) := by decide +kernel
theorem dX4_sound_35 : decode cX4_sound 35 = .ok (.aload_n 0, 1) := by decide +kernel
theorem dX4_sound_36 : decode cX4_sound 36 = .ok (.getfield 33, 3) := by decide +kernel
theorem dX4_sound_39 : decode cX4_sound 39 = .ok (.iconst 1, 1) := by decide +kernel
theorem dX4_sound_40 : decode cX4_sound 40 = .ok (.iload_n 1, 1) := by decide +kernel
theorem dX4_sound_41 : decode cX4_sound 41 = .ok (.ishl, 1) := by decide +kernel
theorem dX4_sound_42 : decode cX4_sound 42 = .ok (.iload_n 2, 1) := by decide +kernel
theorem dX4_sound_43 : decode cX4_sound 43 = .ok (.iload_n 3, 1) := by decide +kernel
theorem dX4_sound_44 : decode cX4_sound 44 = .ok (.invokevirtual 138, 3) := by decide +kernel
theorem dX4_sound_47 : decode cX4_sound 47 = .ok (.ireturn, 1) := by decide +kernel
theorem dX4_noise_0 : decode cX4_noise 0 = .ok (.aload_n 0, 1) := by decide +kernel
theorem dX4_noise_1 : decode cX4_noise 1 = .ok (.getfield 26, 3) := by decide +kernel
theorem dX4_noise_4 : decode cX4_noise 4 = .ok (.iload_n 1, 1) := by decide +kernel
theorem dX4_noise_5 : decode cX4_noise 5 = .ok (.invokevirtual 97, 3) := by decide +kernel
theorem dX4_noise_8 : decode cX4_noise 8 = .ok (.ifCond .ne 6, 3) := by decide +kernel
theorem dX4_noise_11 : decode cX4_noise 11 = .ok (.bipush (-2), 2) := by decide +kernel
theorem dX4_noise_13 : decode cX4_noise 13 = .ok (.ireturn, 1) := by decide +kernel
theorem dX4_noise_14 : decode cX4_noise 14 = .ok (.iload_n 2, 1) := by decide +kernel
theorem dX4_noise_15 : decode cX4_noise 15 = .ok (.invokestatic 145, 3) := by decide +kernel
theorem dX4_noise_18 : decode cX4_noise 18 = .ok (.ifCond .ne 6, 3) := by decide +kernel
theorem dX4_noise_21 : decode cX4_noise 21 = .ok (.bipush (-3), 2) := by decide +kernel
theorem dX4_noise_23 : decode cX4_noise 23 = .ok (.ireturn, 1) := by decide +kernel
theorem dX4_noise_24 : decode cX4_noise 24 = .ok (.aload_n 0, 1) := by decide +kernel
theorem dX4_noise_25 : decode cX4_noise 25 = .ok (.getfield 33, 3) := by decide +kernel
theorem dX4_noise_28 : decode cX4_noise 28 = .ok (.aload_n 0, 1) := by decide +kernel
theorem dX4_noise_29 : decode cX4_noise 29 = .ok (.getfield 121, 3) := by decide +kernel
theorem dX4_noise_32 : decode cX4_noise 32 = .ok (.iload_n 1, 1) := by decide +kernel
theorem dX4_noise_33 : decode cX4_noise 33 = .ok (.iload_n 2, 1) := by decide +kernel
theorem dX4_noise_34 : decode cX4_noise 34 = .ok (.invokevirtual 138, 3) := by decide +kernel
theorem dX4_noise_37 : decode cX4_noise 37 = .ok (.ireturn, 1) := by decide +kernel
theorem dX4_step_0 : decode cX4_step 0 = .ok (.aload_n 0, 1) := by decide +kernel
theorem dX4_step_1 : decode cX4_step 1 = .ok (.getfield 26, 3) := by decide +kernel
theorem dX4_step_4 : decode cX4_step 4 = .ok (.iload_n 1, 1) := by decide +kernel
theorem dX4_step_5 : decode cX4_step 5 = .ok (.invokevirtual 97, 3) := by decide +kernel
theorem dX4_step_8 : decode cX4_step 8 = .ok (.ifCond .ne 6, 3) := by decide +kernel
theorem dX4_step_11 : decode cX4_step 11 = .ok (.bipush (-2), 2) := by decide +kernel
theorem dX4_step_13 : decode cX4_step 13 = .ok (.ireturn, 1) := by decide +kernel
theorem dX4_step_14 : decode cX4_step 14 = .ok (.aload_n 0, 1) := by decide +kernel
theorem dX4_step_15 : decode cX4_step 15 = .ok (.getfield 148, 3) := by decide +kernel
theorem dX4_step_18 : decode cX4_step 18 = .ok (.iconst (-1), 1) := by decide +kernel
theorem dX4_step_19 : decode cX4_step 19 = .ok (.if_icmp .eq 30, 3) := by decide +kernel
theorem dX4_step_22 : decode cX4_step 22 = .ok (.aload_n 0, 1) := by decide +kernel
theorem dX4_step_23 : decode cX4_step 23 = .ok (.getfield 26, 3) := by decide +kernel
theorem dX4_step_26 : decode cX4_step 26 = .ok (.aload_n 0, 1) := by decide +kernel
theorem dX4_step_27 : decode cX4_step 27 = .ok (.getfield 148, 3) := by decide +kernel
theorem dX4_step_30 : decode cX4_step 30 = .ok (.iload_n 1, 1) := by decide +kernel
theorem dX4_step_31 : decode cX4_step 31 = .ok (.invokevirtual 151, 3) := by decide +kernel
theorem dX4_step_34 : decode cX4_step 34 = .ok (.iconst 1, 1) := by decide +kernel
theorem dX4_step_35 : decode cX4_step 35 = .ok (.if_icmp .gt 14, 3) := by decide +kernel
theorem dX4_step_38 : decode cX4_step 38 = .ok (.aload_n 0, 1) := by decide +kernel
theorem dX4_step_39 : decode cX4_step 39 = .ok (.getfield 26, 3) := by decide +kernel
theorem dX4_step_42 : decode cX4_step 42 = .ok (.iload_n 1, 1) := by decide +kernel
theorem dX4_step_43 : decode cX4_step 43 = .ok (.invokevirtual 101, 3) := by decide +kernel
theorem dX4_step_46 : decode cX4_step 46 = .ok (.ifCond .ne 6, 3) := by decide +kernel
theorem dX4_step_49 : decode cX4_step 49 = .ok (.bipush (-4), 2) := by decide +kernel
theorem dX4_step_51 : decode cX4_step 51 = .ok (.ireturn, 1) := by decide +kernel
theorem dX4_step_52 : decode cX4_step 52 = .ok (.aload_n 0, 1) := by decide +kernel
theorem dX4_step_53 : decode cX4_step 53 = .ok (.iload_n 1, 1) := by decide +kernel
theorem dX4_step_54 : decode cX4_step 54 = .ok (.putfield 148, 3) := by decide +kernel
theorem dX4_step_57 : decode cX4_step 57 = .ok (.aload_n 0, 1) := by decide +kernel
theorem dX4_step_58 : decode cX4_step 58 = .ok (.aload_n 0, 1) := by decide +kernel
theorem dX4_step_59 : decode cX4_step 59 = .ok (.getfield 135, 3) := by decide +kernel
theorem dX4_step_62 : decode cX4_step 62 = .ok (.invokestatic 154, 3) := by decide +kernel
theorem dX4_step_65 : decode cX4_step 65 = .ok (.putfield 135, 3) := by decide +kernel
theorem dX4_step_68 : decode cX4_step 68 = .ok (.aload_n 0, 1) := by decide +kernel
theorem dX4_step_69 : decode cX4_step 69 = .ok (.getfield 33, 3) := by decide +kernel
theorem dX4_step_72 : decode cX4_step 72 = .ok (.aload_n 0, 1) := by decide +kernel
theorem dX4_step_73 : decode cX4_step 73 = .ok (.getfield 121, 3) := by decide +kernel
theorem dX4_step_76 : decode cX4_step 76 = .ok (.aload_n 0, 1) := by decide +kernel
theorem dX4_step_77 : decode cX4_step 77 = .ok (.getfield 148, 3) := by decide +kernel
theorem dX4_step_80 : decode cX4_step 80 = .ok (.aload_n 0, 1) := by decide +kernel
theorem dX4_step_81 : decode cX4_step 81 = .ok (.getfield 135, 3) := by decide +kernel
theorem dX4_step_84 : decode cX4_step 84 = .ok (.invokevirtual 157, 3) := by decide +kernel
theorem dX4_step_87 : decode cX4_step 87 = .ok (.invokestatic 104, 3) := by decide +kernel
theorem dX4_step_90 : decode cX4_step 90 = .ok (.ireturn, 1) := by decide +kernel
theorem dX4_keep_0 : decode cX4_keep 0 = .ok (.iload_n 1, 1) := by decide +kernel
theorem dX4_keep_1 : decode cX4_keep 1 = .ok (.ifCond .lt 8, 3) := by decide +kernel
theorem dX4_keep_4 : decode cX4_keep 4 = .ok (.iload_n 1, 1) := by decide +kernel
theorem dX4_keep_5 : decode cX4_keep 5 = .ok (.iconst 2, 1) := by decide +kernel
theorem dX4_keep_6 : decode cX4_keep 6 = .ok (.if_icmp .lt 6, 3) := by decide +kernel
theorem dX4_keep_9 : decode cX4_keep 9 = .ok (.bipush (-2), 2) := by decide +kernel
theorem dX4_keep_11 : decode cX4_keep 11 = .ok (.ireturn, 1) := by decide +kernel
theorem dX4_keep_12 : decode cX4_keep 12 = .ok (.aload_n 0, 1) := by decide +kernel
theorem dX4_keep_13 : decode cX4_keep 13 = .ok (.getfield 43, 3) := by decide +kernel
theorem dX4_keep_16 : decode cX4_keep 16 = .ok (.iload_n 1, 1) := by decide +kernel
theorem dX4_keep_17 : decode cX4_keep 17 = .ok (.aload_n 0, 1) := by decide +kernel
theorem dX4_keep_18 : decode cX4_keep 18 = .ok (.getfield 121, 3) := by decide +kernel
theorem dX4_keep_21 : decode cX4_keep 21 = .ok (.iastore, 1) := by decide +kernel
theorem dX4_keep_22 : decode cX4_keep 22 = .ok (.aload_n 0, 1) := by decide +kernel
theorem dX4_keep_23 : decode cX4_keep 23 = .ok (.getfield 47, 3) := by decide +kernel
theorem dX4_keep_26 : decode cX4_keep 26 = .ok (.iload_n 1, 1) := by decide +kernel
theorem dX4_keep_27 : decode cX4_keep 27 = .ok (.aload_n 0, 1) := by decide +kernel
theorem dX4_keep_28 : decode cX4_keep 28 = .ok (.getfield 148, 3) := by decide +kernel
theorem dX4_keep_31 : decode cX4_keep 31 = .ok (.iastore, 1) := by decide +kernel
theorem dX4_keep_32 : decode cX4_keep 32 = .ok (.aload_n 0, 1) := by decide +kernel
theorem dX4_keep_33 : decode cX4_keep 33 = .ok (.getfield 50, 3) := by decide +kernel
theorem dX4_keep_36 : decode cX4_keep 36 = .ok (.iload_n 1, 1) := by decide +kernel
theorem dX4_keep_37 : decode cX4_keep 37 = .ok (.aload_n 0, 1) := by decide +kernel
theorem dX4_keep_38 : decode cX4_keep 38 = .ok (.getfield 135, 3) := by decide +kernel
theorem dX4_keep_41 : decode cX4_keep 41 = .ok (.iastore, 1) := by decide +kernel
theorem dX4_keep_42 : decode cX4_keep 42 = .ok (.aload_n 0, 1) := by decide +kernel
theorem dX4_keep_43 : decode cX4_keep 43 = .ok (.getfield 135, 3) := by decide +kernel
theorem dX4_keep_46 : decode cX4_keep 46 = .ok (.ireturn, 1) := by decide +kernel
theorem dX4_back_0 : decode cX4_back 0 = .ok (.iload_n 1, 1) := by decide +kernel
theorem dX4_back_1 : decode cX4_back 1 = .ok (.ifCond .lt 8, 3) := by decide +kernel
theorem dX4_back_4 : decode cX4_back 4 = .ok (.iload_n 1, 1) := by decide +kernel
theorem dX4_back_5 : decode cX4_back 5 = .ok (.iconst 2, 1) := by decide +kernel
theorem dX4_back_6 : decode cX4_back 6 = .ok (.if_icmp .lt 6, 3) := by decide +kernel
theorem dX4_back_9 : decode cX4_back 9 = .ok (.bipush (-2), 2) := by decide +kernel
theorem dX4_back_11 : decode cX4_back 11 = .ok (.ireturn, 1) := by decide +kernel
theorem dX4_back_12 : decode cX4_back 12 = .ok (.aload_n 0, 1) := by decide +kernel
theorem dX4_back_13 : decode cX4_back 13 = .ok (.getfield 50, 3) := by decide +kernel
theorem dX4_back_16 : decode cX4_back 16 = .ok (.iload_n 1, 1) := by decide +kernel
theorem dX4_back_17 : decode cX4_back 17 = .ok (.iaload, 1) := by decide +kernel
theorem dX4_back_18 : decode cX4_back 18 = .ok (.iconst (-1), 1) := by decide +kernel
theorem dX4_back_19 : decode cX4_back 19 = .ok (.if_icmp .ne 6, 3) := by decide +kernel
theorem dX4_back_22 : decode cX4_back 22 = .ok (.bipush (-4), 2) := by decide +kernel
theorem dX4_back_24 : decode cX4_back 24 = .ok (.ireturn, 1) := by decide +kernel
theorem dX4_back_25 : decode cX4_back 25 = .ok (.aload_n 0, 1) := by decide +kernel
theorem dX4_back_26 : decode cX4_back 26 = .ok (.aload_n 0, 1) := by decide +kernel
theorem dX4_back_27 : decode cX4_back 27 = .ok (.getfield 43, 3) := by decide +kernel
theorem dX4_back_30 : decode cX4_back 30 = .ok (.iload_n 1, 1) := by decide +kernel
theorem dX4_back_31 : decode cX4_back 31 = .ok (.iaload, 1) := by decide +kernel
theorem dX4_back_32 : decode cX4_back 32 = .ok (.putfield 121, 3) := by decide +kernel
theorem dX4_back_35 : decode cX4_back 35 = .ok (.aload_n 0, 1) := by decide +kernel
theorem dX4_back_36 : decode cX4_back 36 = .ok (.aload_n 0, 1) := by decide +kernel
theorem dX4_back_37 : decode cX4_back 37 = .ok (.getfield 47, 3) := by decide +kernel
theorem dX4_back_40 : decode cX4_back 40 = .ok (.iload_n 1, 1) := by decide +kernel
theorem dX4_back_41 : decode cX4_back 41 = .ok (.iaload, 1) := by decide +kernel
theorem dX4_back_42 : decode cX4_back 42 = .ok (.putfield 148, 3) := by decide +kernel
theorem dX4_back_45 : decode cX4_back 45 = .ok (.aload_n 0, 1) := by decide +kernel
theorem dX4_back_46 : decode cX4_back 46 = .ok (.aload_n 0, 1) := by decide +kernel
theorem dX4_back_47 : decode cX4_back 47 = .ok (.getfield 50, 3) := by decide +kernel
theorem dX4_back_50 : decode cX4_back 50 = .ok (.iload_n 1, 1) := by decide +kernel
theorem dX4_back_51 : decode cX4_back 51 = .ok (.iaload, 1) := by decide +kernel
theorem dX4_back_52 : decode cX4_back 52 = .ok (.putfield 135, 3) := by decide +kernel
theorem dX4_back_55 : decode cX4_back 55 = .ok (.aload_n 0, 1) := by decide +kernel
theorem dX4_back_56 : decode cX4_back 56 = .ok (.getfield 135, 3) := by decide +kernel
theorem dX4_back_59 : decode cX4_back 59 = .ok (.ireturn, 1) := by decide +kernel
theorem dX4_first_0 : decode cX4_first 0 = .ok (.iload_n 1, 1) := by decide +kernel
theorem dX4_first_1 : decode cX4_first 1 = .ok (.ifCond .lt 8, 3) := by decide +kernel
theorem dX4_first_4 : decode cX4_first 4 = .ok (.iload_n 1, 1) := by decide +kernel
theorem dX4_first_5 : decode cX4_first 5 = .ok (.iconst 2, 1) := by decide +kernel
theorem dX4_first_6 : decode cX4_first 6 = .ok (.if_icmp .le 6, 3) := by decide +kernel
theorem dX4_first_9 : decode cX4_first 9 = .ok (.bipush (-3), 2) := by decide +kernel
theorem dX4_first_11 : decode cX4_first 11 = .ok (.ireturn, 1) := by decide +kernel
theorem dX4_first_12 : decode cX4_first 12 = .ok (.iconst 0, 1) := by decide +kernel
theorem dX4_first_13 : decode cX4_first 13 = .ok (.istore_n 2, 1) := by decide +kernel
theorem dX4_first_14 : decode cX4_first 14 = .ok (.iload_n 2, 1) := by decide +kernel
theorem dX4_first_15 : decode cX4_first 15 = .ok (.bipush 12, 2) := by decide +kernel
theorem dX4_first_17 : decode cX4_first 17 = .ok (.if_icmp .ge 63, 3) := by decide +kernel
theorem dX4_first_20 : decode cX4_first 20 = .ok (.iconst 0, 1) := by decide +kernel
theorem dX4_first_21 : decode cX4_first 21 = .ok (.istore_n 3, 1) := by decide +kernel
theorem dX4_first_22 : decode cX4_first 22 = .ok (.iload_n 3, 1) := by decide +kernel
theorem dX4_first_23 : decode cX4_first 23 = .ok (.aload_n 0, 1) := by decide +kernel
theorem dX4_first_24 : decode cX4_first 24 = .ok (.getfield 26, 3) := by decide +kernel
theorem dX4_first_27 : decode cX4_first 27 = .ok (.invokevirtual 161, 3) := by decide +kernel
theorem dX4_first_30 : decode cX4_first 30 = .ok (.if_icmp .ge 44, 3) := by decide +kernel
theorem dX4_first_33 : decode cX4_first 33 = .ok (.aload_n 0, 1) := by decide +kernel
theorem dX4_first_34 : decode cX4_first 34 = .ok (.getfield 26, 3) := by decide +kernel
theorem dX4_first_37 : decode cX4_first 37 = .ok (.iload_n 3, 1) := by decide +kernel
theorem dX4_first_38 : decode cX4_first 38 = .ok (.invokevirtual 101, 3) := by decide +kernel
theorem dX4_first_41 : decode cX4_first 41 = .ok (.ifCond .eq 27, 3) := by decide +kernel
theorem dX4_first_44 : decode cX4_first 44 = .ok (.aload_n 0, 1) := by decide +kernel
theorem dX4_first_45 : decode cX4_first 45 = .ok (.getfield 33, 3) := by decide +kernel
theorem dX4_first_48 : decode cX4_first 48 = .ok (.aload_n 0, 1) := by decide +kernel
theorem dX4_first_49 : decode cX4_first 49 = .ok (.getfield 121, 3) := by decide +kernel
theorem dX4_first_52 : decode cX4_first 52 = .ok (.iload_n 3, 1) := by decide +kernel
theorem dX4_first_53 : decode cX4_first 53 = .ok (.iload_n 2, 1) := by decide +kernel
theorem dX4_first_54 : decode cX4_first 54 = .ok (.invokevirtual 157, 3) := by decide +kernel
theorem dX4_first_57 : decode cX4_first 57 = .ok (.ifCond .ne 11, 3) := by decide +kernel
theorem dX4_first_60 : decode cX4_first 60 = .ok (.aload_n 0, 1) := by decide +kernel
theorem dX4_first_61 : decode cX4_first 61 = .ok (.iload_n 1, 1) := by decide +kernel
theorem dX4_first_62 : decode cX4_first 62 = .ok (.iload_n 3, 1) := by decide +kernel
theorem dX4_first_63 : decode cX4_first 63 = .ok (.iload_n 2, 1) := by decide +kernel
theorem dX4_first_64 : decode cX4_first 64 = .ok (.invokevirtual 164, 3) := by decide +kernel
theorem dX4_first_67 : decode cX4_first 67 = .ok (.ireturn, 1) := by decide +kernel
theorem dX4_first_68 : decode cX4_first 68 = .ok (.iinc 3 1, 3) := by decide +kernel
theorem dX4_first_71 : decode cX4_first 71 = .ok (.goto (-49), 3) := by decide +kernel
theorem dX4_first_74 : decode cX4_first 74 = .ok (.iinc 2 1, 3) := by decide +kernel
theorem dX4_first_77 : decode cX4_first 77 = .ok (.goto (-63), 3) := by decide +kernel
theorem dX4_first_80 : decode cX4_first 80 = .ok (.iconst (-1), 1) := by decide +kernel
theorem dX4_first_81 : decode cX4_first 81 = .ok (.ireturn, 1) := by decide +kernel
theorem dX4_most_0 : decode cX4_most 0 = .ok (.iload_n 1, 1) := by decide +kernel
theorem dX4_most_1 : decode cX4_most 1 = .ok (.invokestatic 142, 3) := by decide +kernel
theorem dX4_most_4 : decode cX4_most 4 = .ok (.ifCond .ne 6, 3) := by decide +kernel
theorem dX4_most_7 : decode cX4_most 7 = .ok (.bipush (-3), 2) := by decide +kernel
theorem dX4_most_9 : decode cX4_most 9 = .ok (.ireturn, 1) := by decide +kernel
theorem dX4_most_10 : decode cX4_most 10 = .ok (.iconst (-1), 1) := by decide +kernel
theorem dX4_most_11 : decode cX4_most 11 = .ok (.istore_n 2, 1) := by decide +kernel
theorem dX4_most_12 : decode cX4_most 12 = .ok (.iconst (-1), 1) := by decide +kernel
theorem dX4_most_13 : decode cX4_most 13 = .ok (.istore_n 3, 1) := by decide +kernel
theorem dX4_most_14 : decode cX4_most 14 = .ok (.iconst 0, 1) := by decide +kernel
theorem dX4_most_15 : decode cX4_most 15 = .ok (.istore 4, 2) := by decide +kernel
theorem dX4_most_17 : decode cX4_most 17 = .ok (.iload 4, 2) := by decide +kernel
theorem dX4_most_19 : decode cX4_most 19 = .ok (.aload_n 0, 1) := by decide +kernel
theorem dX4_most_20 : decode cX4_most 20 = .ok (.getfield 26, 3) := by decide +kernel
theorem dX4_most_23 : decode cX4_most 23 = .ok (.invokevirtual 167, 3) := by decide +kernel
theorem dX4_most_26 : decode cX4_most 26 = .ok (.if_icmp .ge 44, 3) := by decide +kernel
theorem dX4_most_29 : decode cX4_most 29 = .ok (.aload_n 0, 1) := by decide +kernel
theorem dX4_most_30 : decode cX4_most 30 = .ok (.getfield 26, 3) := by decide +kernel
theorem dX4_most_33 : decode cX4_most 33 = .ok (.iload 4, 2) := by decide +kernel
theorem dX4_most_35 : decode cX4_most 35 = .ok (.invokevirtual 170, 3) := by decide +kernel
theorem dX4_most_38 : decode cX4_most 38 = .ok (.istore 5, 2) := by decide +kernel
theorem dX4_most_40 : decode cX4_most 40 = .ok (.iload 5, 2) := by decide +kernel
theorem dX4_most_42 : decode cX4_most 42 = .ok (.iload_n 2, 1) := by decide +kernel
theorem dX4_most_43 : decode cX4_most 43 = .ok (.if_icmp .le 21, 3) := by decide +kernel
theorem dX4_most_46 : decode cX4_most 46 = .ok (.aload_n 0, 1) := by decide +kernel
theorem dX4_most_47 : decode cX4_most 47 = .ok (.getfield 33, 3) := by decide +kernel
theorem dX4_most_50 : decode cX4_most 50 = .ok (.iload 4, 2) := by decide +kernel
theorem dX4_most_52 : decode cX4_most 52 = .ok (.invokevirtual 173, 3) := by decide +kernel
theorem dX4_most_55 : decode cX4_most 55 = .ok (.ifCond .eq 9, 3) := by decide +kernel
theorem dX4_most_58 : decode cX4_most 58 = .ok (.iload 5, 2) := by decide +kernel
theorem dX4_most_60 : decode cX4_most 60 = .ok (.istore_n 2, 1) := by decide +kernel
theorem dX4_most_61 : decode cX4_most 61 = .ok (.iload 4, 2) := by decide +kernel
theorem dX4_most_63 : decode cX4_most 63 = .ok (.istore_n 3, 1) := by decide +kernel
theorem dX4_most_64 : decode cX4_most 64 = .ok (.iinc 4 1, 3) := by decide +kernel
theorem dX4_most_67 : decode cX4_most 67 = .ok (.goto (-50), 3) := by decide +kernel
theorem dX4_most_70 : decode cX4_most 70 = .ok (.iload_n 1, 1) := by decide +kernel
theorem dX4_most_71 : decode cX4_most 71 = .ok (.ifCond .ne 7, 3) := by decide +kernel
theorem dX4_most_74 : decode cX4_most 74 = .ok (.iload_n 2, 1) := by decide +kernel
theorem dX4_most_75 : decode cX4_most 75 = .ok (.goto 4, 3) := by decide +kernel
theorem dX4_most_78 : decode cX4_most 78 = .ok (.iload_n 3, 1) := by decide +kernel
theorem dX4_most_79 : decode cX4_most 79 = .ok (.ireturn, 1) := by decide +kernel
theorem dX4_stands_0 : decode cX4_stands 0 = .ok (.aload_n 0, 1) := by decide +kernel
theorem dX4_stands_1 : decode cX4_stands 1 = .ok (.getfield 26, 3) := by decide +kernel
theorem dX4_stands_4 : decode cX4_stands 4 = .ok (.iload_n 1, 1) := by decide +kernel
theorem dX4_stands_5 : decode cX4_stands 5 = .ok (.invokevirtual 118, 3) := by decide +kernel
theorem dX4_stands_8 : decode cX4_stands 8 = .ok (.ifCond .ne 7, 3) := by decide +kernel
theorem dX4_stands_11 : decode cX4_stands 11 = .ok (.ldc2_w 176, 3) := by decide +kernel
theorem dX4_stands_14 : decode cX4_stands 14 = .ok (.lreturn, 1) := by decide +kernel
theorem dX4_stands_15 : decode cX4_stands 15 = .ok (.aload_n 0, 1) := by decide +kernel
theorem dX4_stands_16 : decode cX4_stands 16 = .ok (.iload_n 1, 1) := by decide +kernel
theorem dX4_stands_17 : decode cX4_stands 17 = .ok (.iconst 1, 1) := by decide +kernel
theorem dX4_stands_18 : decode cX4_stands 18 = .ok (.aload_n 0, 1) := by decide +kernel
theorem dX4_stands_19 : decode cX4_stands 19 = .ok (.getfield 26, 3) := by decide +kernel
theorem dX4_stands_22 : decode cX4_stands 22 = .ok (.invokevirtual 161, 3) := by decide +kernel
theorem dX4_stands_25 : decode cX4_stands 25 = .ok (.invokevirtual 178, 3) := by decide +kernel
theorem dX4_stands_28 : decode cX4_stands 28 = .ok (.lreturn, 1) := by decide +kernel
theorem dX4_sides_0 : decode cX4_sides 0 = .ok (.aload_n 0, 1) := by decide +kernel
theorem dX4_sides_1 : decode cX4_sides 1 = .ok (.getfield 26, 3) := by decide +kernel
theorem dX4_sides_4 : decode cX4_sides 4 = .ok (.iload_n 1, 1) := by decide +kernel
theorem dX4_sides_5 : decode cX4_sides 5 = .ok (.invokevirtual 118, 3) := by decide +kernel
theorem dX4_sides_8 : decode cX4_sides 8 = .ok (.ifCond .ne 6, 3) := by decide +kernel
theorem dX4_sides_11 : decode cX4_sides 11 = .ok (.bipush (-2), 2) := by decide +kernel
theorem dX4_sides_13 : decode cX4_sides 13 = .ok (.ireturn, 1) := by decide +kernel
theorem dX4_sides_14 : decode cX4_sides 14 = .ok (.aload_n 0, 1) := by decide +kernel
theorem dX4_sides_15 : decode cX4_sides 15 = .ok (.getfield 26, 3) := by decide +kernel
theorem dX4_sides_18 : decode cX4_sides 18 = .ok (.iload_n 1, 1) := by decide +kernel
theorem dX4_sides_19 : decode cX4_sides 19 = .ok (.iconst 0, 1) := by decide +kernel
theorem dX4_sides_20 : decode cX4_sides 20 = .ok (.invokevirtual 128, 3) := by decide +kernel
theorem dX4_sides_23 : decode cX4_sides 23 = .ok (.iconst 1, 1) := by decide +kernel
theorem dX4_sides_24 : decode cX4_sides 24 = .ok (.if_icmp .eq 6, 3) := by decide +kernel
theorem dX4_sides_27 : decode cX4_sides 27 = .ok (.bipush (-4), 2) := by decide +kernel
theorem dX4_sides_29 : decode cX4_sides 29 = .ok (.ireturn, 1) := by decide +kernel
theorem dX4_sides_30 : decode cX4_sides 30 = .ok (.aload_n 0, 1) := by decide +kernel
theorem dX4_sides_31 : decode cX4_sides 31 = .ok (.iload_n 1, 1) := by decide +kernel
theorem dX4_sides_32 : decode cX4_sides 32 = .ok (.bipush 6, 2) := by decide +kernel
theorem dX4_sides_34 : decode cX4_sides 34 = .ok (.iconst 4, 1) := by decide +kernel
theorem dX4_sides_35 : decode cX4_sides 35 = .ok (.invokevirtual 178, 3) := by decide +kernel
theorem dX4_sides_38 : decode cX4_sides 38 = .ok (.l2i, 1) := by decide +kernel
theorem dX4_sides_39 : decode cX4_sides 39 = .ok (.ireturn, 1) := by decide +kernel
theorem dX4_hedged_0 : decode cX4_hedged 0 = .ok (.iload_n 1, 1) := by decide +kernel
theorem dX4_hedged_1 : decode cX4_hedged 1 = .ok (.invokestatic 142, 3) := by decide +kernel
theorem dX4_hedged_4 : decode cX4_hedged 4 = .ok (.ifCond .ne 7, 3) := by decide +kernel
theorem dX4_hedged_7 : decode cX4_hedged 7 = .ok (.ldc2_w 182, 3) := by decide +kernel
theorem dX4_hedged_10 : decode cX4_hedged 10 = .ok (.lreturn, 1) := by decide +kernel
theorem dX4_hedged_11 : decode cX4_hedged 11 = .ok (.aload_n 0, 1) := by decide +kernel
theorem dX4_hedged_12 : decode cX4_hedged 12 = .ok (.getfield 37, 3) := by decide +kernel
theorem dX4_hedged_15 : decode cX4_hedged 15 = .ok (.aload_n 0, 1) := by decide +kernel
theorem dX4_hedged_16 : decode cX4_hedged 16 = .ok (.getfield 26, 3) := by decide +kernel
theorem dX4_hedged_19 : decode cX4_hedged 19 = .ok (.invokevirtual 91, 3) := by decide +kernel
theorem dX4_hedged_22 : decode cX4_hedged 22 = .ok (.ldc2_w 184, 3) := by decide +kernel
theorem dX4_hedged_25 : decode cX4_hedged 25 = .ok (.lstore_n 2, 1) := by decide +kernel
theorem dX4_hedged_26 : decode cX4_hedged 26 = .ok (.iconst 0, 1) := by decide +kernel
theorem dX4_hedged_27 : decode cX4_hedged 27 = .ok (.istore 4, 2) := by decide +kernel
theorem dX4_hedged_29 : decode cX4_hedged 29 = .ok (.iload 4, 2) := by decide +kernel
theorem dX4_hedged_31 : decode cX4_hedged 31 = .ok (.aload_n 0, 1) := by decide +kernel
theorem dX4_hedged_32 : decode cX4_hedged 32 = .ok (.getfield 26, 3) := by decide +kernel
theorem dX4_hedged_35 : decode cX4_hedged 35 = .ok (.invokevirtual 167, 3) := by decide +kernel
theorem dX4_hedged_38 : decode cX4_hedged 38 = .ok (.if_icmp .ge 61, 3) := by decide +kernel
theorem dX4_hedged_41 : decode cX4_hedged 41 = .ok (.aload_n 0, 1) := by decide +kernel
theorem dX4_hedged_42 : decode cX4_hedged 42 = .ok (.getfield 26, 3) := by decide +kernel
theorem dX4_hedged_45 : decode cX4_hedged 45 = .ok (.iload 4, 2) := by decide +kernel
theorem dX4_hedged_47 : decode cX4_hedged 47 = .ok (.invokevirtual 186, 3) := by decide +kernel
theorem dX4_hedged_50 : decode cX4_hedged 50 = .ok (.aload_n 0, 1) := by decide +kernel
theorem dX4_hedged_51 : decode cX4_hedged 51 = .ok (.getfield 26, 3) := by decide +kernel
theorem dX4_hedged_54 : decode cX4_hedged 54 = .ok (.getfield 190, 3) := by decide +kernel
theorem dX4_hedged_57 : decode cX4_hedged 57 = .ok (.ldc2_w 184, 3) := by decide +kernel
theorem dX4_hedged_60 : decode cX4_hedged 60 = .ok (.lxor, 1) := by decide +kernel
theorem dX4_hedged_61 : decode cX4_hedged 61 = .ok (.land, 1) := by decide +kernel
theorem dX4_hedged_62 : decode cX4_hedged 62 = .ok (.lstore 5, 2) := by decide +kernel
theorem dX4_hedged_64 : decode cX4_hedged 64 = .ok (.lload_n 2, 1) := by decide +kernel
theorem dX4_hedged_65 : decode cX4_hedged 65 = .ok (.ldc2_w 184, 3) := by decide +kernel
theorem dX4_hedged_68 : decode cX4_hedged 68 = .ok (.lcmp, 1) := by decide +kernel
theorem dX4_hedged_69 : decode cX4_hedged 69 = .ok (.ifCond .eq 12, 3) := by decide +kernel
theorem dX4_hedged_72 : decode cX4_hedged 72 = .ok (.lload 5, 2) := by decide +kernel
theorem dX4_hedged_74 : decode cX4_hedged 74 = .ok (.lload_n 2, 1) := by decide +kernel
theorem dX4_hedged_75 : decode cX4_hedged 75 = .ok (.invokestatic 194, 3) := by decide +kernel
theorem dX4_hedged_78 : decode cX4_hedged 78 = .ok (.ifCond .eq 15, 3) := by decide +kernel
theorem dX4_hedged_81 : decode cX4_hedged 81 = .ok (.aload_n 0, 1) := by decide +kernel
theorem dX4_hedged_82 : decode cX4_hedged 82 = .ok (.lload 5, 2) := by decide +kernel
theorem dX4_hedged_84 : decode cX4_hedged 84 = .ok (.invokevirtual 198, 3) := by decide +kernel
theorem dX4_hedged_87 : decode cX4_hedged 87 = .ok (.ifCond .eq 6, 3) := by decide +kernel
theorem dX4_hedged_90 : decode cX4_hedged 90 = .ok (.lload 5, 2) := by decide +kernel
theorem dX4_hedged_92 : decode cX4_hedged 92 = .ok (.lstore_n 2, 1) := by decide +kernel
theorem dX4_hedged_93 : decode cX4_hedged 93 = .ok (.iinc 4 1, 3) := by decide +kernel
theorem dX4_hedged_96 : decode cX4_hedged 96 = .ok (.goto (-67), 3) := by decide +kernel
theorem dX4_hedged_99 : decode cX4_hedged 99 = .ok (.lload_n 2, 1) := by decide +kernel
theorem dX4_hedged_100 : decode cX4_hedged 100 = .ok (.ldc2_w 184, 3) := by decide +kernel
theorem dX4_hedged_103 : decode cX4_hedged 103 = .ok (.lcmp, 1) := by decide +kernel
theorem dX4_hedged_104 : decode cX4_hedged 104 = .ok (.ifCond .ne 7, 3) := by decide +kernel
theorem dX4_hedged_107 : decode cX4_hedged 107 = .ok (.ldc2_w 184, 3) := by decide +kernel
theorem dX4_hedged_110 : decode cX4_hedged 110 = .ok (.lreturn, 1) := by decide +kernel
theorem dX4_hedged_111 : decode cX4_hedged 111 = .ok (.iload_n 1, 1) := by decide +kernel
theorem dX4_hedged_112 : decode cX4_hedged 112 = .ok (.ifCond .ne 11, 3) := by decide +kernel
theorem dX4_hedged_115 : decode cX4_hedged 115 = .ok (.lload_n 2, 1) := by decide +kernel
theorem dX4_hedged_116 : decode cX4_hedged 116 = .ok (.invokestatic 202, 3) := by decide +kernel
theorem dX4_hedged_119 : decode cX4_hedged 119 = .ok (.i2l, 1) := by decide +kernel
theorem dX4_hedged_120 : decode cX4_hedged 120 = .ok (.goto 4, 3) := by decide +kernel
theorem dX4_hedged_123 : decode cX4_hedged 123 = .ok (.lload_n 2, 1) := by decide +kernel
theorem dX4_hedged_124 : decode cX4_hedged 124 = .ok (.lreturn, 1) := by decide +kernel
theorem dX4_margin_0 : decode cX4_margin 0 = .ok (.aload_n 0, 1) := by decide +kernel
theorem dX4_margin_1 : decode cX4_margin 1 = .ok (.getfield 33, 3) := by decide +kernel
theorem dX4_margin_4 : decode cX4_margin 4 = .ok (.aload_n 0, 1) := by decide +kernel
theorem dX4_margin_5 : decode cX4_margin 5 = .ok (.getfield 121, 3) := by decide +kernel
theorem dX4_margin_8 : decode cX4_margin 8 = .ok (.invokevirtual 208, 3) := by decide +kernel
theorem dX4_margin_11 : decode cX4_margin 11 = .ok (.sipush 1000, 3) := by decide +kernel
theorem dX4_margin_14 : decode cX4_margin 14 = .ok (.iadd, 1) := by decide +kernel
theorem dX4_margin_15 : decode cX4_margin 15 = .ok (.ireturn, 1) := by decide +kernel
theorem dX4_price_0 : decode cX4_price 0 = .ok (.aload_n 0, 1) := by decide +kernel
theorem dX4_price_1 : decode cX4_price 1 = .ok (.getfield 26, 3) := by decide +kernel
theorem dX4_price_4 : decode cX4_price 4 = .ok (.iload_n 1, 1) := by decide +kernel
theorem dX4_price_5 : decode cX4_price 5 = .ok (.invokevirtual 118, 3) := by decide +kernel
theorem dX4_price_8 : decode cX4_price 8 = .ok (.ifCond .ne 6, 3) := by decide +kernel
theorem dX4_price_11 : decode cX4_price 11 = .ok (.bipush (-2), 2) := by decide +kernel
theorem dX4_price_13 : decode cX4_price 13 = .ok (.ireturn, 1) := by decide +kernel
theorem dX4_price_14 : decode cX4_price 14 = .ok (.aload_n 0, 1) := by decide +kernel
theorem dX4_price_15 : decode cX4_price 15 = .ok (.getfield 33, 3) := by decide +kernel
theorem dX4_price_18 : decode cX4_price 18 = .ok (.aload_n 0, 1) := by decide +kernel
theorem dX4_price_19 : decode cX4_price 19 = .ok (.getfield 121, 3) := by decide +kernel
theorem dX4_price_22 : decode cX4_price 22 = .ok (.iconst 1, 1) := by decide +kernel
theorem dX4_price_23 : decode cX4_price 23 = .ok (.iload_n 1, 1) := by decide +kernel
theorem dX4_price_24 : decode cX4_price 24 = .ok (.ishl, 1) := by decide +kernel
theorem dX4_price_25 : decode cX4_price 25 = .ok (.iconst (-1), 1) := by decide +kernel
theorem dX4_price_26 : decode cX4_price 26 = .ok (.ixor, 1) := by decide +kernel
theorem dX4_price_27 : decode cX4_price 27 = .ok (.iand, 1) := by decide +kernel
theorem dX4_price_28 : decode cX4_price 28 = .ok (.invokevirtual 208, 3) := by decide +kernel
theorem dX4_price_31 : decode cX4_price 31 = .ok (.aload_n 0, 1) := by decide +kernel
theorem dX4_price_32 : decode cX4_price 32 = .ok (.getfield 33, 3) := by decide +kernel
theorem dX4_price_35 : decode cX4_price 35 = .ok (.aload_n 0, 1) := by decide +kernel
theorem dX4_price_36 : decode cX4_price 36 = .ok (.getfield 121, 3) := by decide +kernel
theorem dX4_price_39 : decode cX4_price 39 = .ok (.iconst 1, 1) := by decide +kernel
theorem dX4_price_40 : decode cX4_price 40 = .ok (.iload_n 1, 1) := by decide +kernel
theorem dX4_price_41 : decode cX4_price 41 = .ok (.ishl, 1) := by decide +kernel
theorem dX4_price_42 : decode cX4_price 42 = .ok (.ior, 1) := by decide +kernel
theorem dX4_price_43 : decode cX4_price 43 = .ok (.invokevirtual 208, 3) := by decide +kernel
theorem dX4_price_46 : decode cX4_price 46 = .ok (.isub, 1) := by decide +kernel
theorem dX4_price_47 : decode cX4_price 47 = .ok (.ireturn, 1) := by decide +kernel
theorem dX4_way_0 : decode cX4_way 0 = .ok (.aload_n 0, 1) := by decide +kernel
theorem dX4_way_1 : decode cX4_way 1 = .ok (.getfield 26, 3) := by decide +kernel
theorem dX4_way_4 : decode cX4_way 4 = .ok (.iload_n 1, 1) := by decide +kernel
theorem dX4_way_5 : decode cX4_way 5 = .ok (.invokevirtual 97, 3) := by decide +kernel
theorem dX4_way_8 : decode cX4_way 8 = .ok (.ifCond .ne 6, 3) := by decide +kernel
theorem dX4_way_11 : decode cX4_way 11 = .ok (.bipush (-2), 2) := by decide +kernel
theorem dX4_way_13 : decode cX4_way 13 = .ok (.ireturn, 1) := by decide +kernel
theorem dX4_way_14 : decode cX4_way 14 = .ok (.aload_n 0, 1) := by decide +kernel
theorem dX4_way_15 : decode cX4_way 15 = .ok (.getfield 148, 3) := by decide +kernel
theorem dX4_way_18 : decode cX4_way 18 = .ok (.iconst (-1), 1) := by decide +kernel
theorem dX4_way_19 : decode cX4_way 19 = .ok (.if_icmp .ne 6, 3) := by decide +kernel
theorem dX4_way_22 : decode cX4_way 22 = .ok (.bipush (-4), 2) := by decide +kernel
theorem dX4_way_24 : decode cX4_way 24 = .ok (.ireturn, 1) := by decide +kernel
theorem dX4_way_25 : decode cX4_way 25 = .ok (.iconst 0, 1) := by decide +kernel
theorem dX4_way_26 : decode cX4_way 26 = .ok (.istore_n 2, 1) := by decide +kernel
theorem dX4_way_27 : decode cX4_way 27 = .ok (.iload_n 2, 1) := by decide +kernel
theorem dX4_way_28 : decode cX4_way 28 = .ok (.bipush 12, 2) := by decide +kernel
theorem dX4_way_30 : decode cX4_way 30 = .ok (.if_icmp .ge 27, 3) := by decide +kernel
theorem dX4_way_33 : decode cX4_way 33 = .ok (.aload_n 0, 1) := by decide +kernel
theorem dX4_way_34 : decode cX4_way 34 = .ok (.getfield 62, 3) := by decide +kernel
theorem dX4_way_37 : decode cX4_way 37 = .ok (.iload_n 2, 1) := by decide +kernel
theorem dX4_way_38 : decode cX4_way 38 = .ok (.aload_n 0, 1) := by decide +kernel
theorem dX4_way_39 : decode cX4_way 39 = .ok (.getfield 33, 3) := by decide +kernel
theorem dX4_way_42 : decode cX4_way 42 = .ok (.aload_n 0, 1) := by decide +kernel
theorem dX4_way_43 : decode cX4_way 43 = .ok (.getfield 121, 3) := by decide +kernel
theorem dX4_way_46 : decode cX4_way 46 = .ok (.iload_n 2, 1) := by decide +kernel
theorem dX4_way_47 : decode cX4_way 47 = .ok (.invokevirtual 211, 3) := by decide +kernel
theorem dX4_way_50 : decode cX4_way 50 = .ok (.lastore, 1) := by decide +kernel
theorem dX4_way_51 : decode cX4_way 51 = .ok (.iinc 2 1, 3) := by decide +kernel
theorem dX4_way_54 : decode cX4_way 54 = .ok (.goto (-27), 3) := by decide +kernel
theorem dX4_way_57 : decode cX4_way 57 = .ok (.lconst 1, 1) := by decide +kernel
theorem dX4_way_58 : decode cX4_way 58 = .ok (.aload_n 0, 1) := by decide +kernel
theorem dX4_way_59 : decode cX4_way 59 = .ok (.getfield 148, 3) := by decide +kernel
theorem dX4_way_62 : decode cX4_way 62 = .ok (.lshl, 1) := by decide +kernel
theorem dX4_way_63 : decode cX4_way 63 = .ok (.lstore_n 2, 1) := by decide +kernel
theorem dX4_way_64 : decode cX4_way 64 = .ok (.aload_n 0, 1) := by decide +kernel
theorem dX4_way_65 : decode cX4_way 65 = .ok (.getfield 135, 3) := by decide +kernel
theorem dX4_way_68 : decode cX4_way 68 = .ok (.istore 4, 2) := by decide +kernel
theorem dX4_way_70 : decode cX4_way 70 = .ok (.iconst 0, 1) := by decide +kernel
theorem dX4_way_71 : decode cX4_way 71 = .ok (.istore 5, 2) := by decide +kernel
theorem dX4_way_73 : decode cX4_way 73 = .ok (.iload 5, 2) := by decide +kernel
theorem dX4_way_75 : decode cX4_way 75 = .ok (.bipush 99, 2) := by decide +kernel
theorem dX4_way_77 : decode cX4_way 77 = .ok (.if_icmp .gt 60, 3) := by decide +kernel
theorem dX4_way_80 : decode cX4_way 80 = .ok (.lload_n 2, 1) := by decide +kernel
theorem dX4_way_81 : decode cX4_way 81 = .ok (.iload 4, 2) := by decide +kernel
theorem dX4_way_83 : decode cX4_way 83 = .ok (.invokestatic 145, 3) := by decide +kernel
theorem dX4_way_86 : decode cX4_way 86 = .ok (.ifCond .eq 13, 3) := by decide +kernel
theorem dX4_way_89 : decode cX4_way 89 = .ok (.aload_n 0, 1) := by decide +kernel
theorem dX4_way_90 : decode cX4_way 90 = .ok (.getfield 62, 3) := by decide +kernel
theorem dX4_way_93 : decode cX4_way 93 = .ok (.iload 4, 2) := by decide +kernel
theorem dX4_way_95 : decode cX4_way 95 = .ok (.laload, 1) := by decide +kernel
theorem dX4_way_96 : decode cX4_way 96 = .ok (.goto 4, 3) := by decide +kernel
theorem dX4_way_99 : decode cX4_way 99 = .ok (.lconst 0, 1) := by decide +kernel
theorem dX4_way_100 : decode cX4_way 100 = .ok (.land, 1) := by decide +kernel
theorem dX4_way_101 : decode cX4_way 101 = .ok (.lstore_n 2, 1) := by decide +kernel
theorem dX4_way_102 : decode cX4_way 102 = .ok (.lload_n 2, 1) := by decide +kernel
theorem dX4_way_103 : decode cX4_way 103 = .ok (.iload_n 1, 1) := by decide +kernel
theorem dX4_way_104 : decode cX4_way 104 = .ok (.lushr, 1) := by decide +kernel
theorem dX4_way_105 : decode cX4_way 105 = .ok (.lconst 1, 1) := by decide +kernel
theorem dX4_way_106 : decode cX4_way 106 = .ok (.land, 1) := by decide +kernel
theorem dX4_way_107 : decode cX4_way 107 = .ok (.lconst 1, 1) := by decide +kernel
theorem dX4_way_108 : decode cX4_way 108 = .ok (.lcmp, 1) := by decide +kernel
theorem dX4_way_109 : decode cX4_way 109 = .ok (.ifCond .ne 6, 3) := by decide +kernel
theorem dX4_way_112 : decode cX4_way 112 = .ok (.iload 5, 2) := by decide +kernel
theorem dX4_way_114 : decode cX4_way 114 = .ok (.ireturn, 1) := by decide +kernel
theorem dX4_way_115 : decode cX4_way 115 = .ok (.aload_n 0, 1) := by decide +kernel
theorem dX4_way_116 : decode cX4_way 116 = .ok (.getfield 26, 3) := by decide +kernel
theorem dX4_way_119 : decode cX4_way 119 = .ok (.lload_n 2, 1) := by decide +kernel
theorem dX4_way_120 : decode cX4_way 120 = .ok (.invokevirtual 215, 3) := by decide +kernel
theorem dX4_way_123 : decode cX4_way 123 = .ok (.lstore_n 2, 1) := by decide +kernel
theorem dX4_way_124 : decode cX4_way 124 = .ok (.iload 4, 2) := by decide +kernel
theorem dX4_way_126 : decode cX4_way 126 = .ok (.invokestatic 154, 3) := by decide +kernel
theorem dX4_way_129 : decode cX4_way 129 = .ok (.istore 4, 2) := by decide +kernel
theorem dX4_way_131 : decode cX4_way 131 = .ok (.iinc 5 1, 3) := by decide +kernel
theorem dX4_way_134 : decode cX4_way 134 = .ok (.goto (-61), 3) := by decide +kernel
theorem dX4_way_137 : decode cX4_way 137 = .ok (.iconst (-1), 1) := by decide +kernel
theorem dX4_way_138 : decode cX4_way 138 = .ok (.ireturn, 1) := by decide +kernel
theorem dX4_wind_0 : decode cX4_wind 0 = .ok (.aload_n 0, 1) := by decide +kernel
theorem dX4_wind_1 : decode cX4_wind 1 = .ok (.getfield 26, 3) := by decide +kernel
theorem dX4_wind_4 : decode cX4_wind 4 = .ok (.iload_n 1, 1) := by decide +kernel
theorem dX4_wind_5 : decode cX4_wind 5 = .ok (.invokevirtual 97, 3) := by decide +kernel
theorem dX4_wind_8 : decode cX4_wind 8 = .ok (.ifCond .ne 6, 3) := by decide +kernel
theorem dX4_wind_11 : decode cX4_wind 11 = .ok (.bipush (-2), 2) := by decide +kernel
theorem dX4_wind_13 : decode cX4_wind 13 = .ok (.ireturn, 1) := by decide +kernel
theorem dX4_wind_14 : decode cX4_wind 14 = .ok (.iload_n 2, 1) := by decide +kernel
theorem dX4_wind_15 : decode cX4_wind 15 = .ok (.invokestatic 145, 3) := by decide +kernel
theorem dX4_wind_18 : decode cX4_wind 18 = .ok (.ifCond .eq 21, 3) := by decide +kernel
theorem dX4_wind_21 : decode cX4_wind 21 = .ok (.iload_n 3, 1) := by decide +kernel
theorem dX4_wind_22 : decode cX4_wind 22 = .ok (.ifCond .lt 17, 3) := by decide +kernel
theorem dX4_wind_25 : decode cX4_wind 25 = .ok (.iload_n 3, 1) := by decide +kernel
theorem dX4_wind_26 : decode cX4_wind 26 = .ok (.bipush 10, 2) := by decide +kernel
theorem dX4_wind_28 : decode cX4_wind 28 = .ok (.if_icmp .gt 11, 3) := by decide +kernel
theorem dX4_wind_31 : decode cX4_wind 31 = .ok (.iload 4, 2) := by decide +kernel
theorem dX4_wind_33 : decode cX4_wind 33 = .ok (.invokestatic 142, 3) := by decide +kernel
theorem dX4_wind_36 : decode cX4_wind 36 = .ok (.ifCond .ne 6, 3) := by decide +kernel
theorem dX4_wind_39 : decode cX4_wind 39 = .ok (.bipush (-3), 2) := by decide +kernel
theorem dX4_wind_41 : decode cX4_wind 41 = .ok (.ireturn, 1) := by decide +kernel
theorem dX4_wind_42 : decode cX4_wind 42 = .ok (.aload_n 0, 1) := by decide +kernel
theorem dX4_wind_43 : decode cX4_wind 43 = .ok (.getfield 33, 3) := by decide +kernel
theorem dX4_wind_46 : decode cX4_wind 46 = .ok (.iload_n 1, 1) := by decide +kernel
theorem dX4_wind_47 : decode cX4_wind 47 = .ok (.invokevirtual 115, 3) := by decide +kernel
theorem dX4_wind_50 : decode cX4_wind 50 = .ok (.aload_n 0, 1) := by decide +kernel
theorem dX4_wind_51 : decode cX4_wind 51 = .ok (.getfield 33, 3) := by decide +kernel
theorem dX4_wind_54 : decode cX4_wind 54 = .ok (.aload_n 0, 1) := by decide +kernel
theorem dX4_wind_55 : decode cX4_wind 55 = .ok (.getfield 121, 3) := by decide +kernel
theorem dX4_wind_58 : decode cX4_wind 58 = .ok (.iload_n 1, 1) := by decide +kernel
theorem dX4_wind_59 : decode cX4_wind 59 = .ok (.iload_n 2, 1) := by decide +kernel
theorem dX4_wind_60 : decode cX4_wind 60 = .ok (.invokevirtual 138, 3) := by decide +kernel
theorem dX4_wind_63 : decode cX4_wind 63 = .ok (.isub, 1) := by decide +kernel
theorem dX4_wind_64 : decode cX4_wind 64 = .ok (.istore 5, 2) := by decide +kernel
theorem dX4_wind_66 : decode cX4_wind 66 = .ok (.iconst 0, 1) := by decide +kernel
theorem dX4_wind_67 : decode cX4_wind 67 = .ok (.istore 6, 2) := by decide +kernel
theorem dX4_wind_69 : decode cX4_wind 69 = .ok (.iconst 0, 1) := by decide +kernel
theorem dX4_wind_70 : decode cX4_wind 70 = .ok (.istore 7, 2) := by decide +kernel
theorem dX4_wind_72 : decode cX4_wind 72 = .ok (.iconst 0, 1) := by decide +kernel
theorem dX4_wind_73 : decode cX4_wind 73 = .ok (.istore 8, 2) := by decide +kernel
theorem dX4_wind_75 : decode cX4_wind 75 = .ok (.iload 8, 2) := by decide +kernel
theorem dX4_wind_77 : decode cX4_wind 77 = .ok (.aload_n 0, 1) := by decide +kernel
theorem dX4_wind_78 : decode cX4_wind 78 = .ok (.getfield 26, 3) := by decide +kernel
theorem dX4_wind_81 : decode cX4_wind 81 = .ok (.invokevirtual 167, 3) := by decide +kernel
theorem dX4_wind_84 : decode cX4_wind 84 = .ok (.if_icmp .ge 64, 3) := by decide +kernel
theorem dX4_wind_87 : decode cX4_wind 87 = .ok (.iload 8, 2) := by decide +kernel
theorem dX4_wind_89 : decode cX4_wind 89 = .ok (.aload_n 0, 1) := by decide +kernel
theorem dX4_wind_90 : decode cX4_wind 90 = .ok (.getfield 121, 3) := by decide +kernel
theorem dX4_wind_93 : decode cX4_wind 93 = .ok (.iconst (-1), 1) := by decide +kernel
theorem dX4_wind_94 : decode cX4_wind 94 = .ok (.ixor, 1) := by decide +kernel
theorem dX4_wind_95 : decode cX4_wind 95 = .ok (.iand, 1) := by decide +kernel
theorem dX4_wind_96 : decode cX4_wind 96 = .ok (.ifCond .ne 46, 3) := by decide +kernel
theorem dX4_wind_99 : decode cX4_wind 99 = .ok (.aload_n 0, 1) := by decide +kernel
theorem dX4_wind_100 : decode cX4_wind 100 = .ok (.iload 8, 2) := by decide +kernel
theorem dX4_wind_102 : decode cX4_wind 102 = .ok (.iload_n 3, 1) := by decide +kernel
theorem dX4_wind_103 : decode cX4_wind 103 = .ok (.invokevirtual 219, 3) := by decide +kernel
theorem dX4_wind_106 : decode cX4_wind 106 = .ok (.istore 9, 2) := by decide +kernel
theorem dX4_wind_108 : decode cX4_wind 108 = .ok (.iload 7, 2) := by decide +kernel
theorem dX4_wind_110 : decode cX4_wind 110 = .ok (.iload 9, 2) := by decide +kernel
theorem dX4_wind_112 : decode cX4_wind 112 = .ok (.iadd, 1) := by decide +kernel
theorem dX4_wind_113 : decode cX4_wind 113 = .ok (.istore 7, 2) := by decide +kernel
theorem dX4_wind_115 : decode cX4_wind 115 = .ok (.iload 6, 2) := by decide +kernel
theorem dX4_wind_117 : decode cX4_wind 117 = .ok (.iload 5, 2) := by decide +kernel
theorem dX4_wind_119 : decode cX4_wind 119 = .ok (.aload_n 0, 1) := by decide +kernel
theorem dX4_wind_120 : decode cX4_wind 120 = .ok (.getfield 33, 3) := by decide +kernel
theorem dX4_wind_123 : decode cX4_wind 123 = .ok (.iload 8, 2) := by decide +kernel
theorem dX4_wind_125 : decode cX4_wind 125 = .ok (.iload_n 1, 1) := by decide +kernel
theorem dX4_wind_126 : decode cX4_wind 126 = .ok (.iload_n 2, 1) := by decide +kernel
theorem dX4_wind_127 : decode cX4_wind 127 = .ok (.invokevirtual 138, 3) := by decide +kernel
theorem dX4_wind_130 : decode cX4_wind 130 = .ok (.if_icmp .le 8, 3) := by decide +kernel
theorem dX4_wind_133 : decode cX4_wind 133 = .ok (.iload 9, 2) := by decide +kernel
theorem dX4_wind_135 : decode cX4_wind 135 = .ok (.goto 4, 3) := by decide +kernel
theorem dX4_wind_138 : decode cX4_wind 138 = .ok (.iconst 0, 1) := by decide +kernel
theorem dX4_wind_139 : decode cX4_wind 139 = .ok (.iadd, 1) := by decide +kernel
theorem dX4_wind_140 : decode cX4_wind 140 = .ok (.istore 6, 2) := by decide +kernel
theorem dX4_wind_142 : decode cX4_wind 142 = .ok (.iinc 8 1, 3) := by decide +kernel
theorem dX4_wind_145 : decode cX4_wind 145 = .ok (.goto (-70), 3) := by decide +kernel
theorem dX4_wind_148 : decode cX4_wind 148 = .ok (.iload 7, 2) := by decide +kernel
theorem dX4_wind_150 : decode cX4_wind 150 = .ok (.iload 6, 2) := by decide +kernel
theorem dX4_wind_152 : decode cX4_wind 152 = .ok (.invokestatic 222, 3) := by decide +kernel
theorem dX4_wind_155 : decode cX4_wind 155 = .ok (.istore 8, 2) := by decide +kernel
theorem dX4_wind_157 : decode cX4_wind 157 = .ok (.iload 8, 2) := by decide +kernel
theorem dX4_wind_159 : decode cX4_wind 159 = .ok (.iconst 1, 1) := by decide +kernel
theorem dX4_wind_160 : decode cX4_wind 160 = .ok (.if_icmp .ge 7, 3) := by decide +kernel
theorem dX4_wind_163 : decode cX4_wind 163 = .ok (.iconst 0, 1) := by decide +kernel
theorem dX4_wind_164 : decode cX4_wind 164 = .ok (.goto 18, 3) := by decide +kernel
theorem dX4_wind_167 : decode cX4_wind 167 = .ok (.iload 4, 2) := by decide +kernel
theorem dX4_wind_169 : decode cX4_wind 169 = .ok (.ifCond .ne 8, 3) := by decide +kernel
theorem dX4_wind_172 : decode cX4_wind 172 = .ok (.iload 6, 2) := by decide +kernel
theorem dX4_wind_174 : decode cX4_wind 174 = .ok (.goto 5, 3) := by decide +kernel
theorem dX4_wind_177 : decode cX4_wind 177 = .ok (.iload 7, 2) := by decide +kernel
theorem dX4_wind_179 : decode cX4_wind 179 = .ok (.iload 8, 2) := by decide +kernel
theorem dX4_wind_181 : decode cX4_wind 181 = .ok (.idiv, 1) := by decide +kernel
theorem dX4_wind_182 : decode cX4_wind 182 = .ok (.ireturn, 1) := by decide +kernel
theorem dX4_seen_0 : decode cX4_seen 0 = .ok (.aload_n 0, 1) := by decide +kernel
theorem dX4_seen_1 : decode cX4_seen 1 = .ok (.getfield 26, 3) := by decide +kernel
theorem dX4_seen_4 : decode cX4_seen 4 = .ok (.iload_n 1, 1) := by decide +kernel
theorem dX4_seen_5 : decode cX4_seen 5 = .ok (.invokevirtual 97, 3) := by decide +kernel
theorem dX4_seen_8 : decode cX4_seen 8 = .ok (.ifCond .ne 6, 3) := by decide +kernel
theorem dX4_seen_11 : decode cX4_seen 11 = .ok (.bipush (-2), 2) := by decide +kernel
theorem dX4_seen_13 : decode cX4_seen 13 = .ok (.ireturn, 1) := by decide +kernel
theorem dX4_seen_14 : decode cX4_seen 14 = .ok (.iload_n 2, 1) := by decide +kernel
theorem dX4_seen_15 : decode cX4_seen 15 = .ok (.invokestatic 145, 3) := by decide +kernel
theorem dX4_seen_18 : decode cX4_seen 18 = .ok (.ifCond .eq 10, 3) := by decide +kernel
theorem dX4_seen_21 : decode cX4_seen 21 = .ok (.iload_n 3, 1) := by decide +kernel
theorem dX4_seen_22 : decode cX4_seen 22 = .ok (.invokestatic 142, 3) := by decide +kernel
theorem dX4_seen_25 : decode cX4_seen 25 = .ok (.ifCond .ne 6, 3) := by decide +kernel
theorem dX4_seen_28 : decode cX4_seen 28 = .ok (.bipush (-3), 2) := by decide +kernel
theorem dX4_seen_30 : decode cX4_seen 30 = .ok (.ireturn, 1) := by decide +kernel
theorem dX4_seen_31 : decode cX4_seen 31 = .ok (.aload_n 0, 1) := by decide +kernel
theorem dX4_seen_32 : decode cX4_seen 32 = .ok (.getfield 225, 3) := by decide +kernel
theorem dX4_seen_35 : decode cX4_seen 35 = .ok (.ifCond .lt 12, 3) := by decide +kernel
theorem dX4_seen_38 : decode cX4_seen 38 = .ok (.aload_n 0, 1) := by decide +kernel
theorem dX4_seen_39 : decode cX4_seen 39 = .ok (.getfield 225, 3) := by decide +kernel
theorem dX4_seen_42 : decode cX4_seen 42 = .ok (.bipush 8, 2) := by decide +kernel
theorem dX4_seen_44 : decode cX4_seen 44 = .ok (.if_icmp .lt 6, 3) := by decide +kernel
theorem dX4_seen_47 : decode cX4_seen 47 = .ok (.bipush (-5), 2) := by decide +kernel
theorem dX4_seen_49 : decode cX4_seen 49 = .ok (.ireturn, 1) := by decide +kernel
theorem dX4_seen_50 : decode cX4_seen 50 = .ok (.aload_n 0, 1) := by decide +kernel
theorem dX4_seen_51 : decode cX4_seen 51 = .ok (.getfield 53, 3) := by decide +kernel
theorem dX4_seen_54 : decode cX4_seen 54 = .ok (.aload_n 0, 1) := by decide +kernel
theorem dX4_seen_55 : decode cX4_seen 55 = .ok (.getfield 225, 3) := by decide +kernel
theorem dX4_seen_58 : decode cX4_seen 58 = .ok (.iload_n 1, 1) := by decide +kernel
theorem dX4_seen_59 : decode cX4_seen 59 = .ok (.iastore, 1) := by decide +kernel
theorem dX4_seen_60 : decode cX4_seen 60 = .ok (.aload_n 0, 1) := by decide +kernel
theorem dX4_seen_61 : decode cX4_seen 61 = .ok (.getfield 56, 3) := by decide +kernel
theorem dX4_seen_64 : decode cX4_seen 64 = .ok (.aload_n 0, 1) := by decide +kernel
theorem dX4_seen_65 : decode cX4_seen 65 = .ok (.getfield 225, 3) := by decide +kernel
theorem dX4_seen_68 : decode cX4_seen 68 = .ok (.iload_n 2, 1) := by decide +kernel
theorem dX4_seen_69 : decode cX4_seen 69 = .ok (.iastore, 1) := by decide +kernel
theorem dX4_seen_70 : decode cX4_seen 70 = .ok (.aload_n 0, 1) := by decide +kernel
theorem dX4_seen_71 : decode cX4_seen 71 = .ok (.getfield 59, 3) := by decide +kernel
theorem dX4_seen_74 : decode cX4_seen 74 = .ok (.aload_n 0, 1) := by decide +kernel
theorem dX4_seen_75 : decode cX4_seen 75 = .ok (.getfield 225, 3) := by decide +kernel
theorem dX4_seen_78 : decode cX4_seen 78 = .ok (.iload_n 3, 1) := by decide +kernel
theorem dX4_seen_79 : decode cX4_seen 79 = .ok (.iastore, 1) := by decide +kernel
theorem dX4_seen_80 : decode cX4_seen 80 = .ok (.aload_n 0, 1) := by decide +kernel
theorem dX4_seen_81 : decode cX4_seen 81 = .ok (.dup, 1) := by decide +kernel
theorem dX4_seen_82 : decode cX4_seen 82 = .ok (.getfield 225, 3) := by decide +kernel
theorem dX4_seen_85 : decode cX4_seen 85 = .ok (.iconst 1, 1) := by decide +kernel
theorem dX4_seen_86 : decode cX4_seen 86 = .ok (.iadd, 1) := by decide +kernel
theorem dX4_seen_87 : decode cX4_seen 87 = .ok (.putfield 225, 3) := by decide +kernel
theorem dX4_seen_90 : decode cX4_seen 90 = .ok (.aload_n 0, 1) := by decide +kernel
theorem dX4_seen_91 : decode cX4_seen 91 = .ok (.getfield 225, 3) := by decide +kernel
theorem dX4_seen_94 : decode cX4_seen 94 = .ok (.ireturn, 1) := by decide +kernel
theorem dX4_forget_0 : decode cX4_forget 0 = .ok (.aload_n 0, 1) := by decide +kernel
theorem dX4_forget_1 : decode cX4_forget 1 = .ok (.getfield 225, 3) := by decide +kernel
theorem dX4_forget_4 : decode cX4_forget 4 = .ok (.istore_n 1, 1) := by decide +kernel
theorem dX4_forget_5 : decode cX4_forget 5 = .ok (.aload_n 0, 1) := by decide +kernel
theorem dX4_forget_6 : decode cX4_forget 6 = .ok (.iconst 0, 1) := by decide +kernel
theorem dX4_forget_7 : decode cX4_forget 7 = .ok (.putfield 225, 3) := by decide +kernel
theorem dX4_forget_10 : decode cX4_forget 10 = .ok (.iload_n 1, 1) := by decide +kernel
theorem dX4_forget_11 : decode cX4_forget 11 = .ok (.ireturn, 1) := by decide +kernel
theorem dX4_played_0 : decode cX4_played 0 = .ok (.iload_n 1, 1) := by decide +kernel
theorem dX4_played_1 : decode cX4_played 1 = .ok (.invokestatic 142, 3) := by decide +kernel
theorem dX4_played_4 : decode cX4_played 4 = .ok (.ifCond .ne 6, 3) := by decide +kernel
theorem dX4_played_7 : decode cX4_played 7 = .ok (.bipush (-3), 2) := by decide +kernel
theorem dX4_played_9 : decode cX4_played 9 = .ok (.ireturn, 1) := by decide +kernel
theorem dX4_played_10 : decode cX4_played 10 = .ok (.iconst 0, 1) := by decide +kernel
theorem dX4_played_11 : decode cX4_played 11 = .ok (.istore_n 2, 1) := by decide +kernel
theorem dX4_played_12 : decode cX4_played 12 = .ok (.iconst (-1), 1) := by decide +kernel
theorem dX4_played_13 : decode cX4_played 13 = .ok (.istore_n 3, 1) := by decide +kernel
theorem dX4_played_14 : decode cX4_played 14 = .ok (.iconst 0, 1) := by decide +kernel
theorem dX4_played_15 : decode cX4_played 15 = .ok (.istore 4, 2) := by decide +kernel
theorem dX4_played_17 : decode cX4_played 17 = .ok (.iload 4, 2) := by decide +kernel
theorem dX4_played_19 : decode cX4_played 19 = .ok (.aload_n 0, 1) := by decide +kernel
theorem dX4_played_20 : decode cX4_played 20 = .ok (.getfield 26, 3) := by decide +kernel
theorem dX4_played_23 : decode cX4_played 23 = .ok (.invokevirtual 167, 3) := by decide +kernel
theorem dX4_played_26 : decode cX4_played 26 = .ok (.if_icmp .ge 26, 3) := by decide +kernel
theorem dX4_played_29 : decode cX4_played 29 = .ok (.aload_n 0, 1) := by decide +kernel
theorem dX4_played_30 : decode cX4_played 30 = .ok (.iload 4, 2) := by decide +kernel
theorem dX4_played_32 : decode cX4_played 32 = .ok (.invokevirtual 228, 3) := by decide +kernel
theorem dX4_played_35 : decode cX4_played 35 = .ok (.ifCond .eq 11, 3) := by decide +kernel
theorem dX4_played_38 : decode cX4_played 38 = .ok (.iinc 2 1, 3) := by decide +kernel
theorem dX4_played_41 : decode cX4_played 41 = .ok (.iload_n 3, 1) := by decide +kernel
theorem dX4_played_42 : decode cX4_played 42 = .ok (.iload 4, 2) := by decide +kernel
theorem dX4_played_44 : decode cX4_played 44 = .ok (.iand, 1) := by decide +kernel
theorem dX4_played_45 : decode cX4_played 45 = .ok (.istore_n 3, 1) := by decide +kernel
theorem dX4_played_46 : decode cX4_played 46 = .ok (.iinc 4 1, 3) := by decide +kernel
theorem dX4_played_49 : decode cX4_played 49 = .ok (.goto (-32), 3) := by decide +kernel
theorem dX4_played_52 : decode cX4_played 52 = .ok (.iload_n 1, 1) := by decide +kernel
theorem dX4_played_53 : decode cX4_played 53 = .ok (.ifCond .ne 7, 3) := by decide +kernel
theorem dX4_played_56 : decode cX4_played 56 = .ok (.iload_n 2, 1) := by decide +kernel
theorem dX4_played_57 : decode cX4_played 57 = .ok (.goto 4, 3) := by decide +kernel
theorem dX4_played_60 : decode cX4_played 60 = .ok (.iload_n 3, 1) := by decide +kernel
theorem dX4_played_61 : decode cX4_played 61 = .ok (.ireturn, 1) := by decide +kernel
theorem dX4_count_0 : decode cX4_count 0 = .ok (.iload_n 1, 1) := by decide +kernel
theorem dX4_count_1 : decode cX4_count 1 = .ok (.tableswitch 111 0 8 #[51, 59, 67, 75, 83, 88, 93, 98, 103], 51) := by decide +kernel
theorem dX4_count_52 : decode cX4_count 52 = .ok (.aload_n 0, 1) := by decide +kernel
theorem dX4_count_53 : decode cX4_count 53 = .ok (.getfield 26, 3) := by decide +kernel
theorem dX4_count_56 : decode cX4_count 56 = .ok (.getfield 231, 3) := by decide +kernel
theorem dX4_count_59 : decode cX4_count 59 = .ok (.ireturn, 1) := by decide +kernel
theorem dX4_count_60 : decode cX4_count 60 = .ok (.aload_n 0, 1) := by decide +kernel
theorem dX4_count_61 : decode cX4_count 61 = .ok (.getfield 26, 3) := by decide +kernel
theorem dX4_count_64 : decode cX4_count 64 = .ok (.getfield 234, 3) := by decide +kernel
theorem dX4_count_67 : decode cX4_count 67 = .ok (.ireturn, 1) := by decide +kernel
theorem dX4_count_68 : decode cX4_count 68 = .ok (.aload_n 0, 1) := by decide +kernel
theorem dX4_count_69 : decode cX4_count 69 = .ok (.getfield 26, 3) := by decide +kernel
theorem dX4_count_72 : decode cX4_count 72 = .ok (.getfield 237, 3) := by decide +kernel
theorem dX4_count_75 : decode cX4_count 75 = .ok (.ireturn, 1) := by decide +kernel
theorem dX4_count_76 : decode cX4_count 76 = .ok (.aload_n 0, 1) := by decide +kernel
theorem dX4_count_77 : decode cX4_count 77 = .ok (.getfield 26, 3) := by decide +kernel
theorem dX4_count_80 : decode cX4_count 80 = .ok (.getfield 240, 3) := by decide +kernel
theorem dX4_count_83 : decode cX4_count 83 = .ok (.ireturn, 1) := by decide +kernel
theorem dX4_count_84 : decode cX4_count 84 = .ok (.aload_n 0, 1) := by decide +kernel
theorem dX4_count_85 : decode cX4_count 85 = .ok (.getfield 121, 3) := by decide +kernel
theorem dX4_count_88 : decode cX4_count 88 = .ok (.ireturn, 1) := by decide +kernel
theorem dX4_count_89 : decode cX4_count 89 = .ok (.aload_n 0, 1) := by decide +kernel
theorem dX4_count_90 : decode cX4_count 90 = .ok (.getfield 135, 3) := by decide +kernel
theorem dX4_count_93 : decode cX4_count 93 = .ok (.ireturn, 1) := by decide +kernel
theorem dX4_count_94 : decode cX4_count 94 = .ok (.aload_n 0, 1) := by decide +kernel
theorem dX4_count_95 : decode cX4_count 95 = .ok (.getfield 148, 3) := by decide +kernel
theorem dX4_count_98 : decode cX4_count 98 = .ok (.ireturn, 1) := by decide +kernel
theorem dX4_count_99 : decode cX4_count 99 = .ok (.aload_n 0, 1) := by decide +kernel
theorem dX4_count_100 : decode cX4_count 100 = .ok (.getfield 225, 3) := by decide +kernel
theorem dX4_count_103 : decode cX4_count 103 = .ok (.ireturn, 1) := by decide +kernel
theorem dX4_count_104 : decode cX4_count 104 = .ok (.aload_n 0, 1) := by decide +kernel
theorem dX4_count_105 : decode cX4_count 105 = .ok (.getfield 10, 3) := by decide +kernel
theorem dX4_count_108 : decode cX4_count 108 = .ok (.getfield 73, 3) := by decide +kernel
theorem dX4_count_111 : decode cX4_count 111 = .ok (.ireturn, 1) := by decide +kernel
theorem dX4_count_112 : decode cX4_count 112 = .ok (.bipush (-3), 2) := by decide +kernel
theorem dX4_count_114 : decode cX4_count 114 = .ok (.ireturn, 1) := by decide +kernel
theorem dX4_startAnew_0 : decode cX4_startAnew 0 = .ok (.aload_n 0, 1) := by decide +kernel
theorem dX4_startAnew_1 : decode cX4_startAnew 1 = .ok (.iconst 0, 1) := by decide +kernel
theorem dX4_startAnew_2 : decode cX4_startAnew 2 = .ok (.putfield 135, 3) := by decide +kernel
theorem dX4_startAnew_5 : decode cX4_startAnew 5 = .ok (.aload_n 0, 1) := by decide +kernel
theorem dX4_startAnew_6 : decode cX4_startAnew 6 = .ok (.aload_n 0, 1) := by decide +kernel
theorem dX4_startAnew_7 : decode cX4_startAnew 7 = .ok (.getfield 26, 3) := by decide +kernel
theorem dX4_startAnew_10 : decode cX4_startAnew 10 = .ok (.invokevirtual 167, 3) := by decide +kernel
theorem dX4_startAnew_13 : decode cX4_startAnew 13 = .ok (.iconst 1, 1) := by decide +kernel
theorem dX4_startAnew_14 : decode cX4_startAnew 14 = .ok (.isub, 1) := by decide +kernel
theorem dX4_startAnew_15 : decode cX4_startAnew 15 = .ok (.putfield 121, 3) := by decide +kernel
theorem dX4_startAnew_18 : decode cX4_startAnew 18 = .ok (.aload_n 0, 1) := by decide +kernel
theorem dX4_startAnew_19 : decode cX4_startAnew 19 = .ok (.aload_n 0, 1) := by decide +kernel
theorem dX4_startAnew_20 : decode cX4_startAnew 20 = .ok (.getfield 26, 3) := by decide +kernel
theorem dX4_startAnew_23 : decode cX4_startAnew 23 = .ok (.invokevirtual 243, 3) := by decide +kernel
theorem dX4_startAnew_26 : decode cX4_startAnew 26 = .ok (.putfield 148, 3) := by decide +kernel
theorem dX4_startAnew_29 : decode cX4_startAnew 29 = .ok (.aload_n 0, 1) := by decide +kernel
theorem dX4_startAnew_30 : decode cX4_startAnew 30 = .ok (.iconst 0, 1) := by decide +kernel
theorem dX4_startAnew_31 : decode cX4_startAnew 31 = .ok (.putfield 225, 3) := by decide +kernel
theorem dX4_startAnew_34 : decode cX4_startAnew 34 = .ok (.iconst 0, 1) := by decide +kernel
theorem dX4_startAnew_35 : decode cX4_startAnew 35 = .ok (.istore_n 1, 1) := by decide +kernel
theorem dX4_startAnew_36 : decode cX4_startAnew 36 = .ok (.iload_n 1, 1) := by decide +kernel
theorem dX4_startAnew_37 : decode cX4_startAnew 37 = .ok (.iconst 2, 1) := by decide +kernel
theorem dX4_startAnew_38 : decode cX4_startAnew 38 = .ok (.if_icmp .ge 16, 3) := by decide +kernel
theorem dX4_startAnew_41 : decode cX4_startAnew 41 = .ok (.aload_n 0, 1) := by decide +kernel
theorem dX4_startAnew_42 : decode cX4_startAnew 42 = .ok (.getfield 50, 3) := by decide +kernel
theorem dX4_startAnew_45 : decode cX4_startAnew 45 = .ok (.iload_n 1, 1) := by decide +kernel
theorem dX4_startAnew_46 : decode cX4_startAnew 46 = .ok (.iconst (-1), 1) := by decide +kernel
theorem dX4_startAnew_47 : decode cX4_startAnew 47 = .ok (.iastore, 1) := by decide +kernel
theorem dX4_startAnew_48 : decode cX4_startAnew 48 = .ok (.iinc 1 1, 3) := by decide +kernel
theorem dX4_startAnew_51 : decode cX4_startAnew 51 = .ok (.goto (-15), 3) := by decide +kernel
theorem dX4_startAnew_54 : decode cX4_startAnew 54 = .ok (.return_, 1) := by decide +kernel
theorem dX4_firstPart_0 : decode cX4_firstPart 0 = .ok (.iload_n 1, 1) := by decide +kernel
theorem dX4_firstPart_1 : decode cX4_firstPart 1 = .ok (.ifCond .ne 5, 3) := by decide +kernel
theorem dX4_firstPart_4 : decode cX4_firstPart 4 = .ok (.iload_n 3, 1) := by decide +kernel
theorem dX4_firstPart_5 : decode cX4_firstPart 5 = .ok (.ireturn, 1) := by decide +kernel
theorem dX4_firstPart_6 : decode cX4_firstPart 6 = .ok (.iload_n 1, 1) := by decide +kernel
theorem dX4_firstPart_7 : decode cX4_firstPart 7 = .ok (.iconst 1, 1) := by decide +kernel
theorem dX4_firstPart_8 : decode cX4_firstPart 8 = .ok (.if_icmp .ne 7, 3) := by decide +kernel
theorem dX4_firstPart_11 : decode cX4_firstPart 11 = .ok (.iload_n 2, 1) := by decide +kernel
theorem dX4_firstPart_12 : decode cX4_firstPart 12 = .ok (.goto 16, 3) := by decide +kernel
theorem dX4_firstPart_15 : decode cX4_firstPart 15 = .ok (.aload_n 0, 1) := by decide +kernel
theorem dX4_firstPart_16 : decode cX4_firstPart 16 = .ok (.getfield 33, 3) := by decide +kernel
theorem dX4_firstPart_19 : decode cX4_firstPart 19 = .ok (.aload_n 0, 1) := by decide +kernel
theorem dX4_firstPart_20 : decode cX4_firstPart 20 = .ok (.getfield 121, 3) := by decide +kernel
theorem dX4_firstPart_23 : decode cX4_firstPart 23 = .ok (.iload_n 2, 1) := by decide +kernel
theorem dX4_firstPart_24 : decode cX4_firstPart 24 = .ok (.iload_n 3, 1) := by decide +kernel
theorem dX4_firstPart_25 : decode cX4_firstPart 25 = .ok (.invokevirtual 246, 3) := by decide +kernel
theorem dX4_firstPart_28 : decode cX4_firstPart 28 = .ok (.ireturn, 1) := by decide +kernel
theorem dX4_holdingTraits_0 : decode cX4_holdingTraits 0 = .ok (.aload_n 0, 1) := by decide +kernel
theorem dX4_holdingTraits_1 : decode cX4_holdingTraits 1 = .ok (.getfield 37, 3) := by decide +kernel
theorem dX4_holdingTraits_4 : decode cX4_holdingTraits 4 = .ok (.aload_n 0, 1) := by decide +kernel
theorem dX4_holdingTraits_5 : decode cX4_holdingTraits 5 = .ok (.getfield 26, 3) := by decide +kernel
theorem dX4_holdingTraits_8 : decode cX4_holdingTraits 8 = .ok (.invokevirtual 91, 3) := by decide +kernel
theorem dX4_holdingTraits_11 : decode cX4_holdingTraits 11 = .ok (.aload_n 0, 1) := by decide +kernel
theorem dX4_holdingTraits_12 : decode cX4_holdingTraits 12 = .ok (.getfield 40, 3) := by decide +kernel
theorem dX4_holdingTraits_15 : decode cX4_holdingTraits 15 = .ok (.aload_n 0, 1) := by decide +kernel
theorem dX4_holdingTraits_16 : decode cX4_holdingTraits 16 = .ok (.getfield 37, 3) := by decide +kernel
theorem dX4_holdingTraits_19 : decode cX4_holdingTraits 19 = .ok (.invokevirtual 66, 3) := by decide +kernel
theorem dX4_holdingTraits_22 : decode cX4_holdingTraits 22 = .ok (.lconst 0, 1) := by decide +kernel
theorem dX4_holdingTraits_23 : decode cX4_holdingTraits 23 = .ok (.lstore 4, 2) := by decide +kernel
theorem dX4_holdingTraits_25 : decode cX4_holdingTraits 25 = .ok (.iconst 0, 1) := by decide +kernel
theorem dX4_holdingTraits_26 : decode cX4_holdingTraits 26 = .ok (.istore 6, 2) := by decide +kernel
theorem dX4_holdingTraits_28 : decode cX4_holdingTraits 28 = .ok (.iload 6, 2) := by decide +kernel
theorem dX4_holdingTraits_30 : decode cX4_holdingTraits 30 = .ok (.iload_n 3, 1) := by decide +kernel
theorem dX4_holdingTraits_31 : decode cX4_holdingTraits 31 = .ok (.if_icmp .ge 59, 3) := by decide +kernel
theorem dX4_holdingTraits_34 : decode cX4_holdingTraits 34 = .ok (.aload_n 0, 1) := by decide +kernel
theorem dX4_holdingTraits_35 : decode cX4_holdingTraits 35 = .ok (.getfield 37, 3) := by decide +kernel
theorem dX4_holdingTraits_38 : decode cX4_holdingTraits 38 = .ok (.iload_n 1, 1) := by decide +kernel
theorem dX4_holdingTraits_39 : decode cX4_holdingTraits 39 = .ok (.iload_n 2, 1) := by decide +kernel
theorem dX4_holdingTraits_40 : decode cX4_holdingTraits 40 = .ok (.iload 6, 2) := by decide +kernel
theorem dX4_holdingTraits_42 : decode cX4_holdingTraits 42 = .ok (.invokevirtual 249, 3) := by decide +kernel
theorem dX4_holdingTraits_45 : decode cX4_holdingTraits 45 = .ok (.aload_n 0, 1) := by decide +kernel
theorem dX4_holdingTraits_46 : decode cX4_holdingTraits 46 = .ok (.getfield 40, 3) := by decide +kernel
theorem dX4_holdingTraits_49 : decode cX4_holdingTraits 49 = .ok (.aload_n 0, 1) := by decide +kernel
theorem dX4_holdingTraits_50 : decode cX4_holdingTraits 50 = .ok (.getfield 37, 3) := by decide +kernel
theorem dX4_holdingTraits_53 : decode cX4_holdingTraits 53 = .ok (.iload_n 1, 1) := by decide +kernel
theorem dX4_holdingTraits_54 : decode cX4_holdingTraits 54 = .ok (.invokevirtual 253, 3) := by decide +kernel
theorem dX4_holdingTraits_57 : decode cX4_holdingTraits 57 = .ok (.aload_n 0, 1) := by decide +kernel
theorem dX4_holdingTraits_58 : decode cX4_holdingTraits 58 = .ok (.getfield 40, 3) := by decide +kernel
theorem dX4_holdingTraits_61 : decode cX4_holdingTraits 61 = .ok (.aload_n 0, 1) := by decide +kernel
theorem dX4_holdingTraits_62 : decode cX4_holdingTraits 62 = .ok (.getfield 121, 3) := by decide +kernel
theorem dX4_holdingTraits_65 : decode cX4_holdingTraits 65 = .ok (.iconst 1, 1) := by decide +kernel
theorem dX4_holdingTraits_66 : decode cX4_holdingTraits 66 = .ok (.iload_n 1, 1) := by decide +kernel
theorem dX4_holdingTraits_67 : decode cX4_holdingTraits 67 = .ok (.ishl, 1) := by decide +kernel
theorem dX4_holdingTraits_68 : decode cX4_holdingTraits 68 = .ok (.ior, 1) := by decide +kernel
theorem dX4_holdingTraits_69 : decode cX4_holdingTraits 69 = .ok (.invokevirtual 173, 3) := by decide +kernel
theorem dX4_holdingTraits_72 : decode cX4_holdingTraits 72 = .ok (.ifCond .eq 12, 3) := by decide +kernel
theorem dX4_holdingTraits_75 : decode cX4_holdingTraits 75 = .ok (.lload 4, 2) := by decide +kernel
theorem dX4_holdingTraits_77 : decode cX4_holdingTraits 77 = .ok (.lconst 1, 1) := by decide +kernel
theorem dX4_holdingTraits_78 : decode cX4_holdingTraits 78 = .ok (.iload 6, 2) := by decide +kernel
theorem dX4_holdingTraits_80 : decode cX4_holdingTraits 80 = .ok (.lshl, 1) := by decide +kernel
theorem dX4_holdingTraits_81 : decode cX4_holdingTraits 81 = .ok (.lor, 1) := by decide +kernel
theorem dX4_holdingTraits_82 : decode cX4_holdingTraits 82 = .ok (.lstore 4, 2) := by decide +kernel
theorem dX4_holdingTraits_84 : decode cX4_holdingTraits 84 = .ok (.iinc 6 1, 3) := by decide +kernel
theorem dX4_holdingTraits_87 : decode cX4_holdingTraits 87 = .ok (.goto (-59), 3) := by decide +kernel
theorem dX4_holdingTraits_90 : decode cX4_holdingTraits 90 = .ok (.lload 4, 2) := by decide +kernel
theorem dX4_holdingTraits_92 : decode cX4_holdingTraits 92 = .ok (.lreturn, 1) := by decide +kernel
theorem dX4_holdsWithHedges_0 : decode cX4_holdsWithHedges 0 = .ok (.aload_n 0, 1) := by decide +kernel
theorem dX4_holdsWithHedges_1 : decode cX4_holdsWithHedges 1 = .ok (.getfield 37, 3) := by decide +kernel
theorem dX4_holdsWithHedges_4 : decode cX4_holdsWithHedges 4 = .ok (.aload_n 0, 1) := by decide +kernel
theorem dX4_holdsWithHedges_5 : decode cX4_holdsWithHedges 5 = .ok (.getfield 26, 3) := by decide +kernel
theorem dX4_holdsWithHedges_8 : decode cX4_holdsWithHedges 8 = .ok (.getfield 190, 3) := by decide +kernel
theorem dX4_holdsWithHedges_11 : decode cX4_holdsWithHedges 11 = .ok (.lload_n 1, 1) := by decide +kernel
theorem dX4_holdsWithHedges_12 : decode cX4_holdsWithHedges 12 = .ok (.lor, 1) := by decide +kernel
theorem dX4_holdsWithHedges_13 : decode cX4_holdsWithHedges 13 = .ok (.putfield 190, 3) := by decide +kernel
theorem dX4_holdsWithHedges_16 : decode cX4_holdsWithHedges 16 = .ok (.aload_n 0, 1) := by decide +kernel
theorem dX4_holdsWithHedges_17 : decode cX4_holdsWithHedges 17 = .ok (.getfield 40, 3) := by decide +kernel
theorem dX4_holdsWithHedges_20 : decode cX4_holdsWithHedges 20 = .ok (.aload_n 0, 1) := by decide +kernel
theorem dX4_holdsWithHedges_21 : decode cX4_holdsWithHedges 21 = .ok (.getfield 37, 3) := by decide +kernel
theorem dX4_holdsWithHedges_24 : decode cX4_holdsWithHedges 24 = .ok (.invokevirtual 66, 3) := by decide +kernel
theorem dX4_holdsWithHedges_27 : decode cX4_holdsWithHedges 27 = .ok (.aload_n 0, 1) := by decide +kernel
theorem dX4_holdsWithHedges_28 : decode cX4_holdsWithHedges 28 = .ok (.getfield 40, 3) := by decide +kernel
theorem dX4_holdsWithHedges_31 : decode cX4_holdsWithHedges 31 = .ok (.aload_n 0, 1) := by decide +kernel
theorem dX4_holdsWithHedges_32 : decode cX4_holdsWithHedges 32 = .ok (.getfield 121, 3) := by decide +kernel
theorem dX4_holdsWithHedges_35 : decode cX4_holdsWithHedges 35 = .ok (.invokevirtual 173, 3) := by decide +kernel
theorem dX4_holdsWithHedges_38 : decode cX4_holdsWithHedges 38 = .ok (.ireturn, 1) := by decide +kernel
theorem dX4_areFewer_0 : decode cX4_areFewer 0 = .ok (.lload_n 2, 1) := by decide +kernel
theorem dX4_areFewer_1 : decode cX4_areFewer 1 = .ok (.invokestatic 202, 3) := by decide +kernel
theorem dX4_areFewer_4 : decode cX4_areFewer 4 = .ok (.lload_n 0, 1) := by decide +kernel
theorem dX4_areFewer_5 : decode cX4_areFewer 5 = .ok (.invokestatic 202, 3) := by decide +kernel
theorem dX4_areFewer_8 : decode cX4_areFewer 8 = .ok (.isub, 1) := by decide +kernel
theorem dX4_areFewer_9 : decode cX4_areFewer 9 = .ok (.istore 4, 2) := by decide +kernel
theorem dX4_areFewer_11 : decode cX4_areFewer 11 = .ok (.iload 4, 2) := by decide +kernel
theorem dX4_areFewer_13 : decode cX4_areFewer 13 = .ok (.ifCond .gt 14, 3) := by decide +kernel
theorem dX4_areFewer_16 : decode cX4_areFewer 16 = .ok (.iload 4, 2) := by decide +kernel
theorem dX4_areFewer_18 : decode cX4_areFewer 18 = .ok (.ifCond .ne 13, 3) := by decide +kernel
theorem dX4_areFewer_21 : decode cX4_areFewer 21 = .ok (.lload_n 0, 1) := by decide +kernel
theorem dX4_areFewer_22 : decode cX4_areFewer 22 = .ok (.lload_n 2, 1) := by decide +kernel
theorem dX4_areFewer_23 : decode cX4_areFewer 23 = .ok (.lcmp, 1) := by decide +kernel
theorem dX4_areFewer_24 : decode cX4_areFewer 24 = .ok (.ifCond .ge 7, 3) := by decide +kernel
theorem dX4_areFewer_27 : decode cX4_areFewer 27 = .ok (.iconst 1, 1) := by decide +kernel
theorem dX4_areFewer_28 : decode cX4_areFewer 28 = .ok (.goto 4, 3) := by decide +kernel
theorem dX4_areFewer_31 : decode cX4_areFewer 31 = .ok (.iconst 0, 1) := by decide +kernel
theorem dX4_areFewer_32 : decode cX4_areFewer 32 = .ok (.ireturn, 1) := by decide +kernel
theorem dX4_isAsSeen_0 : decode cX4_isAsSeen 0 = .ok (.iconst 0, 1) := by decide +kernel
theorem dX4_isAsSeen_1 : decode cX4_isAsSeen 1 = .ok (.istore_n 2, 1) := by decide +kernel
theorem dX4_isAsSeen_2 : decode cX4_isAsSeen 2 = .ok (.iload_n 2, 1) := by decide +kernel
theorem dX4_isAsSeen_3 : decode cX4_isAsSeen 3 = .ok (.aload_n 0, 1) := by decide +kernel
theorem dX4_isAsSeen_4 : decode cX4_isAsSeen 4 = .ok (.getfield 225, 3) := by decide +kernel
theorem dX4_isAsSeen_7 : decode cX4_isAsSeen 7 = .ok (.if_icmp .ge 49, 3) := by decide +kernel
theorem dX4_isAsSeen_10 : decode cX4_isAsSeen 10 = .ok (.iload_n 2, 1) := by decide +kernel
theorem dX4_isAsSeen_11 : decode cX4_isAsSeen 11 = .ok (.bipush 8, 2) := by decide +kernel
theorem dX4_isAsSeen_13 : decode cX4_isAsSeen 13 = .ok (.if_icmp .ge 43, 3) := by decide +kernel
theorem dX4_isAsSeen_16 : decode cX4_isAsSeen 16 = .ok (.aload_n 0, 1) := by decide +kernel
theorem dX4_isAsSeen_17 : decode cX4_isAsSeen 17 = .ok (.getfield 33, 3) := by decide +kernel
theorem dX4_isAsSeen_20 : decode cX4_isAsSeen 20 = .ok (.iload_n 1, 1) := by decide +kernel
theorem dX4_isAsSeen_21 : decode cX4_isAsSeen 21 = .ok (.aload_n 0, 1) := by decide +kernel
theorem dX4_isAsSeen_22 : decode cX4_isAsSeen 22 = .ok (.getfield 53, 3) := by decide +kernel
theorem dX4_isAsSeen_25 : decode cX4_isAsSeen 25 = .ok (.iload_n 2, 1) := by decide +kernel
theorem dX4_isAsSeen_26 : decode cX4_isAsSeen 26 = .ok (.iaload, 1) := by decide +kernel
theorem dX4_isAsSeen_27 : decode cX4_isAsSeen 27 = .ok (.aload_n 0, 1) := by decide +kernel
theorem dX4_isAsSeen_28 : decode cX4_isAsSeen 28 = .ok (.getfield 56, 3) := by decide +kernel
theorem dX4_isAsSeen_31 : decode cX4_isAsSeen 31 = .ok (.iload_n 2, 1) := by decide +kernel
theorem dX4_isAsSeen_32 : decode cX4_isAsSeen 32 = .ok (.iaload, 1) := by decide +kernel
theorem dX4_isAsSeen_33 : decode cX4_isAsSeen 33 = .ok (.invokevirtual 157, 3) := by decide +kernel
theorem dX4_isAsSeen_36 : decode cX4_isAsSeen 36 = .ok (.invokestatic 104, 3) := by decide +kernel
theorem dX4_isAsSeen_39 : decode cX4_isAsSeen 39 = .ok (.aload_n 0, 1) := by decide +kernel
theorem dX4_isAsSeen_40 : decode cX4_isAsSeen 40 = .ok (.getfield 59, 3) := by decide +kernel
theorem dX4_isAsSeen_43 : decode cX4_isAsSeen 43 = .ok (.iload_n 2, 1) := by decide +kernel
theorem dX4_isAsSeen_44 : decode cX4_isAsSeen 44 = .ok (.iaload, 1) := by decide +kernel
theorem dX4_isAsSeen_45 : decode cX4_isAsSeen 45 = .ok (.if_icmp .eq 5, 3) := by decide +kernel
theorem dX4_isAsSeen_48 : decode cX4_isAsSeen 48 = .ok (.iconst 0, 1) := by decide +kernel
theorem dX4_isAsSeen_49 : decode cX4_isAsSeen 49 = .ok (.ireturn, 1) := by decide +kernel
theorem dX4_isAsSeen_50 : decode cX4_isAsSeen 50 = .ok (.iinc 2 1, 3) := by decide +kernel
theorem dX4_isAsSeen_53 : decode cX4_isAsSeen 53 = .ok (.goto (-51), 3) := by decide +kernel
theorem dX4_isAsSeen_56 : decode cX4_isAsSeen 56 = .ok (.iconst 1, 1) := by decide +kernel
theorem dX4_isAsSeen_57 : decode cX4_isAsSeen 57 = .ok (.ireturn, 1) := by decide +kernel
theorem dX4_weightOf_0 : decode cX4_weightOf 0 = .ok (.iconst 1, 1) := by decide +kernel
theorem dX4_weightOf_1 : decode cX4_weightOf 1 = .ok (.istore_n 3, 1) := by decide +kernel
theorem dX4_weightOf_2 : decode cX4_weightOf 2 = .ok (.iconst 0, 1) := by decide +kernel
theorem dX4_weightOf_3 : decode cX4_weightOf 3 = .ok (.istore 4, 2) := by decide +kernel
theorem dX4_weightOf_5 : decode cX4_weightOf 5 = .ok (.iload 4, 2) := by decide +kernel
theorem dX4_weightOf_7 : decode cX4_weightOf 7 = .ok (.bipush 6, 2) := by decide +kernel
theorem dX4_weightOf_9 : decode cX4_weightOf 9 = .ok (.if_icmp .ge 41, 3) := by decide +kernel
theorem dX4_weightOf_12 : decode cX4_weightOf 12 = .ok (.iload 4, 2) := by decide +kernel
theorem dX4_weightOf_14 : decode cX4_weightOf 14 = .ok (.aload_n 0, 1) := by decide +kernel
theorem dX4_weightOf_15 : decode cX4_weightOf 15 = .ok (.getfield 121, 3) := by decide +kernel
theorem dX4_weightOf_18 : decode cX4_weightOf 18 = .ok (.invokestatic 124, 3) := by decide +kernel
theorem dX4_weightOf_21 : decode cX4_weightOf 21 = .ok (.ifCond .eq 23, 3) := by decide +kernel
theorem dX4_weightOf_24 : decode cX4_weightOf 24 = .ok (.iload_n 3, 1) := by decide +kernel
theorem dX4_weightOf_25 : decode cX4_weightOf 25 = .ok (.iload 4, 2) := by decide +kernel
theorem dX4_weightOf_27 : decode cX4_weightOf 27 = .ok (.iload_n 1, 1) := by decide +kernel
theorem dX4_weightOf_28 : decode cX4_weightOf 28 = .ok (.invokestatic 124, 3) := by decide +kernel
theorem dX4_weightOf_31 : decode cX4_weightOf 31 = .ok (.ifCond .eq 7, 3) := by decide +kernel
theorem dX4_weightOf_34 : decode cX4_weightOf 34 = .ok (.iload_n 2, 1) := by decide +kernel
theorem dX4_weightOf_35 : decode cX4_weightOf 35 = .ok (.goto 7, 3) := by decide +kernel
theorem dX4_weightOf_38 : decode cX4_weightOf 38 = .ok (.bipush 10, 2) := by decide +kernel
theorem dX4_weightOf_40 : decode cX4_weightOf 40 = .ok (.iload_n 2, 1) := by decide +kernel
theorem dX4_weightOf_41 : decode cX4_weightOf 41 = .ok (.isub, 1) := by decide +kernel
theorem dX4_weightOf_42 : decode cX4_weightOf 42 = .ok (.imul, 1) := by decide +kernel
theorem dX4_weightOf_43 : decode cX4_weightOf 43 = .ok (.istore_n 3, 1) := by decide +kernel
theorem dX4_weightOf_44 : decode cX4_weightOf 44 = .ok (.iinc 4 1, 3) := by decide +kernel
theorem dX4_weightOf_47 : decode cX4_weightOf 47 = .ok (.goto (-42), 3) := by decide +kernel
theorem dX4_weightOf_50 : decode cX4_weightOf 50 = .ok (.iload_n 3, 1) := by decide +kernel
theorem dX4_weightOf_51 : decode cX4_weightOf 51 = .ok (.ireturn, 1) := by decide +kernel
theorem dX4_greatestDivisor_0 : decode cX4_greatestDivisor 0 = .ok (.iconst 0, 1) := by decide +kernel
theorem dX4_greatestDivisor_1 : decode cX4_greatestDivisor 1 = .ok (.istore_n 2, 1) := by decide +kernel
theorem dX4_greatestDivisor_2 : decode cX4_greatestDivisor 2 = .ok (.iload_n 2, 1) := by decide +kernel
theorem dX4_greatestDivisor_3 : decode cX4_greatestDivisor 3 = .ok (.bipush 100, 2) := by decide +kernel
theorem dX4_greatestDivisor_5 : decode cX4_greatestDivisor 5 = .ok (.if_icmp .ge 21, 3) := by decide +kernel
theorem dX4_greatestDivisor_8 : decode cX4_greatestDivisor 8 = .ok (.iload_n 1, 1) := by decide +kernel
theorem dX4_greatestDivisor_9 : decode cX4_greatestDivisor 9 = .ok (.ifCond .eq 17, 3) := by decide +kernel
theorem dX4_greatestDivisor_12 : decode cX4_greatestDivisor 12 = .ok (.iload_n 0, 1) := by decide +kernel
theorem dX4_greatestDivisor_13 : decode cX4_greatestDivisor 13 = .ok (.iload_n 1, 1) := by decide +kernel
theorem dX4_greatestDivisor_14 : decode cX4_greatestDivisor 14 = .ok (.irem, 1) := by decide +kernel
theorem dX4_greatestDivisor_15 : decode cX4_greatestDivisor 15 = .ok (.istore_n 3, 1) := by decide +kernel
theorem dX4_greatestDivisor_16 : decode cX4_greatestDivisor 16 = .ok (.iload_n 1, 1) := by decide +kernel
theorem dX4_greatestDivisor_17 : decode cX4_greatestDivisor 17 = .ok (.istore_n 0, 1) := by decide +kernel
theorem dX4_greatestDivisor_18 : decode cX4_greatestDivisor 18 = .ok (.iload_n 3, 1) := by decide +kernel
theorem dX4_greatestDivisor_19 : decode cX4_greatestDivisor 19 = .ok (.istore_n 1, 1) := by decide +kernel
theorem dX4_greatestDivisor_20 : decode cX4_greatestDivisor 20 = .ok (.iinc 2 1, 3) := by decide +kernel
theorem dX4_greatestDivisor_23 : decode cX4_greatestDivisor 23 = .ok (.goto (-21), 3) := by decide +kernel
theorem dX4_greatestDivisor_26 : decode cX4_greatestDivisor 26 = .ok (.iload_n 0, 1) := by decide +kernel
theorem dX4_greatestDivisor_27 : decode cX4_greatestDivisor 27 = .ok (.ireturn, 1) := by decide +kernel
theorem dX4_hourBehind_0 : decode cX4_hourBehind 0 = .ok (.iload_n 0, 1) := by decide +kernel
theorem dX4_hourBehind_1 : decode cX4_hourBehind 1 = .ok (.iconst 1, 1) := by decide +kernel
theorem dX4_hourBehind_2 : decode cX4_hourBehind 2 = .ok (.iadd, 1) := by decide +kernel
theorem dX4_hourBehind_3 : decode cX4_hourBehind 3 = .ok (.bipush 12, 2) := by decide +kernel
theorem dX4_hourBehind_5 : decode cX4_hourBehind 5 = .ok (.if_icmp .ge 9, 3) := by decide +kernel
theorem dX4_hourBehind_8 : decode cX4_hourBehind 8 = .ok (.iload_n 0, 1) := by decide +kernel
theorem dX4_hourBehind_9 : decode cX4_hourBehind 9 = .ok (.iconst 1, 1) := by decide +kernel
theorem dX4_hourBehind_10 : decode cX4_hourBehind 10 = .ok (.iadd, 1) := by decide +kernel
theorem dX4_hourBehind_11 : decode cX4_hourBehind 11 = .ok (.goto 4, 3) := by decide +kernel
theorem dX4_hourBehind_14 : decode cX4_hourBehind 14 = .ok (.iconst 0, 1) := by decide +kernel
theorem dX4_hourBehind_15 : decode cX4_hourBehind 15 = .ok (.ireturn, 1) := by decide +kernel
theorem dX4_isHour_0 : decode cX4_isHour 0 = .ok (.iload_n 0, 1) := by decide +kernel
theorem dX4_isHour_1 : decode cX4_isHour 1 = .ok (.ifCond .lt 13, 3) := by decide +kernel
theorem dX4_isHour_4 : decode cX4_isHour 4 = .ok (.iload_n 0, 1) := by decide +kernel
theorem dX4_isHour_5 : decode cX4_isHour 5 = .ok (.bipush 12, 2) := by decide +kernel
theorem dX4_isHour_7 : decode cX4_isHour 7 = .ok (.if_icmp .ge 7, 3) := by decide +kernel
theorem dX4_isHour_10 : decode cX4_isHour 10 = .ok (.iconst 1, 1) := by decide +kernel
theorem dX4_isHour_11 : decode cX4_isHour 11 = .ok (.goto 4, 3) := by decide +kernel
theorem dX4_isHour_14 : decode cX4_isHour 14 = .ok (.iconst 0, 1) := by decide +kernel
theorem dX4_isHour_15 : decode cX4_isHour 15 = .ok (.ireturn, 1) := by decide +kernel
theorem dX4_isBit_0 : decode cX4_isBit 0 = .ok (.iload_n 0, 1) := by decide +kernel
theorem dX4_isBit_1 : decode cX4_isBit 1 = .ok (.ifCond .eq 8, 3) := by decide +kernel
theorem dX4_isBit_4 : decode cX4_isBit 4 = .ok (.iload_n 0, 1) := by decide +kernel
theorem dX4_isBit_5 : decode cX4_isBit 5 = .ok (.iconst 1, 1) := by decide +kernel
theorem dX4_isBit_6 : decode cX4_isBit 6 = .ok (.if_icmp .ne 7, 3) := by decide +kernel
theorem dX4_isBit_9 : decode cX4_isBit 9 = .ok (.iconst 1, 1) := by decide +kernel
theorem dX4_isBit_10 : decode cX4_isBit 10 = .ok (.goto 4, 3) := by decide +kernel
theorem dX4_isBit_13 : decode cX4_isBit 13 = .ok (.iconst 0, 1) := by decide +kernel
theorem dX4_isBit_14 : decode cX4_isBit 14 = .ok (.ireturn, 1) := by decide +kernel
theorem dX4_isIn_0 : decode cX4_isIn 0 = .ok (.iload_n 1, 1) := by decide +kernel
theorem dX4_isIn_1 : decode cX4_isIn 1 = .ok (.iload_n 0, 1) := by decide +kernel
theorem dX4_isIn_2 : decode cX4_isIn 2 = .ok (.ishr, 1) := by decide +kernel
theorem dX4_isIn_3 : decode cX4_isIn 3 = .ok (.iconst 1, 1) := by decide +kernel
theorem dX4_isIn_4 : decode cX4_isIn 4 = .ok (.iand, 1) := by decide +kernel
theorem dX4_isIn_5 : decode cX4_isIn 5 = .ok (.iconst 1, 1) := by decide +kernel
theorem dX4_isIn_6 : decode cX4_isIn 6 = .ok (.if_icmp .ne 7, 3) := by decide +kernel
theorem dX4_isIn_9 : decode cX4_isIn 9 = .ok (.iconst 1, 1) := by decide +kernel
theorem dX4_isIn_10 : decode cX4_isIn 10 = .ok (.goto 4, 3) := by decide +kernel
theorem dX4_isIn_13 : decode cX4_isIn 13 = .ok (.iconst 0, 1) := by decide +kernel
theorem dX4_isIn_14 : decode cX4_isIn 14 = .ok (.ireturn, 1) := by decide +kernel
theorem dX4_bitOf_0 : decode cX4_bitOf 0 = .ok (.iload_n 0, 1) := by decide +kernel
theorem dX4_bitOf_1 : decode cX4_bitOf 1 = .ok (.ifCond .eq 7, 3) := by decide +kernel
theorem dX4_bitOf_4 : decode cX4_bitOf 4 = .ok (.iconst 1, 1) := by decide +kernel
theorem dX4_bitOf_5 : decode cX4_bitOf 5 = .ok (.goto 4, 3) := by decide +kernel
theorem dX4_bitOf_8 : decode cX4_bitOf 8 = .ok (.iconst 0, 1) := by decide +kernel
theorem dX4_bitOf_9 : decode cX4_bitOf 9 = .ok (.ireturn, 1) := by decide +kernel
theorem dJ13_bitCount_95d88_0 : decode cJ13_bitCount_95d88 0 = .ok (.lload_n 0, 1) := by decide +kernel
theorem dJ13_bitCount_95d88_1 : decode cJ13_bitCount_95d88 1 = .ok (.lload_n 0, 1) := by decide +kernel
theorem dJ13_bitCount_95d88_2 : decode cJ13_bitCount_95d88 2 = .ok (.iconst 1, 1) := by decide +kernel
theorem dJ13_bitCount_95d88_3 : decode cJ13_bitCount_95d88 3 = .ok (.lushr, 1) := by decide +kernel
theorem dJ13_bitCount_95d88_4 : decode cJ13_bitCount_95d88 4 = .ok (.ldc2_w 314, 3) := by decide +kernel
theorem dJ13_bitCount_95d88_7 : decode cJ13_bitCount_95d88 7 = .ok (.land, 1) := by decide +kernel
theorem dJ13_bitCount_95d88_8 : decode cJ13_bitCount_95d88 8 = .ok (.lsub, 1) := by decide +kernel
theorem dJ13_bitCount_95d88_9 : decode cJ13_bitCount_95d88 9 = .ok (.lstore_n 0, 1) := by decide +kernel
theorem dJ13_bitCount_95d88_10 : decode cJ13_bitCount_95d88 10 = .ok (.lload_n 0, 1) := by decide +kernel
theorem dJ13_bitCount_95d88_11 : decode cJ13_bitCount_95d88 11 = .ok (.ldc2_w 316, 3) := by decide +kernel
theorem dJ13_bitCount_95d88_14 : decode cJ13_bitCount_95d88 14 = .ok (.land, 1) := by decide +kernel
theorem dJ13_bitCount_95d88_15 : decode cJ13_bitCount_95d88 15 = .ok (.lload_n 0, 1) := by decide +kernel
theorem dJ13_bitCount_95d88_16 : decode cJ13_bitCount_95d88 16 = .ok (.iconst 2, 1) := by decide +kernel
theorem dJ13_bitCount_95d88_17 : decode cJ13_bitCount_95d88 17 = .ok (.lushr, 1) := by decide +kernel
theorem dJ13_bitCount_95d88_18 : decode cJ13_bitCount_95d88 18 = .ok (.ldc2_w 316, 3) := by decide +kernel
theorem dJ13_bitCount_95d88_21 : decode cJ13_bitCount_95d88 21 = .ok (.land, 1) := by decide +kernel
theorem dJ13_bitCount_95d88_22 : decode cJ13_bitCount_95d88 22 = .ok (.ladd, 1) := by decide +kernel
theorem dJ13_bitCount_95d88_23 : decode cJ13_bitCount_95d88 23 = .ok (.lstore_n 0, 1) := by decide +kernel
theorem dJ13_bitCount_95d88_24 : decode cJ13_bitCount_95d88 24 = .ok (.lload_n 0, 1) := by decide +kernel
theorem dJ13_bitCount_95d88_25 : decode cJ13_bitCount_95d88 25 = .ok (.lload_n 0, 1) := by decide +kernel
theorem dJ13_bitCount_95d88_26 : decode cJ13_bitCount_95d88 26 = .ok (.iconst 4, 1) := by decide +kernel
theorem dJ13_bitCount_95d88_27 : decode cJ13_bitCount_95d88 27 = .ok (.lushr, 1) := by decide +kernel
theorem dJ13_bitCount_95d88_28 : decode cJ13_bitCount_95d88 28 = .ok (.ladd, 1) := by decide +kernel
theorem dJ13_bitCount_95d88_29 : decode cJ13_bitCount_95d88 29 = .ok (.ldc2_w 318, 3) := by decide +kernel
theorem dJ13_bitCount_95d88_32 : decode cJ13_bitCount_95d88 32 = .ok (.land, 1) := by decide +kernel
theorem dJ13_bitCount_95d88_33 : decode cJ13_bitCount_95d88 33 = .ok (.lstore_n 0, 1) := by decide +kernel
theorem dJ13_bitCount_95d88_34 : decode cJ13_bitCount_95d88 34 = .ok (.lload_n 0, 1) := by decide +kernel
theorem dJ13_bitCount_95d88_35 : decode cJ13_bitCount_95d88 35 = .ok (.lload_n 0, 1) := by decide +kernel
theorem dJ13_bitCount_95d88_36 : decode cJ13_bitCount_95d88 36 = .ok (.bipush 8, 2) := by decide +kernel
theorem dJ13_bitCount_95d88_38 : decode cJ13_bitCount_95d88 38 = .ok (.lushr, 1) := by decide +kernel
theorem dJ13_bitCount_95d88_39 : decode cJ13_bitCount_95d88 39 = .ok (.ladd, 1) := by decide +kernel
theorem dJ13_bitCount_95d88_40 : decode cJ13_bitCount_95d88 40 = .ok (.lstore_n 0, 1) := by decide +kernel
theorem dJ13_bitCount_95d88_41 : decode cJ13_bitCount_95d88 41 = .ok (.lload_n 0, 1) := by decide +kernel
theorem dJ13_bitCount_95d88_42 : decode cJ13_bitCount_95d88 42 = .ok (.lload_n 0, 1) := by decide +kernel
theorem dJ13_bitCount_95d88_43 : decode cJ13_bitCount_95d88 43 = .ok (.bipush 16, 2) := by decide +kernel
theorem dJ13_bitCount_95d88_45 : decode cJ13_bitCount_95d88 45 = .ok (.lushr, 1) := by decide +kernel
theorem dJ13_bitCount_95d88_46 : decode cJ13_bitCount_95d88 46 = .ok (.ladd, 1) := by decide +kernel
theorem dJ13_bitCount_95d88_47 : decode cJ13_bitCount_95d88 47 = .ok (.lstore_n 0, 1) := by decide +kernel
theorem dJ13_bitCount_95d88_48 : decode cJ13_bitCount_95d88 48 = .ok (.lload_n 0, 1) := by decide +kernel
theorem dJ13_bitCount_95d88_49 : decode cJ13_bitCount_95d88 49 = .ok (.lload_n 0, 1) := by decide +kernel
theorem dJ13_bitCount_95d88_50 : decode cJ13_bitCount_95d88 50 = .ok (.bipush 32, 2) := by decide +kernel
theorem dJ13_bitCount_95d88_52 : decode cJ13_bitCount_95d88 52 = .ok (.lushr, 1) := by decide +kernel
theorem dJ13_bitCount_95d88_53 : decode cJ13_bitCount_95d88 53 = .ok (.ladd, 1) := by decide +kernel
theorem dJ13_bitCount_95d88_54 : decode cJ13_bitCount_95d88 54 = .ok (.lstore_n 0, 1) := by decide +kernel
theorem dJ13_bitCount_95d88_55 : decode cJ13_bitCount_95d88 55 = .ok (.lload_n 0, 1) := by decide +kernel
theorem dJ13_bitCount_95d88_56 : decode cJ13_bitCount_95d88 56 = .ok (.l2i, 1) := by decide +kernel
theorem dJ13_bitCount_95d88_57 : decode cJ13_bitCount_95d88 57 = .ok (.bipush 127, 2) := by decide +kernel
theorem dJ13_bitCount_95d88_59 : decode cJ13_bitCount_95d88 59 = .ok (.iand, 1) := by decide +kernel
theorem dJ13_bitCount_95d88_60 : decode cJ13_bitCount_95d88 60 = .ok (.ireturn, 1) := by decide +kernel
theorem dJ9_abs_0f7a4_0 : decode cJ9_abs_0f7a4 0 = .ok (.iload_n 0, 1) := by decide +kernel
theorem dJ9_abs_0f7a4_1 : decode cJ9_abs_0f7a4 1 = .ok (.ifCond .ge 8, 3) := by decide +kernel
theorem dJ9_abs_0f7a4_4 : decode cJ9_abs_0f7a4 4 = .ok (.iload_n 0, 1) := by decide +kernel
theorem dJ9_abs_0f7a4_5 : decode cJ9_abs_0f7a4 5 = .ok (.ineg, 1) := by decide +kernel
theorem dJ9_abs_0f7a4_6 : decode cJ9_abs_0f7a4 6 = .ok (.goto 4, 3) := by decide +kernel
theorem dJ9_abs_0f7a4_9 : decode cJ9_abs_0f7a4 9 = .ok (.iload_n 0, 1) := by decide +kernel
theorem dJ9_abs_0f7a4_10 : decode cJ9_abs_0f7a4 10 = .ok (.ireturn, 1) := by decide +kernel
theorem dJ9_max_7cf53_0 : decode cJ9_max_7cf53 0 = .ok (.iload_n 0, 1) := by decide +kernel
theorem dJ9_max_7cf53_1 : decode cJ9_max_7cf53 1 = .ok (.iload_n 1, 1) := by decide +kernel
theorem dJ9_max_7cf53_2 : decode cJ9_max_7cf53 2 = .ok (.if_icmp .lt 7, 3) := by decide +kernel
theorem dJ9_max_7cf53_5 : decode cJ9_max_7cf53 5 = .ok (.iload_n 0, 1) := by decide +kernel
theorem dJ9_max_7cf53_6 : decode cJ9_max_7cf53 6 = .ok (.goto 4, 3) := by decide +kernel
theorem dJ9_max_7cf53_9 : decode cJ9_max_7cf53 9 = .ok (.iload_n 1, 1) := by decide +kernel
theorem dJ9_max_7cf53_10 : decode cJ9_max_7cf53 10 = .ok (.ireturn, 1) := by decide +kernel
theorem dJ9_min_7cf53_0 : decode cJ9_min_7cf53 0 = .ok (.iload_n 0, 1) := by decide +kernel
theorem dJ9_min_7cf53_1 : decode cJ9_min_7cf53 1 = .ok (.iload_n 1, 1) := by decide +kernel
theorem dJ9_min_7cf53_2 : decode cJ9_min_7cf53 2 = .ok (.if_icmp .gt 7, 3) := by decide +kernel
theorem dJ9_min_7cf53_5 : decode cJ9_min_7cf53 5 = .ok (.iload_n 0, 1) := by decide +kernel
theorem dJ9_min_7cf53_6 : decode cJ9_min_7cf53 6 = .ok (.goto 4, 3) := by decide +kernel
theorem dJ9_min_7cf53_9 : decode cJ9_min_7cf53 9 = .ok (.iload_n 1, 1) := by decide +kernel
theorem dJ9_min_7cf53_10 : decode cJ9_min_7cf53 10 = .ok (.ireturn, 1) := by decide +kernel
theorem dJ0_length_8abf5_0 : decode cJ0_length_8abf5 0 = .ok (.aload_n 0, 1) := by decide +kernel
theorem dJ0_length_8abf5_1 : decode cJ0_length_8abf5 1 = .ok (.getfield 9, 3) := by decide +kernel
theorem dJ0_length_8abf5_4 : decode cJ0_length_8abf5 4 = .ok (.arraylength, 1) := by decide +kernel
theorem dJ0_length_8abf5_5 : decode cJ0_length_8abf5 5 = .ok (.aload_n 0, 1) := by decide +kernel
theorem dJ0_length_8abf5_6 : decode cJ0_length_8abf5 6 = .ok (.invokevirtual 335, 3) := by decide +kernel
theorem dJ0_length_8abf5_9 : decode cJ0_length_8abf5 9 = .ok (.ishr, 1) := by decide +kernel
theorem dJ0_length_8abf5_10 : decode cJ0_length_8abf5 10 = .ok (.ireturn, 1) := by decide +kernel
theorem dJ0_charAt_5068e_0 : decode cJ0_charAt_5068e 0 = .ok (.aload_n 0, 1) := by decide +kernel
theorem dJ0_charAt_5068e_1 : decode cJ0_charAt_5068e 1 = .ok (.invokevirtual 492, 3) := by decide +kernel
theorem dJ0_charAt_5068e_4 : decode cJ0_charAt_5068e 4 = .ok (.ifCond .eq 12, 3) := by decide +kernel
theorem dJ0_charAt_5068e_7 : decode cJ0_charAt_5068e 7 = .ok (.aload_n 0, 1) := by decide +kernel
theorem dJ0_charAt_5068e_8 : decode cJ0_charAt_5068e 8 = .ok (.getfield 9, 3) := by decide +kernel
theorem dJ0_charAt_5068e_11 : decode cJ0_charAt_5068e 11 = .ok (.iload_n 1, 1) := by decide +kernel
theorem dJ0_charAt_5068e_12 : decode cJ0_charAt_5068e 12 = .ok (.invokestatic 495, 3) := by decide +kernel
theorem dJ0_charAt_5068e_15 : decode cJ0_charAt_5068e 15 = .ok (.ireturn, 1) := by decide +kernel
theorem dJ0_charAt_5068e_16 : decode cJ0_charAt_5068e 16 = .ok (.aload_n 0, 1) := by decide +kernel
theorem dJ0_charAt_5068e_17 : decode cJ0_charAt_5068e 17 = .ok (.getfield 9, 3) := by decide +kernel
theorem dJ0_charAt_5068e_20 : decode cJ0_charAt_5068e 20 = .ok (.iload_n 1, 1) := by decide +kernel
theorem dJ0_charAt_5068e_21 : decode cJ0_charAt_5068e 21 = .ok (.invokestatic 498, 3) := by decide +kernel
theorem dJ0_charAt_5068e_24 : decode cJ0_charAt_5068e 24 = .ok (.ireturn, 1) := by decide +kernel
theorem dJ0_coder_7d493_0 : decode cJ0_coder_7d493 0 = .ok (.getstatic 38, 3) := by decide +kernel
theorem dJ0_coder_7d493_3 : decode cJ0_coder_7d493 3 = .ok (.ifCond .eq 10, 3) := by decide +kernel
theorem dJ0_coder_7d493_6 : decode cJ0_coder_7d493 6 = .ok (.aload_n 0, 1) := by decide +kernel
theorem dJ0_coder_7d493_7 : decode cJ0_coder_7d493 7 = .ok (.getfield 15, 3) := by decide +kernel
theorem dJ0_coder_7d493_10 : decode cJ0_coder_7d493 10 = .ok (.goto 4, 3) := by decide +kernel
theorem dJ0_coder_7d493_13 : decode cJ0_coder_7d493 13 = .ok (.iconst 1, 1) := by decide +kernel
theorem dJ0_coder_7d493_14 : decode cJ0_coder_7d493 14 = .ok (.ireturn, 1) := by decide +kernel
theorem dJ0_isLatin1_aae02_0 : decode cJ0_isLatin1_aae02 0 = .ok (.getstatic 38, 3) := by decide +kernel
theorem dJ0_isLatin1_aae02_3 : decode cJ0_isLatin1_aae02 3 = .ok (.ifCond .eq 14, 3) := by decide +kernel
theorem dJ0_isLatin1_aae02_6 : decode cJ0_isLatin1_aae02 6 = .ok (.aload_n 0, 1) := by decide +kernel
theorem dJ0_isLatin1_aae02_7 : decode cJ0_isLatin1_aae02 7 = .ok (.getfield 15, 3) := by decide +kernel
theorem dJ0_isLatin1_aae02_10 : decode cJ0_isLatin1_aae02 10 = .ok (.ifCond .ne 7, 3) := by decide +kernel
theorem dJ0_isLatin1_aae02_13 : decode cJ0_isLatin1_aae02 13 = .ok (.iconst 1, 1) := by decide +kernel
theorem dJ0_isLatin1_aae02_14 : decode cJ0_isLatin1_aae02 14 = .ok (.goto 4, 3) := by decide +kernel
theorem dJ0_isLatin1_aae02_17 : decode cJ0_isLatin1_aae02 17 = .ok (.iconst 0, 1) := by decide +kernel
theorem dJ0_isLatin1_aae02_18 : decode cJ0_isLatin1_aae02 18 = .ok (.ireturn, 1) := by decide +kernel
theorem dJ0_checkIndex_df160_0 : decode cJ0_checkIndex_df160 0 = .ok (.iload_n 0, 1) := by decide +kernel
theorem dJ0_checkIndex_df160_1 : decode cJ0_checkIndex_df160 1 = .ok (.iload_n 1, 1) := by decide +kernel
theorem dJ0_checkIndex_df160_2 : decode cJ0_checkIndex_df160 2 = .ok (.getstatic 1053, 3) := by decide +kernel
theorem dJ0_checkIndex_df160_5 : decode cJ0_checkIndex_df160 5 = .ok (.invokestatic 1059, 3) := by decide +kernel
theorem dJ0_checkIndex_df160_8 : decode cJ0_checkIndex_df160 8 = .ok (.pop, 1) := by decide +kernel
theorem dJ0_checkIndex_df160_9 : decode cJ0_checkIndex_df160 9 = .ok (.return_, 1) := by decide +kernel
theorem dJ1_charAt_3b067_0 : decode cJ1_charAt_3b067 0 = .ok (.iload_n 1, 1) := by decide +kernel
theorem dJ1_charAt_3b067_1 : decode cJ1_charAt_3b067 1 = .ok (.aload_n 0, 1) := by decide +kernel
theorem dJ1_charAt_3b067_2 : decode cJ1_charAt_3b067 2 = .ok (.arraylength, 1) := by decide +kernel
theorem dJ1_charAt_3b067_3 : decode cJ1_charAt_3b067 3 = .ok (.invokestatic 9, 3) := by decide +kernel
theorem dJ1_charAt_3b067_6 : decode cJ1_charAt_3b067 6 = .ok (.aload_n 0, 1) := by decide +kernel
theorem dJ1_charAt_3b067_7 : decode cJ1_charAt_3b067 7 = .ok (.iload_n 1, 1) := by decide +kernel
theorem dJ1_charAt_3b067_8 : decode cJ1_charAt_3b067 8 = .ok (.baload, 1) := by decide +kernel
theorem dJ1_charAt_3b067_9 : decode cJ1_charAt_3b067 9 = .ok (.sipush 255, 3) := by decide +kernel
theorem dJ1_charAt_3b067_12 : decode cJ1_charAt_3b067 12 = .ok (.iand, 1) := by decide +kernel
theorem dJ1_charAt_3b067_13 : decode cJ1_charAt_3b067 13 = .ok (.i2c, 1) := by decide +kernel
theorem dJ1_charAt_3b067_14 : decode cJ1_charAt_3b067 14 = .ok (.ireturn, 1) := by decide +kernel
theorem dJ2_getChar_3b067_0 : decode cJ2_getChar_3b067 0 = .ok (.getstatic 44, 3) := by decide +kernel
theorem dJ2_getChar_3b067_3 : decode cJ2_getChar_3b067 3 = .ok (.ifCond .ne 25, 3) := by decide +kernel
theorem dJ2_getChar_3b067_6 : decode cJ2_getChar_3b067 6 = .ok (.iload_n 1, 1) := by decide +kernel
theorem dJ2_getChar_3b067_7 : decode cJ2_getChar_3b067 7 = .ok (.ifCond .lt 11, 3) := by decide +kernel
theorem dJ2_getChar_3b067_10 : decode cJ2_getChar_3b067 10 = .ok (.iload_n 1, 1) := by decide +kernel
theorem dJ2_getChar_3b067_11 : decode cJ2_getChar_3b067 11 = .ok (.aload_n 0, 1) := by decide +kernel
theorem dJ2_getChar_3b067_12 : decode cJ2_getChar_3b067 12 = .ok (.invokestatic 48, 3) := by decide +kernel
theorem dJ2_getChar_3b067_15 : decode cJ2_getChar_3b067 15 = .ok (.if_icmp .lt 13, 3) := by decide +kernel
theorem dJ2_getChar_3b067_18 : decode cJ2_getChar_3b067 18 = .ok (.new 52, 3) := by decide +kernel
theorem dJ2_getChar_3b067_21 : decode cJ2_getChar_3b067 21 = .ok (.dup, 1) := by decide +kernel
theorem dJ2_getChar_3b067_22 : decode cJ2_getChar_3b067 22 = .ok (.ldc 54, 2) := by decide +kernel
theorem dJ2_getChar_3b067_24 : decode cJ2_getChar_3b067 24 = .ok (.invokespecial 56, 3) := by decide +kernel
theorem dJ2_getChar_3b067_27 : decode cJ2_getChar_3b067 27 = .ok (.athrow, 1) := by decide +kernel
theorem dJ2_getChar_3b067_28 : decode cJ2_getChar_3b067 28 = .ok (.iload_n 1, 1) := by decide +kernel
theorem dJ2_getChar_3b067_29 : decode cJ2_getChar_3b067 29 = .ok (.iconst 1, 1) := by decide +kernel
theorem dJ2_getChar_3b067_30 : decode cJ2_getChar_3b067 30 = .ok (.ishl, 1) := by decide +kernel
theorem dJ2_getChar_3b067_31 : decode cJ2_getChar_3b067 31 = .ok (.istore_n 1, 1) := by decide +kernel
theorem dJ2_getChar_3b067_32 : decode cJ2_getChar_3b067 32 = .ok (.aload_n 0, 1) := by decide +kernel
theorem dJ2_getChar_3b067_33 : decode cJ2_getChar_3b067 33 = .ok (.iload_n 1, 1) := by decide +kernel
theorem dJ2_getChar_3b067_34 : decode cJ2_getChar_3b067 34 = .ok (.iinc 1 1, 3) := by decide +kernel
theorem dJ2_getChar_3b067_37 : decode cJ2_getChar_3b067 37 = .ok (.baload, 1) := by decide +kernel
theorem dJ2_getChar_3b067_38 : decode cJ2_getChar_3b067 38 = .ok (.sipush 255, 3) := by decide +kernel
theorem dJ2_getChar_3b067_41 : decode cJ2_getChar_3b067 41 = .ok (.iand, 1) := by decide +kernel
theorem dJ2_getChar_3b067_42 : decode cJ2_getChar_3b067 42 = .ok (.getstatic 59, 3) := by decide +kernel
theorem dJ2_getChar_3b067_45 : decode cJ2_getChar_3b067 45 = .ok (.ishl, 1) := by decide +kernel
theorem dJ2_getChar_3b067_46 : decode cJ2_getChar_3b067 46 = .ok (.aload_n 0, 1) := by decide +kernel
theorem dJ2_getChar_3b067_47 : decode cJ2_getChar_3b067 47 = .ok (.iload_n 1, 1) := by decide +kernel
theorem dJ2_getChar_3b067_48 : decode cJ2_getChar_3b067 48 = .ok (.baload, 1) := by decide +kernel
theorem dJ2_getChar_3b067_49 : decode cJ2_getChar_3b067 49 = .ok (.sipush 255, 3) := by decide +kernel
theorem dJ2_getChar_3b067_52 : decode cJ2_getChar_3b067 52 = .ok (.iand, 1) := by decide +kernel
theorem dJ2_getChar_3b067_53 : decode cJ2_getChar_3b067 53 = .ok (.getstatic 63, 3) := by decide +kernel
theorem dJ2_getChar_3b067_56 : decode cJ2_getChar_3b067 56 = .ok (.ishl, 1) := by decide +kernel
theorem dJ2_getChar_3b067_57 : decode cJ2_getChar_3b067 57 = .ok (.ior, 1) := by decide +kernel
theorem dJ2_getChar_3b067_58 : decode cJ2_getChar_3b067 58 = .ok (.i2c, 1) := by decide +kernel
theorem dJ2_getChar_3b067_59 : decode cJ2_getChar_3b067 59 = .ok (.ireturn, 1) := by decide +kernel
theorem dJ2_length_9d52b_0 : decode cJ2_length_9d52b 0 = .ok (.aload_n 0, 1) := by decide +kernel
theorem dJ2_length_9d52b_1 : decode cJ2_length_9d52b 1 = .ok (.arraylength, 1) := by decide +kernel
theorem dJ2_length_9d52b_2 : decode cJ2_length_9d52b 2 = .ok (.iconst 1, 1) := by decide +kernel
theorem dJ2_length_9d52b_3 : decode cJ2_length_9d52b 3 = .ok (.ishr, 1) := by decide +kernel
theorem dJ2_length_9d52b_4 : decode cJ2_length_9d52b 4 = .ok (.ireturn, 1) := by decide +kernel
theorem dJ2_charAt_3b067_0 : decode cJ2_charAt_3b067 0 = .ok (.iload_n 1, 1) := by decide +kernel
theorem dJ2_charAt_3b067_1 : decode cJ2_charAt_3b067 1 = .ok (.aload_n 0, 1) := by decide +kernel
theorem dJ2_charAt_3b067_2 : decode cJ2_charAt_3b067 2 = .ok (.invokestatic 67, 3) := by decide +kernel
theorem dJ2_charAt_3b067_5 : decode cJ2_charAt_3b067 5 = .ok (.aload_n 0, 1) := by decide +kernel
theorem dJ2_charAt_3b067_6 : decode cJ2_charAt_3b067 6 = .ok (.iload_n 1, 1) := by decide +kernel
theorem dJ2_charAt_3b067_7 : decode cJ2_charAt_3b067 7 = .ok (.invokestatic 71, 3) := by decide +kernel
theorem dJ2_charAt_3b067_10 : decode cJ2_charAt_3b067 10 = .ok (.ireturn, 1) := by decide +kernel
theorem dJ2_checkIndex_2214a_0 : decode cJ2_checkIndex_2214a 0 = .ok (.iload_n 0, 1) := by decide +kernel
theorem dJ2_checkIndex_2214a_1 : decode cJ2_checkIndex_2214a 1 = .ok (.aload_n 1, 1) := by decide +kernel
theorem dJ2_checkIndex_2214a_2 : decode cJ2_checkIndex_2214a 2 = .ok (.invokestatic 48, 3) := by decide +kernel
theorem dJ2_checkIndex_2214a_5 : decode cJ2_checkIndex_2214a 5 = .ok (.invokestatic 414, 3) := by decide +kernel
theorem dJ2_checkIndex_2214a_8 : decode cJ2_checkIndex_2214a 8 = .ok (.return_, 1) := by decide +kernel
theorem dJ3_checkIndex_8e157_0 : decode cJ3_checkIndex_8e157 0 = .ok (.iload_n 0, 1) := by decide +kernel
theorem dJ3_checkIndex_8e157_1 : decode cJ3_checkIndex_8e157 1 = .ok (.ifCond .lt 8, 3) := by decide +kernel
theorem dJ3_checkIndex_8e157_4 : decode cJ3_checkIndex_8e157 4 = .ok (.iload_n 0, 1) := by decide +kernel
theorem dJ3_checkIndex_8e157_5 : decode cJ3_checkIndex_8e157 5 = .ok (.iload_n 1, 1) := by decide +kernel
theorem dJ3_checkIndex_8e157_6 : decode cJ3_checkIndex_8e157 6 = .ok (.if_icmp .lt 10, 3) := by decide +kernel
theorem dJ3_checkIndex_8e157_9 : decode cJ3_checkIndex_8e157 9 = .ok (.aload_n 2, 1) := by decide +kernel
theorem dJ3_checkIndex_8e157_10 : decode cJ3_checkIndex_8e157 10 = .ok (.iload_n 0, 1) := by decide +kernel
theorem dJ3_checkIndex_8e157_11 : decode cJ3_checkIndex_8e157 11 = .ok (.iload_n 1, 1) := by decide +kernel
theorem dJ3_checkIndex_8e157_12 : decode cJ3_checkIndex_8e157 12 = .ok (.invokestatic 95, 3) := by decide +kernel
theorem dJ3_checkIndex_8e157_15 : decode cJ3_checkIndex_8e157 15 = .ok (.athrow, 1) := by decide +kernel
theorem dJ3_checkIndex_8e157_16 : decode cJ3_checkIndex_8e157 16 = .ok (.iload_n 0, 1) := by decide +kernel
theorem dJ3_checkIndex_8e157_17 : decode cJ3_checkIndex_8e157 17 = .ok (.ireturn, 1) := by decide +kernel
