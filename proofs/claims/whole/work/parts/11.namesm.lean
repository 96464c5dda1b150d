theorem dX4_init_0 : decode cX4_init 0 = .ok (.aload_n 0, 1) := by decide +kernel
theorem dX4_init_1 : decode cX4_init 1 = .ok (.invokespecial 1, 3) := by decide +kernel
theorem dX4_init_4 : decode cX4_init 4 = .ok (.aload_n 0, 1) := by decide +kernel
theorem dX4_init_5 : decode cX4_init 5 = .ok (.sipush 768, 3) := by decide +kernel
theorem dX4_init_8 : decode cX4_init 8 = .ok (.newarray .int, 2) := by decide +kernel
theorem dX4_init_10 : decode cX4_init 10 = .ok (.putfield 7, 3) := by decide +kernel
theorem dX4_init_13 : decode cX4_init 13 = .ok (.aload_n 0, 1) := by decide +kernel
theorem dX4_init_14 : decode cX4_init 14 = .ok (.bipush 16, 2) := by decide +kernel
theorem dX4_init_16 : decode cX4_init 16 = .ok (.newarray .int, 2) := by decide +kernel
theorem dX4_init_18 : decode cX4_init 18 = .ok (.putfield 13, 3) := by decide +kernel
theorem dX4_init_21 : decode cX4_init 21 = .ok (.aload_n 0, 1) := by decide +kernel
theorem dX4_init_22 : decode cX4_init 22 = .ok (.bipush 16, 2) := by decide +kernel
theorem dX4_init_24 : decode cX4_init 24 = .ok (.newarray .int, 2) := by decide +kernel
theorem dX4_init_26 : decode cX4_init 26 = .ok (.putfield 16, 3) := by decide +kernel
theorem dX4_init_29 : decode cX4_init 29 = .ok (.aload_n 0, 1) := by decide +kernel
theorem dX4_init_30 : decode cX4_init 30 = .ok (.bipush 16, 2) := by decide +kernel
theorem dX4_init_32 : decode cX4_init 32 = .ok (.newarray .int, 2) := by decide +kernel
theorem dX4_init_34 : decode cX4_init 34 = .ok (.putfield 19, 3) := by decide +kernel
theorem dX4_init_37 : decode cX4_init 37 = .ok (.aload_n 0, 1) := by decide +kernel
theorem dX4_init_38 : decode cX4_init 38 = .ok (.bipush 16, 2) := by decide +kernel
theorem dX4_init_40 : decode cX4_init 40 = .ok (.newarray .boolean, 2) := by decide +kernel
theorem dX4_init_42 : decode cX4_init 42 = .ok (.putfield 22, 3) := by decide +kernel
theorem dX4_init_45 : decode cX4_init 45 = .ok (.aload_n 0, 1) := by decide +kernel
theorem dX4_init_46 : decode cX4_init 46 = .ok (.sipush 256, 3) := by decide +kernel
theorem dX4_init_49 : decode cX4_init 49 = .ok (.newarray .int, 2) := by decide +kernel
theorem dX4_init_51 : decode cX4_init 51 = .ok (.putfield 26, 3) := by decide +kernel
theorem dX4_init_54 : decode cX4_init 54 = .ok (.aload_n 0, 1) := by decide +kernel
theorem dX4_init_55 : decode cX4_init 55 = .ok (.bipush 100, 2) := by decide +kernel
theorem dX4_init_57 : decode cX4_init 57 = .ok (.newarray .int, 2) := by decide +kernel
theorem dX4_init_59 : decode cX4_init 59 = .ok (.putfield 29, 3) := by decide +kernel
theorem dX4_init_62 : decode cX4_init 62 = .ok (.aload_n 0, 1) := by decide +kernel
theorem dX4_init_63 : decode cX4_init 63 = .ok (.sipush 1600, 3) := by decide +kernel
theorem dX4_init_66 : decode cX4_init 66 = .ok (.newarray .int, 2) := by decide +kernel
theorem dX4_init_68 : decode cX4_init 68 = .ok (.putfield 32, 3) := by decide +kernel
theorem dX4_init_71 : decode cX4_init 71 = .ok (.aload_n 0, 1) := by decide +kernel
theorem dX4_init_72 : decode cX4_init 72 = .ok (.invokevirtual 35, 3) := by decide +kernel
theorem dX4_init_75 : decode cX4_init 75 = .ok (.return_, 1) := by decide +kernel
abbrev zm_X4_init : zg_M := (RX4, cX4_init, 1, none, [])
theorem dX4_thrown_0 : decode cX4_thrown 0 = .ok (.aload_n 0, 1) := by decide +kernel
theorem dX4_thrown_1 : decode cX4_thrown 1 = .ok (.getfield 38, 3) := by decide +kernel
theorem dX4_thrown_4 : decode cX4_thrown 4 = .ok (.ireturn, 1) := by decide +kernel
abbrev zm_X4_thrown : zg_M := (RX4, cX4_thrown, 1, (some .int), [])
theorem dX4_fails_0 : decode cX4_fails 0 = .ok (.aload_n 0, 1) := by decide +kernel
theorem dX4_fails_1 : decode cX4_fails 1 = .ok (.iload_n 1, 1) := by decide +kernel
theorem dX4_fails_2 : decode cX4_fails 2 = .ok (.ifCond .eq 7, 3) := by decide +kernel
theorem dX4_fails_5 : decode cX4_fails 5 = .ok (.iload_n 2, 1) := by decide +kernel
theorem dX4_fails_6 : decode cX4_fails 6 = .ok (.goto 4, 3) := by decide +kernel
theorem dX4_fails_9 : decode cX4_fails 9 = .ok (.iconst 0, 1) := by decide +kernel
theorem dX4_fails_10 : decode cX4_fails 10 = .ok (.putfield 38, 3) := by decide +kernel
theorem dX4_fails_13 : decode cX4_fails 13 = .ok (.iload_n 1, 1) := by decide +kernel
theorem dX4_fails_14 : decode cX4_fails 14 = .ok (.ireturn, 1) := by decide +kernel
abbrev zm_X4_fails : zg_M := (RX4, cX4_fails, 3, (some .boolean), [])
theorem dX4_within_0 : decode cX4_within 0 = .ok (.iload_n 0, 1) := by decide +kernel
theorem dX4_within_1 : decode cX4_within 1 = .ok (.iload_n 1, 1) := by decide +kernel
theorem dX4_within_2 : decode cX4_within 2 = .ok (.if_icmp .lt 12, 3) := by decide +kernel
theorem dX4_within_5 : decode cX4_within 5 = .ok (.iload_n 0, 1) := by decide +kernel
theorem dX4_within_6 : decode cX4_within 6 = .ok (.iload_n 2, 1) := by decide +kernel
theorem dX4_within_7 : decode cX4_within 7 = .ok (.if_icmp .gt 7, 3) := by decide +kernel
theorem dX4_within_10 : decode cX4_within 10 = .ok (.iconst 1, 1) := by decide +kernel
theorem dX4_within_11 : decode cX4_within 11 = .ok (.goto 4, 3) := by decide +kernel
theorem dX4_within_14 : decode cX4_within 14 = .ok (.iconst 0, 1) := by decide +kernel
theorem dX4_within_15 : decode cX4_within 15 = .ok (.ireturn, 1) := by decide +kernel
abbrev zm_X4_within : zg_M := (RX4, cX4_within, 3, (some .boolean), [])
theorem dX4_checkOf_0 : decode cX4_checkOf 0 = .ok (.iconst 1, 1) := by decide +kernel
theorem dX4_checkOf_1 : decode cX4_checkOf 1 = .ok (.istore_n 3, 1) := by decide +kernel
theorem dX4_checkOf_2 : decode cX4_checkOf 2 = .ok (.iconst 0, 1) := by decide +kernel
theorem dX4_checkOf_3 : decode cX4_checkOf 3 = .ok (.istore 4, 2) := by decide +kernel
theorem dX4_checkOf_5 : decode cX4_checkOf 5 = .ok (.iload 4, 2) := by decide +kernel
theorem dX4_checkOf_7 : decode cX4_checkOf 7 = .ok (.bipush 14, 2) := by decide +kernel
theorem dX4_checkOf_9 : decode cX4_checkOf 9 = .ok (.if_icmp .ge 24, 3) := by decide +kernel
theorem dX4_checkOf_12 : decode cX4_checkOf 12 = .ok (.bipush 31, 2) := by decide +kernel
theorem dX4_checkOf_14 : decode cX4_checkOf 14 = .ok (.iload_n 3, 1) := by decide +kernel
theorem dX4_checkOf_15 : decode cX4_checkOf 15 = .ok (.imul, 1) := by decide +kernel
theorem dX4_checkOf_16 : decode cX4_checkOf 16 = .ok (.aload_n 1, 1) := by decide +kernel
theorem dX4_checkOf_17 : decode cX4_checkOf 17 = .ok (.iload_n 2, 1) := by decide +kernel
theorem dX4_checkOf_18 : decode cX4_checkOf 18 = .ok (.iload 4, 2) := by decide +kernel
theorem dX4_checkOf_20 : decode cX4_checkOf 20 = .ok (.iadd, 1) := by decide +kernel
theorem dX4_checkOf_21 : decode cX4_checkOf 21 = .ok (.iaload, 1) := by decide +kernel
theorem dX4_checkOf_22 : decode cX4_checkOf 22 = .ok (.iadd, 1) := by decide +kernel
theorem dX4_checkOf_23 : decode cX4_checkOf 23 = .ok (.ldc 42, 2) := by decide +kernel
theorem dX4_checkOf_25 : decode cX4_checkOf 25 = .ok (.iand, 1) := by decide +kernel
theorem dX4_checkOf_26 : decode cX4_checkOf 26 = .ok (.istore_n 3, 1) := by decide +kernel
theorem dX4_checkOf_27 : decode cX4_checkOf 27 = .ok (.iinc 4 1, 3) := by decide +kernel
theorem dX4_checkOf_30 : decode cX4_checkOf 30 = .ok (.goto (-25), 3) := by decide +kernel
theorem dX4_checkOf_33 : decode cX4_checkOf 33 = .ok (.iload_n 3, 1) := by decide +kernel
theorem dX4_checkOf_34 : decode cX4_checkOf 34 = .ok (.ireturn, 1) := by decide +kernel
abbrev zm_X4_checkOf : zg_M := (RX4, cX4_checkOf, 5, (some .int), [])
theorem dX4_master_0 : decode cX4_master 0 = .ok (.iconst 0, 1) := by decide +kernel
theorem dX4_master_1 : decode cX4_master 1 = .ok (.istore 5, 2) := by decide +kernel
theorem dX4_master_3 : decode cX4_master 3 = .ok (.iload 5, 2) := by decide +kernel
theorem dX4_master_5 : decode cX4_master 5 = .ok (.bipush 16, 2) := by decide +kernel
theorem dX4_master_7 : decode cX4_master 7 = .ok (.if_icmp .ge 50, 3) := by decide +kernel
theorem dX4_master_10 : decode cX4_master 10 = .ok (.aload_n 1, 1) := by decide +kernel
theorem dX4_master_11 : decode cX4_master 11 = .ok (.iload_n 2, 1) := by decide +kernel
theorem dX4_master_12 : decode cX4_master 12 = .ok (.iload 5, 2) := by decide +kernel
theorem dX4_master_14 : decode cX4_master 14 = .ok (.iadd, 1) := by decide +kernel
theorem dX4_master_15 : decode cX4_master 15 = .ok (.iload 5, 2) := by decide +kernel
theorem dX4_master_17 : decode cX4_master 17 = .ok (.iconst 4, 1) := by decide +kernel
theorem dX4_master_18 : decode cX4_master 18 = .ok (.if_icmp .ge 20, 3) := by decide +kernel
theorem dX4_master_21 : decode cX4_master 21 = .ok (.iload_n 3, 1) := by decide +kernel
theorem dX4_master_22 : decode cX4_master 22 = .ok (.bipush 24, 2) := by decide +kernel
theorem dX4_master_24 : decode cX4_master 24 = .ok (.bipush 8, 2) := by decide +kernel
theorem dX4_master_26 : decode cX4_master 26 = .ok (.iload 5, 2) := by decide +kernel
theorem dX4_master_28 : decode cX4_master 28 = .ok (.imul, 1) := by decide +kernel
theorem dX4_master_29 : decode cX4_master 29 = .ok (.isub, 1) := by decide +kernel
theorem dX4_master_30 : decode cX4_master 30 = .ok (.ishr, 1) := by decide +kernel
theorem dX4_master_31 : decode cX4_master 31 = .ok (.sipush 255, 3) := by decide +kernel
theorem dX4_master_34 : decode cX4_master 34 = .ok (.iand, 1) := by decide +kernel
theorem dX4_master_35 : decode cX4_master 35 = .ok (.goto 15, 3) := by decide +kernel
theorem dX4_master_38 : decode cX4_master 38 = .ok (.iload 5, 2) := by decide +kernel
theorem dX4_master_40 : decode cX4_master 40 = .ok (.iconst 4, 1) := by decide +kernel
theorem dX4_master_41 : decode cX4_master 41 = .ok (.if_icmp .ne 8, 3) := by decide +kernel
theorem dX4_master_44 : decode cX4_master 44 = .ok (.iload 4, 2) := by decide +kernel
theorem dX4_master_46 : decode cX4_master 46 = .ok (.goto 4, 3) := by decide +kernel
theorem dX4_master_49 : decode cX4_master 49 = .ok (.iconst 0, 1) := by decide +kernel
theorem dX4_master_50 : decode cX4_master 50 = .ok (.iastore, 1) := by decide +kernel
theorem dX4_master_51 : decode cX4_master 51 = .ok (.iinc 5 1, 3) := by decide +kernel
theorem dX4_master_54 : decode cX4_master 54 = .ok (.goto (-51), 3) := by decide +kernel
theorem dX4_master_57 : decode cX4_master 57 = .ok (.aload_n 0, 1) := by decide +kernel
theorem dX4_master_58 : decode cX4_master 58 = .ok (.aload_n 1, 1) := by decide +kernel
theorem dX4_master_59 : decode cX4_master 59 = .ok (.iload_n 2, 1) := by decide +kernel
theorem dX4_master_60 : decode cX4_master 60 = .ok (.invokevirtual 43, 3) := by decide +kernel
theorem dX4_master_63 : decode cX4_master 63 = .ok (.istore 5, 2) := by decide +kernel
theorem dX4_master_65 : decode cX4_master 65 = .ok (.aload_n 1, 1) := by decide +kernel
theorem dX4_master_66 : decode cX4_master 66 = .ok (.iload_n 2, 1) := by decide +kernel
theorem dX4_master_67 : decode cX4_master 67 = .ok (.bipush 14, 2) := by decide +kernel
theorem dX4_master_69 : decode cX4_master 69 = .ok (.iadd, 1) := by decide +kernel
theorem dX4_master_70 : decode cX4_master 70 = .ok (.iload 5, 2) := by decide +kernel
theorem dX4_master_72 : decode cX4_master 72 = .ok (.bipush 8, 2) := by decide +kernel
theorem dX4_master_74 : decode cX4_master 74 = .ok (.ishr, 1) := by decide +kernel
theorem dX4_master_75 : decode cX4_master 75 = .ok (.iastore, 1) := by decide +kernel
theorem dX4_master_76 : decode cX4_master 76 = .ok (.aload_n 1, 1) := by decide +kernel
theorem dX4_master_77 : decode cX4_master 77 = .ok (.iload_n 2, 1) := by decide +kernel
theorem dX4_master_78 : decode cX4_master 78 = .ok (.bipush 15, 2) := by decide +kernel
theorem dX4_master_80 : decode cX4_master 80 = .ok (.iadd, 1) := by decide +kernel
theorem dX4_master_81 : decode cX4_master 81 = .ok (.iload 5, 2) := by decide +kernel
theorem dX4_master_83 : decode cX4_master 83 = .ok (.sipush 255, 3) := by decide +kernel
theorem dX4_master_86 : decode cX4_master 86 = .ok (.iand, 1) := by decide +kernel
theorem dX4_master_87 : decode cX4_master 87 = .ok (.iastore, 1) := by decide +kernel
theorem dX4_master_88 : decode cX4_master 88 = .ok (.return_, 1) := by decide +kernel
abbrev zm_X4_master : zg_M := (RX4, cX4_master, 6, none, [])
theorem dX4_clear_0 : decode cX4_clear 0 = .ok (.iconst 0, 1) := by decide +kernel
theorem dX4_clear_1 : decode cX4_clear 1 = .ok (.istore_n 1, 1) := by decide +kernel
theorem dX4_clear_2 : decode cX4_clear 2 = .ok (.iload_n 1, 1) := by decide +kernel
theorem dX4_clear_3 : decode cX4_clear 3 = .ok (.sipush 768, 3) := by decide +kernel
theorem dX4_clear_6 : decode cX4_clear 6 = .ok (.if_icmp .ge 16, 3) := by decide +kernel
theorem dX4_clear_9 : decode cX4_clear 9 = .ok (.aload_n 0, 1) := by decide +kernel
theorem dX4_clear_10 : decode cX4_clear 10 = .ok (.getfield 7, 3) := by decide +kernel
theorem dX4_clear_13 : decode cX4_clear 13 = .ok (.iload_n 1, 1) := by decide +kernel
theorem dX4_clear_14 : decode cX4_clear 14 = .ok (.iconst 0, 1) := by decide +kernel
theorem dX4_clear_15 : decode cX4_clear 15 = .ok (.iastore, 1) := by decide +kernel
theorem dX4_clear_16 : decode cX4_clear 16 = .ok (.iinc 1 1, 3) := by decide +kernel
theorem dX4_clear_19 : decode cX4_clear 19 = .ok (.goto (-17), 3) := by decide +kernel
theorem dX4_clear_22 : decode cX4_clear 22 = .ok (.aload_n 0, 1) := by decide +kernel
theorem dX4_clear_23 : decode cX4_clear 23 = .ok (.aload_n 0, 1) := by decide +kernel
theorem dX4_clear_24 : decode cX4_clear 24 = .ok (.getfield 7, 3) := by decide +kernel
theorem dX4_clear_27 : decode cX4_clear 27 = .ok (.iconst 0, 1) := by decide +kernel
theorem dX4_clear_28 : decode cX4_clear 28 = .ok (.iconst 0, 1) := by decide +kernel
theorem dX4_clear_29 : decode cX4_clear 29 = .ok (.iconst 1, 1) := by decide +kernel
theorem dX4_clear_30 : decode cX4_clear 30 = .ok (.invokevirtual 47, 3) := by decide +kernel
theorem dX4_clear_33 : decode cX4_clear 33 = .ok (.aload_n 0, 1) := by decide +kernel
theorem dX4_clear_34 : decode cX4_clear 34 = .ok (.invokevirtual 51, 3) := by decide +kernel
theorem dX4_clear_37 : decode cX4_clear 37 = .ok (.return_, 1) := by decide +kernel
abbrev zm_X4_clear : zg_M := (RX4, cX4_clear, 2, none, [])
theorem dX4_mount_0 : decode cX4_mount 0 = .ok (.aload_n 0, 1) := by decide +kernel
theorem dX4_mount_1 : decode cX4_mount 1 = .ok (.iconst 0, 1) := by decide +kernel
theorem dX4_mount_2 : decode cX4_mount 2 = .ok (.putfield 54, 3) := by decide +kernel
theorem dX4_mount_5 : decode cX4_mount 5 = .ok (.aload_n 0, 1) := by decide +kernel
theorem dX4_mount_6 : decode cX4_mount 6 = .ok (.iconst 0, 1) := by decide +kernel
theorem dX4_mount_7 : decode cX4_mount 7 = .ok (.putfield 57, 3) := by decide +kernel
theorem dX4_mount_10 : decode cX4_mount 10 = .ok (.aload_n 0, 1) := by decide +kernel
theorem dX4_mount_11 : decode cX4_mount 11 = .ok (.iconst 0, 1) := by decide +kernel
theorem dX4_mount_12 : decode cX4_mount 12 = .ok (.putfield 61, 3) := by decide +kernel
theorem dX4_mount_15 : decode cX4_mount 15 = .ok (.aload_n 0, 1) := by decide +kernel
theorem dX4_mount_16 : decode cX4_mount 16 = .ok (.iconst 1, 1) := by decide +kernel
theorem dX4_mount_17 : decode cX4_mount 17 = .ok (.putfield 64, 3) := by decide +kernel
theorem dX4_mount_20 : decode cX4_mount 20 = .ok (.aload_n 0, 1) := by decide +kernel
theorem dX4_mount_21 : decode cX4_mount 21 = .ok (.aload_n 0, 1) := by decide +kernel
theorem dX4_mount_22 : decode cX4_mount 22 = .ok (.getfield 7, 3) := by decide +kernel
theorem dX4_mount_25 : decode cX4_mount 25 = .ok (.iconst 0, 1) := by decide +kernel
theorem dX4_mount_26 : decode cX4_mount 26 = .ok (.invokevirtual 43, 3) := by decide +kernel
theorem dX4_mount_29 : decode cX4_mount 29 = .ok (.istore_n 1, 1) := by decide +kernel
theorem dX4_mount_30 : decode cX4_mount 30 = .ok (.aload_n 0, 1) := by decide +kernel
theorem dX4_mount_31 : decode cX4_mount 31 = .ok (.getfield 7, 3) := by decide +kernel
theorem dX4_mount_34 : decode cX4_mount 34 = .ok (.bipush 14, 2) := by decide +kernel
theorem dX4_mount_36 : decode cX4_mount 36 = .ok (.iaload, 1) := by decide +kernel
theorem dX4_mount_37 : decode cX4_mount 37 = .ok (.iload_n 1, 1) := by decide +kernel
theorem dX4_mount_38 : decode cX4_mount 38 = .ok (.bipush 8, 2) := by decide +kernel
theorem dX4_mount_40 : decode cX4_mount 40 = .ok (.ishr, 1) := by decide +kernel
theorem dX4_mount_41 : decode cX4_mount 41 = .ok (.if_icmp .ne 18, 3) := by decide +kernel
theorem dX4_mount_44 : decode cX4_mount 44 = .ok (.aload_n 0, 1) := by decide +kernel
theorem dX4_mount_45 : decode cX4_mount 45 = .ok (.getfield 7, 3) := by decide +kernel
theorem dX4_mount_48 : decode cX4_mount 48 = .ok (.bipush 15, 2) := by decide +kernel
theorem dX4_mount_50 : decode cX4_mount 50 = .ok (.iaload, 1) := by decide +kernel
theorem dX4_mount_51 : decode cX4_mount 51 = .ok (.iload_n 1, 1) := by decide +kernel
theorem dX4_mount_52 : decode cX4_mount 52 = .ok (.sipush 255, 3) := by decide +kernel
theorem dX4_mount_55 : decode cX4_mount 55 = .ok (.iand, 1) := by decide +kernel
theorem dX4_mount_56 : decode cX4_mount 56 = .ok (.if_icmp .eq 4, 3) := by decide +kernel
theorem dX4_mount_59 : decode cX4_mount 59 = .ok (.return_, 1) := by decide +kernel
theorem dX4_mount_60 : decode cX4_mount 60 = .ok (.iconst 5, 1) := by decide +kernel
theorem dX4_mount_61 : decode cX4_mount 61 = .ok (.istore_n 2, 1) := by decide +kernel
theorem dX4_mount_62 : decode cX4_mount 62 = .ok (.iload_n 2, 1) := by decide +kernel
theorem dX4_mount_63 : decode cX4_mount 63 = .ok (.bipush 14, 2) := by decide +kernel
theorem dX4_mount_65 : decode cX4_mount 65 = .ok (.if_icmp .ge 19, 3) := by decide +kernel
theorem dX4_mount_68 : decode cX4_mount 68 = .ok (.aload_n 0, 1) := by decide +kernel
theorem dX4_mount_69 : decode cX4_mount 69 = .ok (.getfield 7, 3) := by decide +kernel
theorem dX4_mount_72 : decode cX4_mount 72 = .ok (.iload_n 2, 1) := by decide +kernel
theorem dX4_mount_73 : decode cX4_mount 73 = .ok (.iaload, 1) := by decide +kernel
theorem dX4_mount_74 : decode cX4_mount 74 = .ok (.ifCond .eq 4, 3) := by decide +kernel
theorem dX4_mount_77 : decode cX4_mount 77 = .ok (.return_, 1) := by decide +kernel
theorem dX4_mount_78 : decode cX4_mount 78 = .ok (.iinc 2 1, 3) := by decide +kernel
theorem dX4_mount_81 : decode cX4_mount 81 = .ok (.goto (-19), 3) := by decide +kernel
theorem dX4_mount_84 : decode cX4_mount 84 = .ok (.aload_n 0, 1) := by decide +kernel
theorem dX4_mount_85 : decode cX4_mount 85 = .ok (.getfield 7, 3) := by decide +kernel
theorem dX4_mount_88 : decode cX4_mount 88 = .ok (.iconst 4, 1) := by decide +kernel
theorem dX4_mount_89 : decode cX4_mount 89 = .ok (.iaload, 1) := by decide +kernel
theorem dX4_mount_90 : decode cX4_mount 90 = .ok (.istore_n 2, 1) := by decide +kernel
theorem dX4_mount_91 : decode cX4_mount 91 = .ok (.iload_n 2, 1) := by decide +kernel
theorem dX4_mount_92 : decode cX4_mount 92 = .ok (.iconst 1, 1) := by decide +kernel
theorem dX4_mount_93 : decode cX4_mount 93 = .ok (.bipush 47, 2) := by decide +kernel
theorem dX4_mount_95 : decode cX4_mount 95 = .ok (.invokestatic 67, 3) := by decide +kernel
theorem dX4_mount_98 : decode cX4_mount 98 = .ok (.ifCond .ne 4, 3) := by decide +kernel
theorem dX4_mount_101 : decode cX4_mount 101 = .ok (.return_, 1) := by decide +kernel
theorem dX4_mount_102 : decode cX4_mount 102 = .ok (.iconst 0, 1) := by decide +kernel
theorem dX4_mount_103 : decode cX4_mount 103 = .ok (.istore_n 3, 1) := by decide +kernel
theorem dX4_mount_104 : decode cX4_mount 104 = .ok (.iload_n 3, 1) := by decide +kernel
theorem dX4_mount_105 : decode cX4_mount 105 = .ok (.bipush 16, 2) := by decide +kernel
theorem dX4_mount_107 : decode cX4_mount 107 = .ok (.if_icmp .ge 74, 3) := by decide +kernel
theorem dX4_mount_110 : decode cX4_mount 110 = .ok (.aload_n 0, 1) := by decide +kernel
theorem dX4_mount_111 : decode cX4_mount 111 = .ok (.getfield 7, 3) := by decide +kernel
theorem dX4_mount_114 : decode cX4_mount 114 = .ok (.bipush 16, 2) := by decide +kernel
theorem dX4_mount_116 : decode cX4_mount 116 = .ok (.iload_n 2, 1) := by decide +kernel
theorem dX4_mount_117 : decode cX4_mount 117 = .ok (.imul, 1) := by decide +kernel
theorem dX4_mount_118 : decode cX4_mount 118 = .ok (.iload_n 3, 1) := by decide +kernel
theorem dX4_mount_119 : decode cX4_mount 119 = .ok (.iadd, 1) := by decide +kernel
theorem dX4_mount_120 : decode cX4_mount 120 = .ok (.iaload, 1) := by decide +kernel
theorem dX4_mount_121 : decode cX4_mount 121 = .ok (.istore 4, 2) := by decide +kernel
theorem dX4_mount_123 : decode cX4_mount 123 = .ok (.iload 4, 2) := by decide +kernel
theorem dX4_mount_125 : decode cX4_mount 125 = .ok (.bipush 48, 2) := by decide +kernel
theorem dX4_mount_127 : decode cX4_mount 127 = .ok (.if_icmp .ge 9, 3) := by decide +kernel
theorem dX4_mount_130 : decode cX4_mount 130 = .ok (.iload 4, 2) := by decide +kernel
theorem dX4_mount_132 : decode cX4_mount 132 = .ok (.iload_n 2, 1) := by decide +kernel
theorem dX4_mount_133 : decode cX4_mount 133 = .ok (.if_icmp .ne 4, 3) := by decide +kernel
theorem dX4_mount_136 : decode cX4_mount 136 = .ok (.return_, 1) := by decide +kernel
theorem dX4_mount_137 : decode cX4_mount 137 = .ok (.iconst 0, 1) := by decide +kernel
theorem dX4_mount_138 : decode cX4_mount 138 = .ok (.istore 5, 2) := by decide +kernel
theorem dX4_mount_140 : decode cX4_mount 140 = .ok (.iload 5, 2) := by decide +kernel
theorem dX4_mount_142 : decode cX4_mount 142 = .ok (.iload_n 3, 1) := by decide +kernel
theorem dX4_mount_143 : decode cX4_mount 143 = .ok (.if_icmp .ge 32, 3) := by decide +kernel
theorem dX4_mount_146 : decode cX4_mount 146 = .ok (.iload 4, 2) := by decide +kernel
theorem dX4_mount_148 : decode cX4_mount 148 = .ok (.ifCond .eq 21, 3) := by decide +kernel
theorem dX4_mount_151 : decode cX4_mount 151 = .ok (.aload_n 0, 1) := by decide +kernel
theorem dX4_mount_152 : decode cX4_mount 152 = .ok (.getfield 7, 3) := by decide +kernel
theorem dX4_mount_155 : decode cX4_mount 155 = .ok (.bipush 16, 2) := by decide +kernel
theorem dX4_mount_157 : decode cX4_mount 157 = .ok (.iload_n 2, 1) := by decide +kernel
theorem dX4_mount_158 : decode cX4_mount 158 = .ok (.imul, 1) := by decide +kernel
theorem dX4_mount_159 : decode cX4_mount 159 = .ok (.iload 5, 2) := by decide +kernel
theorem dX4_mount_161 : decode cX4_mount 161 = .ok (.iadd, 1) := by decide +kernel
theorem dX4_mount_162 : decode cX4_mount 162 = .ok (.iaload, 1) := by decide +kernel
theorem dX4_mount_163 : decode cX4_mount 163 = .ok (.iload 4, 2) := by decide +kernel
theorem dX4_mount_165 : decode cX4_mount 165 = .ok (.if_icmp .ne 4, 3) := by decide +kernel
theorem dX4_mount_168 : decode cX4_mount 168 = .ok (.return_, 1) := by decide +kernel
theorem dX4_mount_169 : decode cX4_mount 169 = .ok (.iinc 5 1, 3) := by decide +kernel
theorem dX4_mount_172 : decode cX4_mount 172 = .ok (.goto (-32), 3) := by decide +kernel
theorem dX4_mount_175 : decode cX4_mount 175 = .ok (.iinc 3 1, 3) := by decide +kernel
theorem dX4_mount_178 : decode cX4_mount 178 = .ok (.goto (-74), 3) := by decide +kernel
theorem dX4_mount_181 : decode cX4_mount 181 = .ok (.aload_n 0, 1) := by decide +kernel
theorem dX4_mount_182 : decode cX4_mount 182 = .ok (.iconst 0, 1) := by decide +kernel
theorem dX4_mount_183 : decode cX4_mount 183 = .ok (.putfield 64, 3) := by decide +kernel
theorem dX4_mount_186 : decode cX4_mount 186 = .ok (.aload_n 0, 1) := by decide +kernel
theorem dX4_mount_187 : decode cX4_mount 187 = .ok (.iload_n 2, 1) := by decide +kernel
theorem dX4_mount_188 : decode cX4_mount 188 = .ok (.putfield 71, 3) := by decide +kernel
theorem dX4_mount_191 : decode cX4_mount 191 = .ok (.aload_n 0, 1) := by decide +kernel
theorem dX4_mount_192 : decode cX4_mount 192 = .ok (.aload_n 0, 1) := by decide +kernel
theorem dX4_mount_193 : decode cX4_mount 193 = .ok (.getfield 7, 3) := by decide +kernel
theorem dX4_mount_196 : decode cX4_mount 196 = .ok (.iconst 0, 1) := by decide +kernel
theorem dX4_mount_197 : decode cX4_mount 197 = .ok (.iaload, 1) := by decide +kernel
theorem dX4_mount_198 : decode cX4_mount 198 = .ok (.bipush 24, 2) := by decide +kernel
theorem dX4_mount_200 : decode cX4_mount 200 = .ok (.ishl, 1) := by decide +kernel
theorem dX4_mount_201 : decode cX4_mount 201 = .ok (.aload_n 0, 1) := by decide +kernel
theorem dX4_mount_202 : decode cX4_mount 202 = .ok (.getfield 7, 3) := by decide +kernel
theorem dX4_mount_205 : decode cX4_mount 205 = .ok (.iconst 1, 1) := by decide +kernel
theorem dX4_mount_206 : decode cX4_mount 206 = .ok (.iaload, 1) := by decide +kernel
theorem dX4_mount_207 : decode cX4_mount 207 = .ok (.bipush 16, 2) := by decide +kernel
theorem dX4_mount_209 : decode cX4_mount 209 = .ok (.ishl, 1) := by decide +kernel
theorem dX4_mount_210 : decode cX4_mount 210 = .ok (.ior, 1) := by decide +kernel
theorem dX4_mount_211 : decode cX4_mount 211 = .ok (.aload_n 0, 1) := by decide +kernel
theorem dX4_mount_212 : decode cX4_mount 212 = .ok (.getfield 7, 3) := by decide +kernel
theorem dX4_mount_215 : decode cX4_mount 215 = .ok (.iconst 2, 1) := by decide +kernel
theorem dX4_mount_216 : decode cX4_mount 216 = .ok (.iaload, 1) := by decide +kernel
theorem dX4_mount_217 : decode cX4_mount 217 = .ok (.bipush 8, 2) := by decide +kernel
theorem dX4_mount_219 : decode cX4_mount 219 = .ok (.ishl, 1) := by decide +kernel
theorem dX4_mount_220 : decode cX4_mount 220 = .ok (.ior, 1) := by decide +kernel
theorem dX4_mount_221 : decode cX4_mount 221 = .ok (.aload_n 0, 1) := by decide +kernel
theorem dX4_mount_222 : decode cX4_mount 222 = .ok (.getfield 7, 3) := by decide +kernel
theorem dX4_mount_225 : decode cX4_mount 225 = .ok (.iconst 3, 1) := by decide +kernel
theorem dX4_mount_226 : decode cX4_mount 226 = .ok (.iaload, 1) := by decide +kernel
theorem dX4_mount_227 : decode cX4_mount 227 = .ok (.ior, 1) := by decide +kernel
theorem dX4_mount_228 : decode cX4_mount 228 = .ok (.putfield 74, 3) := by decide +kernel
theorem dX4_mount_231 : decode cX4_mount 231 = .ok (.iconst 0, 1) := by decide +kernel
theorem dX4_mount_232 : decode cX4_mount 232 = .ok (.istore_n 3, 1) := by decide +kernel
theorem dX4_mount_233 : decode cX4_mount 233 = .ok (.iload_n 3, 1) := by decide +kernel
theorem dX4_mount_234 : decode cX4_mount 234 = .ok (.bipush 16, 2) := by decide +kernel
theorem dX4_mount_236 : decode cX4_mount 236 = .ok (.if_icmp .ge 26, 3) := by decide +kernel
theorem dX4_mount_239 : decode cX4_mount 239 = .ok (.aload_n 0, 1) := by decide +kernel
theorem dX4_mount_240 : decode cX4_mount 240 = .ok (.getfield 13, 3) := by decide +kernel
theorem dX4_mount_243 : decode cX4_mount 243 = .ok (.iload_n 3, 1) := by decide +kernel
theorem dX4_mount_244 : decode cX4_mount 244 = .ok (.aload_n 0, 1) := by decide +kernel
theorem dX4_mount_245 : decode cX4_mount 245 = .ok (.getfield 7, 3) := by decide +kernel
theorem dX4_mount_248 : decode cX4_mount 248 = .ok (.bipush 16, 2) := by decide +kernel
theorem dX4_mount_250 : decode cX4_mount 250 = .ok (.iload_n 2, 1) := by decide +kernel
theorem dX4_mount_251 : decode cX4_mount 251 = .ok (.imul, 1) := by decide +kernel
theorem dX4_mount_252 : decode cX4_mount 252 = .ok (.iload_n 3, 1) := by decide +kernel
theorem dX4_mount_253 : decode cX4_mount 253 = .ok (.iadd, 1) := by decide +kernel
theorem dX4_mount_254 : decode cX4_mount 254 = .ok (.iaload, 1) := by decide +kernel
theorem dX4_mount_255 : decode cX4_mount 255 = .ok (.iastore, 1) := by decide +kernel
theorem dX4_mount_256 : decode cX4_mount 256 = .ok (.iinc 3 1, 3) := by decide +kernel
theorem dX4_mount_259 : decode cX4_mount 259 = .ok (.goto (-26), 3) := by decide +kernel
theorem dX4_mount_262 : decode cX4_mount 262 = .ok (.aload_n 0, 1) := by decide +kernel
theorem dX4_mount_263 : decode cX4_mount 263 = .ok (.invokevirtual 77, 3) := by decide +kernel
theorem dX4_mount_266 : decode cX4_mount 266 = .ok (.return_, 1) := by decide +kernel
abbrev zm_X4_mount : zg_M := (RX4, cX4_mount, 6, none, [])
theorem dX4_settle_0 : decode cX4_settle 0 = .ok (.aload_n 0, 1) := by decide +kernel
theorem dX4_settle_1 : decode cX4_settle 1 = .ok (.aload_n 0, 1) := by decide +kernel
theorem dX4_settle_2 : decode cX4_settle 2 = .ok (.getfield 71, 3) := by decide +kernel
theorem dX4_settle_5 : decode cX4_settle 5 = .ok (.putfield 80, 3) := by decide +kernel
theorem dX4_settle_8 : decode cX4_settle 8 = .ok (.aload_n 0, 1) := by decide +kernel
theorem dX4_settle_9 : decode cX4_settle 9 = .ok (.aload_n 0, 1) := by decide +kernel
theorem dX4_settle_10 : decode cX4_settle 10 = .ok (.getfield 74, 3) := by decide +kernel
theorem dX4_settle_13 : decode cX4_settle 13 = .ok (.putfield 83, 3) := by decide +kernel
theorem dX4_settle_16 : decode cX4_settle 16 = .ok (.iconst 0, 1) := by decide +kernel
theorem dX4_settle_17 : decode cX4_settle 17 = .ok (.istore_n 1, 1) := by decide +kernel
theorem dX4_settle_18 : decode cX4_settle 18 = .ok (.iload_n 1, 1) := by decide +kernel
theorem dX4_settle_19 : decode cX4_settle 19 = .ok (.bipush 16, 2) := by decide +kernel
theorem dX4_settle_21 : decode cX4_settle 21 = .ok (.if_icmp .ge 21, 3) := by decide +kernel
theorem dX4_settle_24 : decode cX4_settle 24 = .ok (.aload_n 0, 1) := by decide +kernel
theorem dX4_settle_25 : decode cX4_settle 25 = .ok (.getfield 16, 3) := by decide +kernel
theorem dX4_settle_28 : decode cX4_settle 28 = .ok (.iload_n 1, 1) := by decide +kernel
theorem dX4_settle_29 : decode cX4_settle 29 = .ok (.aload_n 0, 1) := by decide +kernel
theorem dX4_settle_30 : decode cX4_settle 30 = .ok (.getfield 13, 3) := by decide +kernel
theorem dX4_settle_33 : decode cX4_settle 33 = .ok (.iload_n 1, 1) := by decide +kernel
theorem dX4_settle_34 : decode cX4_settle 34 = .ok (.iaload, 1) := by decide +kernel
theorem dX4_settle_35 : decode cX4_settle 35 = .ok (.iastore, 1) := by decide +kernel
theorem dX4_settle_36 : decode cX4_settle 36 = .ok (.iinc 1 1, 3) := by decide +kernel
theorem dX4_settle_39 : decode cX4_settle 39 = .ok (.goto (-21), 3) := by decide +kernel
theorem dX4_settle_42 : decode cX4_settle 42 = .ok (.aload_n 0, 1) := by decide +kernel
theorem dX4_settle_43 : decode cX4_settle 43 = .ok (.iconst 0, 1) := by decide +kernel
theorem dX4_settle_44 : decode cX4_settle 44 = .ok (.putfield 57, 3) := by decide +kernel
theorem dX4_settle_47 : decode cX4_settle 47 = .ok (.return_, 1) := by decide +kernel
abbrev zm_X4_settle : zg_M := (RX4, cX4_settle, 2, none, [])
theorem dX4_isFree_0 : decode cX4_isFree 0 = .ok (.iload_n 1, 1) := by decide +kernel
theorem dX4_isFree_1 : decode cX4_isFree 1 = .ok (.ifCond .le 23, 3) := by decide +kernel
theorem dX4_isFree_4 : decode cX4_isFree 4 = .ok (.iload_n 1, 1) := by decide +kernel
theorem dX4_isFree_5 : decode cX4_isFree 5 = .ok (.aload_n 0, 1) := by decide +kernel
theorem dX4_isFree_6 : decode cX4_isFree 6 = .ok (.getfield 71, 3) := by decide +kernel
theorem dX4_isFree_9 : decode cX4_isFree 9 = .ok (.if_icmp .eq 15, 3) := by decide +kernel
theorem dX4_isFree_12 : decode cX4_isFree 12 = .ok (.iload_n 1, 1) := by decide +kernel
theorem dX4_isFree_13 : decode cX4_isFree 13 = .ok (.aload_n 0, 1) := by decide +kernel
theorem dX4_isFree_14 : decode cX4_isFree 14 = .ok (.getfield 80, 3) := by decide +kernel
theorem dX4_isFree_17 : decode cX4_isFree 17 = .ok (.if_icmp .eq 7, 3) := by decide +kernel
theorem dX4_isFree_20 : decode cX4_isFree 20 = .ok (.iconst 1, 1) := by decide +kernel
theorem dX4_isFree_21 : decode cX4_isFree 21 = .ok (.goto 4, 3) := by decide +kernel
theorem dX4_isFree_24 : decode cX4_isFree 24 = .ok (.iconst 0, 1) := by decide +kernel
theorem dX4_isFree_25 : decode cX4_isFree 25 = .ok (.istore_n 2, 1) := by decide +kernel
theorem dX4_isFree_26 : decode cX4_isFree 26 = .ok (.iconst 0, 1) := by decide +kernel
theorem dX4_isFree_27 : decode cX4_isFree 27 = .ok (.istore_n 3, 1) := by decide +kernel
theorem dX4_isFree_28 : decode cX4_isFree 28 = .ok (.iload_n 3, 1) := by decide +kernel
theorem dX4_isFree_29 : decode cX4_isFree 29 = .ok (.bipush 16, 2) := by decide +kernel
theorem dX4_isFree_31 : decode cX4_isFree 31 = .ok (.if_icmp .ge 48, 3) := by decide +kernel
theorem dX4_isFree_34 : decode cX4_isFree 34 = .ok (.aload_n 0, 1) := by decide +kernel
theorem dX4_isFree_35 : decode cX4_isFree 35 = .ok (.getfield 13, 3) := by decide +kernel
theorem dX4_isFree_38 : decode cX4_isFree 38 = .ok (.iload_n 3, 1) := by decide +kernel
theorem dX4_isFree_39 : decode cX4_isFree 39 = .ok (.iaload, 1) := by decide +kernel
theorem dX4_isFree_40 : decode cX4_isFree 40 = .ok (.iload_n 1, 1) := by decide +kernel
theorem dX4_isFree_41 : decode cX4_isFree 41 = .ok (.if_icmp .eq 30, 3) := by decide +kernel
theorem dX4_isFree_44 : decode cX4_isFree 44 = .ok (.aload_n 0, 1) := by decide +kernel
theorem dX4_isFree_45 : decode cX4_isFree 45 = .ok (.getfield 16, 3) := by decide +kernel
theorem dX4_isFree_48 : decode cX4_isFree 48 = .ok (.iload_n 3, 1) := by decide +kernel
theorem dX4_isFree_49 : decode cX4_isFree 49 = .ok (.iaload, 1) := by decide +kernel
theorem dX4_isFree_50 : decode cX4_isFree 50 = .ok (.iload_n 1, 1) := by decide +kernel
theorem dX4_isFree_51 : decode cX4_isFree 51 = .ok (.if_icmp .eq 20, 3) := by decide +kernel
theorem dX4_isFree_54 : decode cX4_isFree 54 = .ok (.aload_n 0, 1) := by decide +kernel
theorem dX4_isFree_55 : decode cX4_isFree 55 = .ok (.getfield 61, 3) := by decide +kernel
theorem dX4_isFree_58 : decode cX4_isFree 58 = .ok (.ifCond .eq 15, 3) := by decide +kernel
theorem dX4_isFree_61 : decode cX4_isFree 61 = .ok (.aload_n 0, 1) := by decide +kernel
theorem dX4_isFree_62 : decode cX4_isFree 62 = .ok (.getfield 19, 3) := by decide +kernel
theorem dX4_isFree_65 : decode cX4_isFree 65 = .ok (.iload_n 3, 1) := by decide +kernel
theorem dX4_isFree_66 : decode cX4_isFree 66 = .ok (.iaload, 1) := by decide +kernel
theorem dX4_isFree_67 : decode cX4_isFree 67 = .ok (.iload_n 1, 1) := by decide +kernel
theorem dX4_isFree_68 : decode cX4_isFree 68 = .ok (.if_icmp .ne 5, 3) := by decide +kernel
theorem dX4_isFree_71 : decode cX4_isFree 71 = .ok (.iconst 0, 1) := by decide +kernel
theorem dX4_isFree_72 : decode cX4_isFree 72 = .ok (.istore_n 2, 1) := by decide +kernel
theorem dX4_isFree_73 : decode cX4_isFree 73 = .ok (.iinc 3 1, 3) := by decide +kernel
theorem dX4_isFree_76 : decode cX4_isFree 76 = .ok (.goto (-48), 3) := by decide +kernel
theorem dX4_isFree_79 : decode cX4_isFree 79 = .ok (.iload_n 2, 1) := by decide +kernel
theorem dX4_isFree_80 : decode cX4_isFree 80 = .ok (.ireturn, 1) := by decide +kernel
abbrev zm_X4_isFree : zg_M := (RX4, cX4_isFree, 4, (some .boolean), [])
theorem dX4_firstFree_0 : decode cX4_firstFree 0 = .ok (.iconst 1, 1) := by decide +kernel
theorem dX4_firstFree_1 : decode cX4_firstFree 1 = .ok (.istore_n 1, 1) := by decide +kernel
theorem dX4_firstFree_2 : decode cX4_firstFree 2 = .ok (.iload_n 1, 1) := by decide +kernel
theorem dX4_firstFree_3 : decode cX4_firstFree 3 = .ok (.bipush 48, 2) := by decide +kernel
theorem dX4_firstFree_5 : decode cX4_firstFree 5 = .ok (.if_icmp .ge 17, 3) := by decide +kernel
theorem dX4_firstFree_8 : decode cX4_firstFree 8 = .ok (.aload_n 0, 1) := by decide +kernel
theorem dX4_firstFree_9 : decode cX4_firstFree 9 = .ok (.iload_n 1, 1) := by decide +kernel
theorem dX4_firstFree_10 : decode cX4_firstFree 10 = .ok (.invokevirtual 86, 3) := by decide +kernel
theorem dX4_firstFree_13 : decode cX4_firstFree 13 = .ok (.ifCond .ne 9, 3) := by decide +kernel
theorem dX4_firstFree_16 : decode cX4_firstFree 16 = .ok (.iinc 1 1, 3) := by decide +kernel
theorem dX4_firstFree_19 : decode cX4_firstFree 19 = .ok (.goto (-17), 3) := by decide +kernel
theorem dX4_firstFree_22 : decode cX4_firstFree 22 = .ok (.iload_n 1, 1) := by decide +kernel
theorem dX4_firstFree_23 : decode cX4_firstFree 23 = .ok (.bipush 48, 2) := by decide +kernel
theorem dX4_firstFree_25 : decode cX4_firstFree 25 = .ok (.if_icmp .ne 7, 3) := by decide +kernel
theorem dX4_firstFree_28 : decode cX4_firstFree 28 = .ok (.iconst (-1), 1) := by decide +kernel
theorem dX4_firstFree_29 : decode cX4_firstFree 29 = .ok (.goto 4, 3) := by decide +kernel
theorem dX4_firstFree_32 : decode cX4_firstFree 32 = .ok (.iload_n 1, 1) := by decide +kernel
theorem dX4_firstFree_33 : decode cX4_firstFree 33 = .ok (.ireturn, 1) := by decide +kernel
abbrev zm_X4_firstFree : zg_M := (RX4, cX4_firstFree, 2, (some .int), [])
theorem dX4_hold_0 : decode cX4_hold 0 = .ok (.aload_n 0, 1) := by decide +kernel
theorem dX4_hold_1 : decode cX4_hold 1 = .ok (.getfield 29, 3) := by decide +kernel
theorem dX4_hold_4 : decode cX4_hold 4 = .ok (.aload_n 0, 1) := by decide +kernel
theorem dX4_hold_5 : decode cX4_hold 5 = .ok (.getfield 54, 3) := by decide +kernel
theorem dX4_hold_8 : decode cX4_hold 8 = .ok (.iload_n 1, 1) := by decide +kernel
theorem dX4_hold_9 : decode cX4_hold 9 = .ok (.iastore, 1) := by decide +kernel
theorem dX4_hold_10 : decode cX4_hold 10 = .ok (.iconst 0, 1) := by decide +kernel
theorem dX4_hold_11 : decode cX4_hold 11 = .ok (.istore 4, 2) := by decide +kernel
theorem dX4_hold_13 : decode cX4_hold 13 = .ok (.iload 4, 2) := by decide +kernel
theorem dX4_hold_15 : decode cX4_hold 15 = .ok (.bipush 16, 2) := by decide +kernel
theorem dX4_hold_17 : decode cX4_hold 17 = .ok (.if_icmp .ge 30, 3) := by decide +kernel
theorem dX4_hold_20 : decode cX4_hold 20 = .ok (.aload_n 0, 1) := by decide +kernel
theorem dX4_hold_21 : decode cX4_hold 21 = .ok (.getfield 32, 3) := by decide +kernel
theorem dX4_hold_24 : decode cX4_hold 24 = .ok (.bipush 16, 2) := by decide +kernel
theorem dX4_hold_26 : decode cX4_hold 26 = .ok (.aload_n 0, 1) := by decide +kernel
theorem dX4_hold_27 : decode cX4_hold 27 = .ok (.getfield 54, 3) := by decide +kernel
theorem dX4_hold_30 : decode cX4_hold 30 = .ok (.imul, 1) := by decide +kernel
theorem dX4_hold_31 : decode cX4_hold 31 = .ok (.iload 4, 2) := by decide +kernel
theorem dX4_hold_33 : decode cX4_hold 33 = .ok (.iadd, 1) := by decide +kernel
theorem dX4_hold_34 : decode cX4_hold 34 = .ok (.aload_n 2, 1) := by decide +kernel
theorem dX4_hold_35 : decode cX4_hold 35 = .ok (.iload_n 3, 1) := by decide +kernel
theorem dX4_hold_36 : decode cX4_hold 36 = .ok (.iload 4, 2) := by decide +kernel
theorem dX4_hold_38 : decode cX4_hold 38 = .ok (.iadd, 1) := by decide +kernel
theorem dX4_hold_39 : decode cX4_hold 39 = .ok (.iaload, 1) := by decide +kernel
theorem dX4_hold_40 : decode cX4_hold 40 = .ok (.iastore, 1) := by decide +kernel
theorem dX4_hold_41 : decode cX4_hold 41 = .ok (.iinc 4 1, 3) := by decide +kernel
theorem dX4_hold_44 : decode cX4_hold 44 = .ok (.goto (-31), 3) := by decide +kernel
theorem dX4_hold_47 : decode cX4_hold 47 = .ok (.aload_n 0, 1) := by decide +kernel
theorem dX4_hold_48 : decode cX4_hold 48 = .ok (.dup, 1) := by decide +kernel
theorem dX4_hold_49 : decode cX4_hold 49 = .ok (.getfield 54, 3) := by decide +kernel
theorem dX4_hold_52 : decode cX4_hold 52 = .ok (.iconst 1, 1) := by decide +kernel
theorem dX4_hold_53 : decode cX4_hold 53 = .ok (.iadd, 1) := by decide +kernel
theorem dX4_hold_54 : decode cX4_hold 54 = .ok (.putfield 54, 3) := by decide +kernel
theorem dX4_hold_57 : decode cX4_hold 57 = .ok (.return_, 1) := by decide +kernel
abbrev zm_X4_hold : zg_M := (RX4, cX4_hold, 5, none, [])
theorem dX4_writes_0 : decode cX4_writes 0 = .ok (.iconst 0, 1) := by decide +kernel
theorem dX4_writes_1 : decode cX4_writes 1 = .ok (.istore_n 2, 1) := by decide +kernel
theorem dX4_writes_2 : decode cX4_writes 2 = .ok (.iload_n 2, 1) := by decide +kernel
theorem dX4_writes_3 : decode cX4_writes 3 = .ok (.bipush 16, 2) := by decide +kernel
theorem dX4_writes_5 : decode cX4_writes 5 = .ok (.if_icmp .ge 36, 3) := by decide +kernel
theorem dX4_writes_8 : decode cX4_writes 8 = .ok (.aload_n 0, 1) := by decide +kernel
theorem dX4_writes_9 : decode cX4_writes 9 = .ok (.getfield 7, 3) := by decide +kernel
theorem dX4_writes_12 : decode cX4_writes 12 = .ok (.bipush 16, 2) := by decide +kernel
theorem dX4_writes_14 : decode cX4_writes 14 = .ok (.aload_n 0, 1) := by decide +kernel
theorem dX4_writes_15 : decode cX4_writes 15 = .ok (.getfield 29, 3) := by decide +kernel
theorem dX4_writes_18 : decode cX4_writes 18 = .ok (.iload_n 1, 1) := by decide +kernel
theorem dX4_writes_19 : decode cX4_writes 19 = .ok (.iaload, 1) := by decide +kernel
theorem dX4_writes_20 : decode cX4_writes 20 = .ok (.imul, 1) := by decide +kernel
theorem dX4_writes_21 : decode cX4_writes 21 = .ok (.iload_n 2, 1) := by decide +kernel
theorem dX4_writes_22 : decode cX4_writes 22 = .ok (.iadd, 1) := by decide +kernel
theorem dX4_writes_23 : decode cX4_writes 23 = .ok (.aload_n 0, 1) := by decide +kernel
theorem dX4_writes_24 : decode cX4_writes 24 = .ok (.getfield 32, 3) := by decide +kernel
theorem dX4_writes_27 : decode cX4_writes 27 = .ok (.bipush 16, 2) := by decide +kernel
theorem dX4_writes_29 : decode cX4_writes 29 = .ok (.iload_n 1, 1) := by decide +kernel
theorem dX4_writes_30 : decode cX4_writes 30 = .ok (.imul, 1) := by decide +kernel
theorem dX4_writes_31 : decode cX4_writes 31 = .ok (.iload_n 2, 1) := by decide +kernel
theorem dX4_writes_32 : decode cX4_writes 32 = .ok (.iadd, 1) := by decide +kernel
theorem dX4_writes_33 : decode cX4_writes 33 = .ok (.iaload, 1) := by decide +kernel
theorem dX4_writes_34 : decode cX4_writes 34 = .ok (.iastore, 1) := by decide +kernel
theorem dX4_writes_35 : decode cX4_writes 35 = .ok (.iinc 2 1, 3) := by decide +kernel
theorem dX4_writes_38 : decode cX4_writes 38 = .ok (.goto (-36), 3) := by decide +kernel
theorem dX4_writes_41 : decode cX4_writes 41 = .ok (.return_, 1) := by decide +kernel
abbrev zm_X4_writes : zg_M := (RX4, cX4_writes, 3, none, [])
theorem dX4_flushed_0 : decode cX4_flushed 0 = .ok (.aload_n 0, 1) := by decide +kernel
theorem dX4_flushed_1 : decode cX4_flushed 1 = .ok (.getfield 54, 3) := by decide +kernel
theorem dX4_flushed_4 : decode cX4_flushed 4 = .ok (.istore_n 1, 1) := by decide +kernel
theorem dX4_flushed_5 : decode cX4_flushed 5 = .ok (.iconst 0, 1) := by decide +kernel
theorem dX4_flushed_6 : decode cX4_flushed 6 = .ok (.istore_n 2, 1) := by decide +kernel
theorem dX4_flushed_7 : decode cX4_flushed 7 = .ok (.iload_n 2, 1) := by decide +kernel
theorem dX4_flushed_8 : decode cX4_flushed 8 = .ok (.iload_n 1, 1) := by decide +kernel
theorem dX4_flushed_9 : decode cX4_flushed 9 = .ok (.if_icmp .ge 14, 3) := by decide +kernel
theorem dX4_flushed_12 : decode cX4_flushed 12 = .ok (.aload_n 0, 1) := by decide +kernel
theorem dX4_flushed_13 : decode cX4_flushed 13 = .ok (.iload_n 2, 1) := by decide +kernel
theorem dX4_flushed_14 : decode cX4_flushed 14 = .ok (.invokevirtual 90, 3) := by decide +kernel
theorem dX4_flushed_17 : decode cX4_flushed 17 = .ok (.iinc 2 1, 3) := by decide +kernel
theorem dX4_flushed_20 : decode cX4_flushed 20 = .ok (.goto (-13), 3) := by decide +kernel
theorem dX4_flushed_23 : decode cX4_flushed 23 = .ok (.aload_n 0, 1) := by decide +kernel
theorem dX4_flushed_24 : decode cX4_flushed 24 = .ok (.iconst 0, 1) := by decide +kernel
theorem dX4_flushed_25 : decode cX4_flushed 25 = .ok (.putfield 54, 3) := by decide +kernel
theorem dX4_flushed_28 : decode cX4_flushed 28 = .ok (.aload_n 0, 1) := by decide +kernel
theorem dX4_flushed_29 : decode cX4_flushed 29 = .ok (.getfield 57, 3) := by decide +kernel
theorem dX4_flushed_32 : decode cX4_flushed 32 = .ok (.ifCond .eq 7, 3) := by decide +kernel
theorem dX4_flushed_35 : decode cX4_flushed 35 = .ok (.aload_n 0, 1) := by decide +kernel
theorem dX4_flushed_36 : decode cX4_flushed 36 = .ok (.invokevirtual 77, 3) := by decide +kernel
theorem dX4_flushed_39 : decode cX4_flushed 39 = .ok (.iload_n 1, 1) := by decide +kernel
theorem dX4_flushed_40 : decode cX4_flushed 40 = .ok (.ireturn, 1) := by decide +kernel
abbrev zm_X4_flushed : zg_M := (RX4, cX4_flushed, 3, (some .int), [])
theorem dX4_byteAt_0 : decode cX4_byteAt 0 = .ok (.aload_n 0, 1) := by decide +kernel
theorem dX4_byteAt_1 : decode cX4_byteAt 1 = .ok (.getfield 61, 3) := by decide +kernel
theorem dX4_byteAt_4 : decode cX4_byteAt 4 = .ok (.ifCond .eq 28, 3) := by decide +kernel
theorem dX4_byteAt_7 : decode cX4_byteAt 7 = .ok (.iload_n 3, 1) := by decide +kernel
theorem dX4_byteAt_8 : decode cX4_byteAt 8 = .ok (.ifCond .ne 24, 3) := by decide +kernel
theorem dX4_byteAt_11 : decode cX4_byteAt 11 = .ok (.aload_n 0, 1) := by decide +kernel
theorem dX4_byteAt_12 : decode cX4_byteAt 12 = .ok (.getfield 19, 3) := by decide +kernel
theorem dX4_byteAt_15 : decode cX4_byteAt 15 = .ok (.iload_n 1, 1) := by decide +kernel
theorem dX4_byteAt_16 : decode cX4_byteAt 16 = .ok (.iaload, 1) := by decide +kernel
theorem dX4_byteAt_17 : decode cX4_byteAt 17 = .ok (.ifCond .le 15, 3) := by decide +kernel
theorem dX4_byteAt_20 : decode cX4_byteAt 20 = .ok (.aload_n 0, 1) := by decide +kernel
theorem dX4_byteAt_21 : decode cX4_byteAt 21 = .ok (.getfield 26, 3) := by decide +kernel
theorem dX4_byteAt_24 : decode cX4_byteAt 24 = .ok (.bipush 16, 2) := by decide +kernel
theorem dX4_byteAt_26 : decode cX4_byteAt 26 = .ok (.iload_n 1, 1) := by decide +kernel
theorem dX4_byteAt_27 : decode cX4_byteAt 27 = .ok (.imul, 1) := by decide +kernel
theorem dX4_byteAt_28 : decode cX4_byteAt 28 = .ok (.iload_n 2, 1) := by decide +kernel
theorem dX4_byteAt_29 : decode cX4_byteAt 29 = .ok (.iadd, 1) := by decide +kernel
theorem dX4_byteAt_30 : decode cX4_byteAt 30 = .ok (.iaload, 1) := by decide +kernel
theorem dX4_byteAt_31 : decode cX4_byteAt 31 = .ok (.ireturn, 1) := by decide +kernel
theorem dX4_byteAt_32 : decode cX4_byteAt 32 = .ok (.aload_n 0, 1) := by decide +kernel
theorem dX4_byteAt_33 : decode cX4_byteAt 33 = .ok (.getfield 13, 3) := by decide +kernel
theorem dX4_byteAt_36 : decode cX4_byteAt 36 = .ok (.iload_n 1, 1) := by decide +kernel
theorem dX4_byteAt_37 : decode cX4_byteAt 37 = .ok (.iaload, 1) := by decide +kernel
theorem dX4_byteAt_38 : decode cX4_byteAt 38 = .ok (.ifCond .ne 7, 3) := by decide +kernel
theorem dX4_byteAt_41 : decode cX4_byteAt 41 = .ok (.iconst 0, 1) := by decide +kernel
theorem dX4_byteAt_42 : decode cX4_byteAt 42 = .ok (.goto 19, 3) := by decide +kernel
theorem dX4_byteAt_45 : decode cX4_byteAt 45 = .ok (.aload_n 0, 1) := by decide +kernel
theorem dX4_byteAt_46 : decode cX4_byteAt 46 = .ok (.getfield 7, 3) := by decide +kernel
theorem dX4_byteAt_49 : decode cX4_byteAt 49 = .ok (.bipush 16, 2) := by decide +kernel
theorem dX4_byteAt_51 : decode cX4_byteAt 51 = .ok (.aload_n 0, 1) := by decide +kernel
theorem dX4_byteAt_52 : decode cX4_byteAt 52 = .ok (.getfield 13, 3) := by decide +kernel
theorem dX4_byteAt_55 : decode cX4_byteAt 55 = .ok (.iload_n 1, 1) := by decide +kernel
theorem dX4_byteAt_56 : decode cX4_byteAt 56 = .ok (.iaload, 1) := by decide +kernel
theorem dX4_byteAt_57 : decode cX4_byteAt 57 = .ok (.imul, 1) := by decide +kernel
theorem dX4_byteAt_58 : decode cX4_byteAt 58 = .ok (.iload_n 2, 1) := by decide +kernel
theorem dX4_byteAt_59 : decode cX4_byteAt 59 = .ok (.iadd, 1) := by decide +kernel
theorem dX4_byteAt_60 : decode cX4_byteAt 60 = .ok (.iaload, 1) := by decide +kernel
theorem dX4_byteAt_61 : decode cX4_byteAt 61 = .ok (.ireturn, 1) := by decide +kernel
abbrev zm_X4_byteAt : zg_M := (RX4, cX4_byteAt, 4, (some .int), [])
theorem dX4_changes_0 : decode cX4_changes 0 = .ok (.aload_n 0, 1) := by decide +kernel
theorem dX4_changes_1 : decode cX4_changes 1 = .ok (.getfield 61, 3) := by decide +kernel
theorem dX4_changes_4 : decode cX4_changes 4 = .ok (.ifCond .eq 21, 3) := by decide +kernel
theorem dX4_changes_7 : decode cX4_changes 7 = .ok (.aload_n 0, 1) := by decide +kernel
theorem dX4_changes_8 : decode cX4_changes 8 = .ok (.getfield 19, 3) := by decide +kernel
theorem dX4_changes_11 : decode cX4_changes 11 = .ok (.iload_n 1, 1) := by decide +kernel
theorem dX4_changes_12 : decode cX4_changes 12 = .ok (.iaload, 1) := by decide +kernel
theorem dX4_changes_13 : decode cX4_changes 13 = .ok (.ifCond .le 12, 3) := by decide +kernel
theorem dX4_changes_16 : decode cX4_changes 16 = .ok (.aload_n 0, 1) := by decide +kernel
theorem dX4_changes_17 : decode cX4_changes 17 = .ok (.getfield 22, 3) := by decide +kernel
theorem dX4_changes_20 : decode cX4_changes 20 = .ok (.iload_n 1, 1) := by decide +kernel
theorem dX4_changes_21 : decode cX4_changes 21 = .ok (.iconst 0, 1) := by decide +kernel
theorem dX4_changes_22 : decode cX4_changes 22 = .ok (.bastore, 1) := by decide +kernel
theorem dX4_changes_23 : decode cX4_changes 23 = .ok (.iconst 1, 1) := by decide +kernel
theorem dX4_changes_24 : decode cX4_changes 24 = .ok (.ireturn, 1) := by decide +kernel
theorem dX4_changes_25 : decode cX4_changes 25 = .ok (.aload_n 0, 1) := by decide +kernel
theorem dX4_changes_26 : decode cX4_changes 26 = .ok (.invokevirtual 94, 3) := by decide +kernel
theorem dX4_changes_29 : decode cX4_changes 29 = .ok (.istore_n 2, 1) := by decide +kernel
theorem dX4_changes_30 : decode cX4_changes 30 = .ok (.iload_n 2, 1) := by decide +kernel
theorem dX4_changes_31 : decode cX4_changes 31 = .ok (.iconst (-1), 1) := by decide +kernel
theorem dX4_changes_32 : decode cX4_changes 32 = .ok (.if_icmp .ne 5, 3) := by decide +kernel
theorem dX4_changes_35 : decode cX4_changes 35 = .ok (.iconst 0, 1) := by decide +kernel
theorem dX4_changes_36 : decode cX4_changes 36 = .ok (.ireturn, 1) := by decide +kernel
theorem dX4_changes_37 : decode cX4_changes 37 = .ok (.aload_n 0, 1) := by decide +kernel
theorem dX4_changes_38 : decode cX4_changes 38 = .ok (.getfield 61, 3) := by decide +kernel
theorem dX4_changes_41 : decode cX4_changes 41 = .ok (.ifCond .ne 29, 3) := by decide +kernel
theorem dX4_changes_44 : decode cX4_changes 44 = .ok (.iconst 0, 1) := by decide +kernel
theorem dX4_changes_45 : decode cX4_changes 45 = .ok (.istore_n 3, 1) := by decide +kernel
theorem dX4_changes_46 : decode cX4_changes 46 = .ok (.iload_n 3, 1) := by decide +kernel
theorem dX4_changes_47 : decode cX4_changes 47 = .ok (.bipush 16, 2) := by decide +kernel
theorem dX4_changes_49 : decode cX4_changes 49 = .ok (.if_icmp .ge 16, 3) := by decide +kernel
theorem dX4_changes_52 : decode cX4_changes 52 = .ok (.aload_n 0, 1) := by decide +kernel
theorem dX4_changes_53 : decode cX4_changes 53 = .ok (.getfield 19, 3) := by decide +kernel
theorem dX4_changes_56 : decode cX4_changes 56 = .ok (.iload_n 3, 1) := by decide +kernel
theorem dX4_changes_57 : decode cX4_changes 57 = .ok (.iconst 0, 1) := by decide +kernel
theorem dX4_changes_58 : decode cX4_changes 58 = .ok (.iastore, 1) := by decide +kernel
theorem dX4_changes_59 : decode cX4_changes 59 = .ok (.iinc 3 1, 3) := by decide +kernel
theorem dX4_changes_62 : decode cX4_changes 62 = .ok (.goto (-16), 3) := by decide +kernel
theorem dX4_changes_65 : decode cX4_changes 65 = .ok (.aload_n 0, 1) := by decide +kernel
theorem dX4_changes_66 : decode cX4_changes 66 = .ok (.iconst 1, 1) := by decide +kernel
theorem dX4_changes_67 : decode cX4_changes 67 = .ok (.putfield 61, 3) := by decide +kernel
theorem dX4_changes_70 : decode cX4_changes 70 = .ok (.iconst 0, 1) := by decide +kernel
theorem dX4_changes_71 : decode cX4_changes 71 = .ok (.istore_n 3, 1) := by decide +kernel
theorem dX4_changes_72 : decode cX4_changes 72 = .ok (.iload_n 3, 1) := by decide +kernel
theorem dX4_changes_73 : decode cX4_changes 73 = .ok (.bipush 16, 2) := by decide +kernel
theorem dX4_changes_75 : decode cX4_changes 75 = .ok (.if_icmp .ge 27, 3) := by decide +kernel
theorem dX4_changes_78 : decode cX4_changes 78 = .ok (.aload_n 0, 1) := by decide +kernel
theorem dX4_changes_79 : decode cX4_changes 79 = .ok (.getfield 26, 3) := by decide +kernel
theorem dX4_changes_82 : decode cX4_changes 82 = .ok (.bipush 16, 2) := by decide +kernel
theorem dX4_changes_84 : decode cX4_changes 84 = .ok (.iload_n 1, 1) := by decide +kernel
theorem dX4_changes_85 : decode cX4_changes 85 = .ok (.imul, 1) := by decide +kernel
theorem dX4_changes_86 : decode cX4_changes 86 = .ok (.iload_n 3, 1) := by decide +kernel
theorem dX4_changes_87 : decode cX4_changes 87 = .ok (.iadd, 1) := by decide +kernel
theorem dX4_changes_88 : decode cX4_changes 88 = .ok (.aload_n 0, 1) := by decide +kernel
theorem dX4_changes_89 : decode cX4_changes 89 = .ok (.iload_n 1, 1) := by decide +kernel
theorem dX4_changes_90 : decode cX4_changes 90 = .ok (.iload_n 3, 1) := by decide +kernel
theorem dX4_changes_91 : decode cX4_changes 91 = .ok (.iconst 1, 1) := by decide +kernel
theorem dX4_changes_92 : decode cX4_changes 92 = .ok (.invokevirtual 98, 3) := by decide +kernel
theorem dX4_changes_95 : decode cX4_changes 95 = .ok (.iastore, 1) := by decide +kernel
theorem dX4_changes_96 : decode cX4_changes 96 = .ok (.iinc 3 1, 3) := by decide +kernel
theorem dX4_changes_99 : decode cX4_changes 99 = .ok (.goto (-27), 3) := by decide +kernel
theorem dX4_changes_102 : decode cX4_changes 102 = .ok (.aload_n 0, 1) := by decide +kernel
theorem dX4_changes_103 : decode cX4_changes 103 = .ok (.getfield 19, 3) := by decide +kernel
theorem dX4_changes_106 : decode cX4_changes 106 = .ok (.iload_n 1, 1) := by decide +kernel
theorem dX4_changes_107 : decode cX4_changes 107 = .ok (.iload_n 2, 1) := by decide +kernel
theorem dX4_changes_108 : decode cX4_changes 108 = .ok (.iastore, 1) := by decide +kernel
theorem dX4_changes_109 : decode cX4_changes 109 = .ok (.aload_n 0, 1) := by decide +kernel
theorem dX4_changes_110 : decode cX4_changes 110 = .ok (.getfield 22, 3) := by decide +kernel
theorem dX4_changes_113 : decode cX4_changes 113 = .ok (.iload_n 1, 1) := by decide +kernel
theorem dX4_changes_114 : decode cX4_changes 114 = .ok (.iconst 0, 1) := by decide +kernel
theorem dX4_changes_115 : decode cX4_changes 115 = .ok (.bastore, 1) := by decide +kernel
theorem dX4_changes_116 : decode cX4_changes 116 = .ok (.iconst 1, 1) := by decide +kernel
theorem dX4_changes_117 : decode cX4_changes 117 = .ok (.ireturn, 1) := by decide +kernel
abbrev zm_X4_changes : zg_M := (RX4, cX4_changes, 4, (some .boolean), [])
theorem dX4_changed_0 : decode cX4_changed 0 = .ok (.iconst 0, 1) := by decide +kernel
theorem dX4_changed_1 : decode cX4_changed 1 = .ok (.istore_n 1, 1) := by decide +kernel
theorem dX4_changed_2 : decode cX4_changed 2 = .ok (.iconst 0, 1) := by decide +kernel
theorem dX4_changed_3 : decode cX4_changed 3 = .ok (.istore_n 2, 1) := by decide +kernel
theorem dX4_changed_4 : decode cX4_changed 4 = .ok (.iload_n 2, 1) := by decide +kernel
theorem dX4_changed_5 : decode cX4_changed 5 = .ok (.bipush 16, 2) := by decide +kernel
theorem dX4_changed_7 : decode cX4_changed 7 = .ok (.if_icmp .ge 26, 3) := by decide +kernel
theorem dX4_changed_10 : decode cX4_changed 10 = .ok (.iload_n 1, 1) := by decide +kernel
theorem dX4_changed_11 : decode cX4_changed 11 = .ok (.aload_n 0, 1) := by decide +kernel
theorem dX4_changed_12 : decode cX4_changed 12 = .ok (.getfield 19, 3) := by decide +kernel
theorem dX4_changed_15 : decode cX4_changed 15 = .ok (.iload_n 2, 1) := by decide +kernel
theorem dX4_changed_16 : decode cX4_changed 16 = .ok (.iaload, 1) := by decide +kernel
theorem dX4_changed_17 : decode cX4_changed 17 = .ok (.ifCond .le 7, 3) := by decide +kernel
theorem dX4_changed_20 : decode cX4_changed 20 = .ok (.iconst 1, 1) := by decide +kernel
theorem dX4_changed_21 : decode cX4_changed 21 = .ok (.goto 4, 3) := by decide +kernel
theorem dX4_changed_24 : decode cX4_changed 24 = .ok (.iconst 0, 1) := by decide +kernel
theorem dX4_changed_25 : decode cX4_changed 25 = .ok (.iadd, 1) := by decide +kernel
theorem dX4_changed_26 : decode cX4_changed 26 = .ok (.istore_n 1, 1) := by decide +kernel
theorem dX4_changed_27 : decode cX4_changed 27 = .ok (.iinc 2 1, 3) := by decide +kernel
theorem dX4_changed_30 : decode cX4_changed 30 = .ok (.goto (-26), 3) := by decide +kernel
theorem dX4_changed_33 : decode cX4_changed 33 = .ok (.iload_n 1, 1) := by decide +kernel
theorem dX4_changed_34 : decode cX4_changed 34 = .ok (.ireturn, 1) := by decide +kernel
abbrev zm_X4_changed : zg_M := (RX4, cX4_changed, 3, (some .int), [])
theorem dX4_format_0 : decode cX4_format 0 = .ok (.aload_n 0, 1) := by decide +kernel
theorem dX4_format_1 : decode cX4_format 1 = .ok (.iconst 0, 1) := by decide +kernel
theorem dX4_format_2 : decode cX4_format 2 = .ok (.putfield 38, 3) := by decide +kernel
theorem dX4_format_5 : decode cX4_format 5 = .ok (.aload_n 0, 1) := by decide +kernel
theorem dX4_format_6 : decode cX4_format 6 = .ok (.invokevirtual 35, 3) := by decide +kernel
theorem dX4_format_9 : decode cX4_format 9 = .ok (.return_, 1) := by decide +kernel
abbrev zm_X4_format : zg_M := (RX4, cX4_format, 1, none, [])
theorem dX4_write_0 : decode cX4_write 0 = .ok (.aload_n 0, 1) := by decide +kernel
theorem dX4_write_1 : decode cX4_write 1 = .ok (.iload_n 1, 1) := by decide +kernel
theorem dX4_write_2 : decode cX4_write 2 = .ok (.iconst 0, 1) := by decide +kernel
theorem dX4_write_3 : decode cX4_write 3 = .ok (.bipush 15, 2) := by decide +kernel
theorem dX4_write_5 : decode cX4_write 5 = .ok (.invokestatic 67, 3) := by decide +kernel
theorem dX4_write_8 : decode cX4_write 8 = .ok (.ifCond .eq 24, 3) := by decide +kernel
theorem dX4_write_11 : decode cX4_write 11 = .ok (.iload_n 2, 1) := by decide +kernel
theorem dX4_write_12 : decode cX4_write 12 = .ok (.iconst 0, 1) := by decide +kernel
theorem dX4_write_13 : decode cX4_write 13 = .ok (.bipush 15, 2) := by decide +kernel
theorem dX4_write_15 : decode cX4_write 15 = .ok (.invokestatic 67, 3) := by decide +kernel
theorem dX4_write_18 : decode cX4_write 18 = .ok (.ifCond .eq 14, 3) := by decide +kernel
theorem dX4_write_21 : decode cX4_write 21 = .ok (.iload_n 3, 1) := by decide +kernel
theorem dX4_write_22 : decode cX4_write 22 = .ok (.iconst 0, 1) := by decide +kernel
theorem dX4_write_23 : decode cX4_write 23 = .ok (.sipush 255, 3) := by decide +kernel
theorem dX4_write_26 : decode cX4_write 26 = .ok (.invokestatic 67, 3) := by decide +kernel
theorem dX4_write_29 : decode cX4_write 29 = .ok (.ifCond .ne 7, 3) := by decide +kernel
theorem dX4_write_32 : decode cX4_write 32 = .ok (.iconst 1, 1) := by decide +kernel
theorem dX4_write_33 : decode cX4_write 33 = .ok (.goto 4, 3) := by decide +kernel
theorem dX4_write_36 : decode cX4_write 36 = .ok (.iconst 0, 1) := by decide +kernel
theorem dX4_write_37 : decode cX4_write 37 = .ok (.iconst 1, 1) := by decide +kernel
theorem dX4_write_38 : decode cX4_write 38 = .ok (.invokevirtual 102, 3) := by decide +kernel
theorem dX4_write_41 : decode cX4_write 41 = .ok (.ifCond .ne 31, 3) := by decide +kernel
theorem dX4_write_44 : decode cX4_write 44 = .ok (.aload_n 0, 1) := by decide +kernel
theorem dX4_write_45 : decode cX4_write 45 = .ok (.aload_n 0, 1) := by decide +kernel
theorem dX4_write_46 : decode cX4_write 46 = .ok (.getfield 64, 3) := by decide +kernel
theorem dX4_write_49 : decode cX4_write 49 = .ok (.ifCond .ne 11, 3) := by decide +kernel
theorem dX4_write_52 : decode cX4_write 52 = .ok (.aload_n 0, 1) := by decide +kernel
theorem dX4_write_53 : decode cX4_write 53 = .ok (.iload_n 1, 1) := by decide +kernel
theorem dX4_write_54 : decode cX4_write 54 = .ok (.invokevirtual 106, 3) := by decide +kernel
theorem dX4_write_57 : decode cX4_write 57 = .ok (.ifCond .ne 7, 3) := by decide +kernel
theorem dX4_write_60 : decode cX4_write 60 = .ok (.iconst 1, 1) := by decide +kernel
theorem dX4_write_61 : decode cX4_write 61 = .ok (.goto 4, 3) := by decide +kernel
theorem dX4_write_64 : decode cX4_write 64 = .ok (.iconst 0, 1) := by decide +kernel
theorem dX4_write_65 : decode cX4_write 65 = .ok (.iconst 2, 1) := by decide +kernel
theorem dX4_write_66 : decode cX4_write 66 = .ok (.invokevirtual 102, 3) := by decide +kernel
theorem dX4_write_69 : decode cX4_write 69 = .ok (.ifCond .eq 5, 3) := by decide +kernel
theorem dX4_write_72 : decode cX4_write 72 = .ok (.iconst 0, 1) := by decide +kernel
theorem dX4_write_73 : decode cX4_write 73 = .ok (.ireturn, 1) := by decide +kernel
theorem dX4_write_74 : decode cX4_write 74 = .ok (.aload_n 0, 1) := by decide +kernel
theorem dX4_write_75 : decode cX4_write 75 = .ok (.getfield 26, 3) := by decide +kernel
theorem dX4_write_78 : decode cX4_write 78 = .ok (.bipush 16, 2) := by decide +kernel
theorem dX4_write_80 : decode cX4_write 80 = .ok (.iload_n 1, 1) := by decide +kernel
theorem dX4_write_81 : decode cX4_write 81 = .ok (.imul, 1) := by decide +kernel
theorem dX4_write_82 : decode cX4_write 82 = .ok (.iload_n 2, 1) := by decide +kernel
theorem dX4_write_83 : decode cX4_write 83 = .ok (.iadd, 1) := by decide +kernel
theorem dX4_write_84 : decode cX4_write 84 = .ok (.iaload, 1) := by decide +kernel
theorem dX4_write_85 : decode cX4_write 85 = .ok (.istore 4, 2) := by decide +kernel
theorem dX4_write_87 : decode cX4_write 87 = .ok (.aload_n 0, 1) := by decide +kernel
theorem dX4_write_88 : decode cX4_write 88 = .ok (.getfield 26, 3) := by decide +kernel
theorem dX4_write_91 : decode cX4_write 91 = .ok (.bipush 16, 2) := by decide +kernel
theorem dX4_write_93 : decode cX4_write 93 = .ok (.iload_n 1, 1) := by decide +kernel
theorem dX4_write_94 : decode cX4_write 94 = .ok (.imul, 1) := by decide +kernel
theorem dX4_write_95 : decode cX4_write 95 = .ok (.iload_n 2, 1) := by decide +kernel
theorem dX4_write_96 : decode cX4_write 96 = .ok (.iadd, 1) := by decide +kernel
theorem dX4_write_97 : decode cX4_write 97 = .ok (.iload_n 3, 1) := by decide +kernel
theorem dX4_write_98 : decode cX4_write 98 = .ok (.iastore, 1) := by decide +kernel
theorem dX4_write_99 : decode cX4_write 99 = .ok (.iload 4, 2) := by decide +kernel
theorem dX4_write_101 : decode cX4_write 101 = .ok (.ireturn, 1) := by decide +kernel
abbrev zm_X4_write : zg_M := (RX4, cX4_write, 5, (some .int), [])
theorem dX4_fill_0 : decode cX4_fill 0 = .ok (.aload_n 0, 1) := by decide +kernel
theorem dX4_fill_1 : decode cX4_fill 1 = .ok (.iload_n 1, 1) := by decide +kernel
theorem dX4_fill_2 : decode cX4_fill 2 = .ok (.iconst 0, 1) := by decide +kernel
theorem dX4_fill_3 : decode cX4_fill 3 = .ok (.bipush 15, 2) := by decide +kernel
theorem dX4_fill_5 : decode cX4_fill 5 = .ok (.invokestatic 67, 3) := by decide +kernel
theorem dX4_fill_8 : decode cX4_fill 8 = .ok (.ifCond .ne 7, 3) := by decide +kernel
theorem dX4_fill_11 : decode cX4_fill 11 = .ok (.iconst 1, 1) := by decide +kernel
theorem dX4_fill_12 : decode cX4_fill 12 = .ok (.goto 4, 3) := by decide +kernel
theorem dX4_fill_15 : decode cX4_fill 15 = .ok (.iconst 0, 1) := by decide +kernel
theorem dX4_fill_16 : decode cX4_fill 16 = .ok (.iconst 1, 1) := by decide +kernel
theorem dX4_fill_17 : decode cX4_fill 17 = .ok (.invokevirtual 102, 3) := by decide +kernel
theorem dX4_fill_20 : decode cX4_fill 20 = .ok (.ifCond .ne 31, 3) := by decide +kernel
theorem dX4_fill_23 : decode cX4_fill 23 = .ok (.aload_n 0, 1) := by decide +kernel
theorem dX4_fill_24 : decode cX4_fill 24 = .ok (.aload_n 0, 1) := by decide +kernel
theorem dX4_fill_25 : decode cX4_fill 25 = .ok (.getfield 64, 3) := by decide +kernel
theorem dX4_fill_28 : decode cX4_fill 28 = .ok (.ifCond .ne 11, 3) := by decide +kernel
theorem dX4_fill_31 : decode cX4_fill 31 = .ok (.aload_n 0, 1) := by decide +kernel
theorem dX4_fill_32 : decode cX4_fill 32 = .ok (.iload_n 1, 1) := by decide +kernel
theorem dX4_fill_33 : decode cX4_fill 33 = .ok (.invokevirtual 106, 3) := by decide +kernel
theorem dX4_fill_36 : decode cX4_fill 36 = .ok (.ifCond .ne 7, 3) := by decide +kernel
theorem dX4_fill_39 : decode cX4_fill 39 = .ok (.iconst 1, 1) := by decide +kernel
theorem dX4_fill_40 : decode cX4_fill 40 = .ok (.goto 4, 3) := by decide +kernel
theorem dX4_fill_43 : decode cX4_fill 43 = .ok (.iconst 0, 1) := by decide +kernel
theorem dX4_fill_44 : decode cX4_fill 44 = .ok (.iconst 2, 1) := by decide +kernel
theorem dX4_fill_45 : decode cX4_fill 45 = .ok (.invokevirtual 102, 3) := by decide +kernel
theorem dX4_fill_48 : decode cX4_fill 48 = .ok (.ifCond .eq 5, 3) := by decide +kernel
theorem dX4_fill_51 : decode cX4_fill 51 = .ok (.iconst 0, 1) := by decide +kernel
theorem dX4_fill_52 : decode cX4_fill 52 = .ok (.ireturn, 1) := by decide +kernel
theorem dX4_fill_53 : decode cX4_fill 53 = .ok (.iconst 0, 1) := by decide +kernel
theorem dX4_fill_54 : decode cX4_fill 54 = .ok (.istore 6, 2) := by decide +kernel
theorem dX4_fill_56 : decode cX4_fill 56 = .ok (.iload 6, 2) := by decide +kernel
theorem dX4_fill_58 : decode cX4_fill 58 = .ok (.bipush 16, 2) := by decide +kernel
theorem dX4_fill_60 : decode cX4_fill 60 = .ok (.if_icmp .ge 48, 3) := by decide +kernel
theorem dX4_fill_63 : decode cX4_fill 63 = .ok (.aload_n 0, 1) := by decide +kernel
theorem dX4_fill_64 : decode cX4_fill 64 = .ok (.getfield 26, 3) := by decide +kernel
theorem dX4_fill_67 : decode cX4_fill 67 = .ok (.bipush 16, 2) := by decide +kernel
theorem dX4_fill_69 : decode cX4_fill 69 = .ok (.iload_n 1, 1) := by decide +kernel
theorem dX4_fill_70 : decode cX4_fill 70 = .ok (.imul, 1) := by decide +kernel
theorem dX4_fill_71 : decode cX4_fill 71 = .ok (.iload 6, 2) := by decide +kernel
theorem dX4_fill_73 : decode cX4_fill 73 = .ok (.iadd, 1) := by decide +kernel
theorem dX4_fill_74 : decode cX4_fill 74 = .ok (.iload 6, 2) := by decide +kernel
theorem dX4_fill_76 : decode cX4_fill 76 = .ok (.bipush 8, 2) := by decide +kernel
theorem dX4_fill_78 : decode cX4_fill 78 = .ok (.if_icmp .ge 7, 3) := by decide +kernel
theorem dX4_fill_81 : decode cX4_fill 81 = .ok (.lload_n 2, 1) := by decide +kernel
theorem dX4_fill_82 : decode cX4_fill 82 = .ok (.goto 5, 3) := by decide +kernel
theorem dX4_fill_85 : decode cX4_fill 85 = .ok (.lload 4, 2) := by decide +kernel
theorem dX4_fill_87 : decode cX4_fill 87 = .ok (.bipush 8, 2) := by decide +kernel
theorem dX4_fill_89 : decode cX4_fill 89 = .ok (.iload 6, 2) := by decide +kernel
theorem dX4_fill_91 : decode cX4_fill 91 = .ok (.bipush 8, 2) := by decide +kernel
theorem dX4_fill_93 : decode cX4_fill 93 = .ok (.irem, 1) := by decide +kernel
theorem dX4_fill_94 : decode cX4_fill 94 = .ok (.imul, 1) := by decide +kernel
theorem dX4_fill_95 : decode cX4_fill 95 = .ok (.lshr, 1) := by decide +kernel
theorem dX4_fill_96 : decode cX4_fill 96 = .ok (.ldc2_w 109, 3) := by decide +kernel
theorem dX4_fill_99 : decode cX4_fill 99 = .ok (.land, 1) := by decide +kernel
theorem dX4_fill_100 : decode cX4_fill 100 = .ok (.l2i, 1) := by decide +kernel
theorem dX4_fill_101 : decode cX4_fill 101 = .ok (.iastore, 1) := by decide +kernel
theorem dX4_fill_102 : decode cX4_fill 102 = .ok (.iinc 6 1, 3) := by decide +kernel
theorem dX4_fill_105 : decode cX4_fill 105 = .ok (.goto (-49), 3) := by decide +kernel
theorem dX4_fill_108 : decode cX4_fill 108 = .ok (.aload_n 0, 1) := by decide +kernel
theorem dX4_fill_109 : decode cX4_fill 109 = .ok (.invokevirtual 111, 3) := by decide +kernel
theorem dX4_fill_112 : decode cX4_fill 112 = .ok (.ireturn, 1) := by decide +kernel
abbrev zm_X4_fill : zg_M := (RX4, cX4_fill, 7, (some .int), [])
theorem dX4_read_0 : decode cX4_read 0 = .ok (.aload_n 0, 1) := by decide +kernel
theorem dX4_read_1 : decode cX4_read 1 = .ok (.iload_n 1, 1) := by decide +kernel
theorem dX4_read_2 : decode cX4_read 2 = .ok (.iconst 0, 1) := by decide +kernel
theorem dX4_read_3 : decode cX4_read 3 = .ok (.bipush 15, 2) := by decide +kernel
theorem dX4_read_5 : decode cX4_read 5 = .ok (.invokestatic 67, 3) := by decide +kernel
theorem dX4_read_8 : decode cX4_read 8 = .ok (.ifCond .eq 13, 3) := by decide +kernel
theorem dX4_read_11 : decode cX4_read 11 = .ok (.iload_n 2, 1) := by decide +kernel
theorem dX4_read_12 : decode cX4_read 12 = .ok (.iconst 0, 1) := by decide +kernel
theorem dX4_read_13 : decode cX4_read 13 = .ok (.bipush 15, 2) := by decide +kernel
theorem dX4_read_15 : decode cX4_read 15 = .ok (.invokestatic 67, 3) := by decide +kernel
theorem dX4_read_18 : decode cX4_read 18 = .ok (.ifCond .ne 7, 3) := by decide +kernel
theorem dX4_read_21 : decode cX4_read 21 = .ok (.iconst 1, 1) := by decide +kernel
theorem dX4_read_22 : decode cX4_read 22 = .ok (.goto 4, 3) := by decide +kernel
theorem dX4_read_25 : decode cX4_read 25 = .ok (.iconst 0, 1) := by decide +kernel
theorem dX4_read_26 : decode cX4_read 26 = .ok (.iconst 1, 1) := by decide +kernel
theorem dX4_read_27 : decode cX4_read 27 = .ok (.invokevirtual 102, 3) := by decide +kernel
theorem dX4_read_30 : decode cX4_read 30 = .ok (.ifCond .ne 15, 3) := by decide +kernel
theorem dX4_read_33 : decode cX4_read 33 = .ok (.aload_n 0, 1) := by decide +kernel
theorem dX4_read_34 : decode cX4_read 34 = .ok (.aload_n 0, 1) := by decide +kernel
theorem dX4_read_35 : decode cX4_read 35 = .ok (.getfield 64, 3) := by decide +kernel
theorem dX4_read_38 : decode cX4_read 38 = .ok (.iconst 2, 1) := by decide +kernel
theorem dX4_read_39 : decode cX4_read 39 = .ok (.invokevirtual 102, 3) := by decide +kernel
theorem dX4_read_42 : decode cX4_read 42 = .ok (.ifCond .eq 5, 3) := by decide +kernel
theorem dX4_read_45 : decode cX4_read 45 = .ok (.iconst 0, 1) := by decide +kernel
theorem dX4_read_46 : decode cX4_read 46 = .ok (.ireturn, 1) := by decide +kernel
theorem dX4_read_47 : decode cX4_read 47 = .ok (.aload_n 0, 1) := by decide +kernel
theorem dX4_read_48 : decode cX4_read 48 = .ok (.iload_n 1, 1) := by decide +kernel
theorem dX4_read_49 : decode cX4_read 49 = .ok (.iload_n 2, 1) := by decide +kernel
theorem dX4_read_50 : decode cX4_read 50 = .ok (.iload_n 3, 1) := by decide +kernel
theorem dX4_read_51 : decode cX4_read 51 = .ok (.invokevirtual 98, 3) := by decide +kernel
theorem dX4_read_54 : decode cX4_read 54 = .ok (.ireturn, 1) := by decide +kernel
abbrev zm_X4_read : zg_M := (RX4, cX4_read, 4, (some .int), [])
theorem dX4_spill_0 : decode cX4_spill 0 = .ok (.aload_n 0, 1) := by decide +kernel
theorem dX4_spill_1 : decode cX4_spill 1 = .ok (.iload_n 1, 1) := by decide +kernel
theorem dX4_spill_2 : decode cX4_spill 2 = .ok (.iconst 0, 1) := by decide +kernel
theorem dX4_spill_3 : decode cX4_spill 3 = .ok (.bipush 15, 2) := by decide +kernel
theorem dX4_spill_5 : decode cX4_spill 5 = .ok (.invokestatic 67, 3) := by decide +kernel
theorem dX4_spill_8 : decode cX4_spill 8 = .ok (.ifCond .eq 28, 3) := by decide +kernel
theorem dX4_spill_11 : decode cX4_spill 11 = .ok (.aload_n 0, 1) := by decide +kernel
theorem dX4_spill_12 : decode cX4_spill 12 = .ok (.getfield 61, 3) := by decide +kernel
theorem dX4_spill_15 : decode cX4_spill 15 = .ok (.ifCond .eq 21, 3) := by decide +kernel
theorem dX4_spill_18 : decode cX4_spill 18 = .ok (.aload_n 0, 1) := by decide +kernel
theorem dX4_spill_19 : decode cX4_spill 19 = .ok (.getfield 19, 3) := by decide +kernel
theorem dX4_spill_22 : decode cX4_spill 22 = .ok (.iload_n 1, 1) := by decide +kernel
theorem dX4_spill_23 : decode cX4_spill 23 = .ok (.iaload, 1) := by decide +kernel
theorem dX4_spill_24 : decode cX4_spill 24 = .ok (.ifCond .eq 12, 3) := by decide +kernel
theorem dX4_spill_27 : decode cX4_spill 27 = .ok (.aload_n 0, 1) := by decide +kernel
theorem dX4_spill_28 : decode cX4_spill 28 = .ok (.getfield 22, 3) := by decide +kernel
theorem dX4_spill_31 : decode cX4_spill 31 = .ok (.iload_n 1, 1) := by decide +kernel
theorem dX4_spill_32 : decode cX4_spill 32 = .ok (.baload, 1) := by decide +kernel
theorem dX4_spill_33 : decode cX4_spill 33 = .ok (.ifCond .eq 7, 3) := by decide +kernel
theorem dX4_spill_36 : decode cX4_spill 36 = .ok (.iconst 1, 1) := by decide +kernel
theorem dX4_spill_37 : decode cX4_spill 37 = .ok (.goto 4, 3) := by decide +kernel
theorem dX4_spill_40 : decode cX4_spill 40 = .ok (.iconst 0, 1) := by decide +kernel
theorem dX4_spill_41 : decode cX4_spill 41 = .ok (.iconst 1, 1) := by decide +kernel
theorem dX4_spill_42 : decode cX4_spill 42 = .ok (.invokevirtual 102, 3) := by decide +kernel
theorem dX4_spill_45 : decode cX4_spill 45 = .ok (.ifCond .ne 25, 3) := by decide +kernel
theorem dX4_spill_48 : decode cX4_spill 48 = .ok (.aload_n 0, 1) := by decide +kernel
theorem dX4_spill_49 : decode cX4_spill 49 = .ok (.aload_n 0, 1) := by decide +kernel
theorem dX4_spill_50 : decode cX4_spill 50 = .ok (.getfield 54, 3) := by decide +kernel
theorem dX4_spill_53 : decode cX4_spill 53 = .ok (.bipush 60, 2) := by decide +kernel
theorem dX4_spill_55 : decode cX4_spill 55 = .ok (.if_icmp .lt 7, 3) := by decide +kernel
theorem dX4_spill_58 : decode cX4_spill 58 = .ok (.iconst 1, 1) := by decide +kernel
theorem dX4_spill_59 : decode cX4_spill 59 = .ok (.goto 4, 3) := by decide +kernel
theorem dX4_spill_62 : decode cX4_spill 62 = .ok (.iconst 0, 1) := by decide +kernel
theorem dX4_spill_63 : decode cX4_spill 63 = .ok (.iconst 2, 1) := by decide +kernel
theorem dX4_spill_64 : decode cX4_spill 64 = .ok (.invokevirtual 102, 3) := by decide +kernel
theorem dX4_spill_67 : decode cX4_spill 67 = .ok (.ifCond .eq 5, 3) := by decide +kernel
theorem dX4_spill_70 : decode cX4_spill 70 = .ok (.iconst 0, 1) := by decide +kernel
theorem dX4_spill_71 : decode cX4_spill 71 = .ok (.ireturn, 1) := by decide +kernel
theorem dX4_spill_72 : decode cX4_spill 72 = .ok (.aload_n 0, 1) := by decide +kernel
theorem dX4_spill_73 : decode cX4_spill 73 = .ok (.aload_n 0, 1) := by decide +kernel
theorem dX4_spill_74 : decode cX4_spill 74 = .ok (.getfield 19, 3) := by decide +kernel
theorem dX4_spill_77 : decode cX4_spill 77 = .ok (.iload_n 1, 1) := by decide +kernel
theorem dX4_spill_78 : decode cX4_spill 78 = .ok (.iaload, 1) := by decide +kernel
theorem dX4_spill_79 : decode cX4_spill 79 = .ok (.aload_n 0, 1) := by decide +kernel
theorem dX4_spill_80 : decode cX4_spill 80 = .ok (.getfield 26, 3) := by decide +kernel
theorem dX4_spill_83 : decode cX4_spill 83 = .ok (.bipush 16, 2) := by decide +kernel
theorem dX4_spill_85 : decode cX4_spill 85 = .ok (.iload_n 1, 1) := by decide +kernel
theorem dX4_spill_86 : decode cX4_spill 86 = .ok (.imul, 1) := by decide +kernel
theorem dX4_spill_87 : decode cX4_spill 87 = .ok (.invokevirtual 114, 3) := by decide +kernel
theorem dX4_spill_90 : decode cX4_spill 90 = .ok (.aload_n 0, 1) := by decide +kernel
theorem dX4_spill_91 : decode cX4_spill 91 = .ok (.getfield 22, 3) := by decide +kernel
theorem dX4_spill_94 : decode cX4_spill 94 = .ok (.iload_n 1, 1) := by decide +kernel
theorem dX4_spill_95 : decode cX4_spill 95 = .ok (.iconst 1, 1) := by decide +kernel
theorem dX4_spill_96 : decode cX4_spill 96 = .ok (.bastore, 1) := by decide +kernel
theorem dX4_spill_97 : decode cX4_spill 97 = .ok (.aload_n 0, 1) := by decide +kernel
theorem dX4_spill_98 : decode cX4_spill 98 = .ok (.getfield 54, 3) := by decide +kernel
theorem dX4_spill_101 : decode cX4_spill 101 = .ok (.ireturn, 1) := by decide +kernel
abbrev zm_X4_spill : zg_M := (RX4, cX4_spill, 2, (some .int), [])
theorem dX4_commit_0 : decode cX4_commit 0 = .ok (.aload_n 0, 1) := by decide +kernel
theorem dX4_commit_1 : decode cX4_commit 1 = .ok (.aload_n 0, 1) := by decide +kernel
theorem dX4_commit_2 : decode cX4_commit 2 = .ok (.getfield 64, 3) := by decide +kernel
theorem dX4_commit_5 : decode cX4_commit 5 = .ok (.ifCond .ne 10, 3) := by decide +kernel
theorem dX4_commit_8 : decode cX4_commit 8 = .ok (.aload_n 0, 1) := by decide +kernel
theorem dX4_commit_9 : decode cX4_commit 9 = .ok (.getfield 61, 3) := by decide +kernel
theorem dX4_commit_12 : decode cX4_commit 12 = .ok (.ifCond .ne 7, 3) := by decide +kernel
theorem dX4_commit_15 : decode cX4_commit 15 = .ok (.iconst 1, 1) := by decide +kernel
theorem dX4_commit_16 : decode cX4_commit 16 = .ok (.goto 4, 3) := by decide +kernel
theorem dX4_commit_19 : decode cX4_commit 19 = .ok (.iconst 0, 1) := by decide +kernel
theorem dX4_commit_20 : decode cX4_commit 20 = .ok (.iconst 1, 1) := by decide +kernel
theorem dX4_commit_21 : decode cX4_commit 21 = .ok (.invokevirtual 102, 3) := by decide +kernel
theorem dX4_commit_24 : decode cX4_commit 24 = .ok (.ifCond .eq 5, 3) := by decide +kernel
theorem dX4_commit_27 : decode cX4_commit 27 = .ok (.iconst 0, 1) := by decide +kernel
theorem dX4_commit_28 : decode cX4_commit 28 = .ok (.ireturn, 1) := by decide +kernel
theorem dX4_commit_29 : decode cX4_commit 29 = .ok (.aload_n 0, 1) := by decide +kernel
theorem dX4_commit_30 : decode cX4_commit 30 = .ok (.invokevirtual 94, 3) := by decide +kernel
theorem dX4_commit_33 : decode cX4_commit 33 = .ok (.istore_n 2, 1) := by decide +kernel
theorem dX4_commit_34 : decode cX4_commit 34 = .ok (.aload_n 0, 1) := by decide +kernel
theorem dX4_commit_35 : decode cX4_commit 35 = .ok (.iload_n 2, 1) := by decide +kernel
theorem dX4_commit_36 : decode cX4_commit 36 = .ok (.iconst (-1), 1) := by decide +kernel
theorem dX4_commit_37 : decode cX4_commit 37 = .ok (.if_icmp .ne 7, 3) := by decide +kernel
theorem dX4_commit_40 : decode cX4_commit 40 = .ok (.iconst 1, 1) := by decide +kernel
theorem dX4_commit_41 : decode cX4_commit 41 = .ok (.goto 4, 3) := by decide +kernel
theorem dX4_commit_44 : decode cX4_commit 44 = .ok (.iconst 0, 1) := by decide +kernel
theorem dX4_commit_45 : decode cX4_commit 45 = .ok (.iconst 1, 1) := by decide +kernel
theorem dX4_commit_46 : decode cX4_commit 46 = .ok (.invokevirtual 102, 3) := by decide +kernel
theorem dX4_commit_49 : decode cX4_commit 49 = .ok (.ifCond .eq 5, 3) := by decide +kernel
theorem dX4_commit_52 : decode cX4_commit 52 = .ok (.iconst 0, 1) := by decide +kernel
theorem dX4_commit_53 : decode cX4_commit 53 = .ok (.ireturn, 1) := by decide +kernel
theorem dX4_commit_54 : decode cX4_commit 54 = .ok (.iconst 0, 1) := by decide +kernel
theorem dX4_commit_55 : decode cX4_commit 55 = .ok (.istore_n 3, 1) := by decide +kernel
theorem dX4_commit_56 : decode cX4_commit 56 = .ok (.iload_n 3, 1) := by decide +kernel
theorem dX4_commit_57 : decode cX4_commit 57 = .ok (.bipush 16, 2) := by decide +kernel
theorem dX4_commit_59 : decode cX4_commit 59 = .ok (.if_icmp .ge 45, 3) := by decide +kernel
theorem dX4_commit_62 : decode cX4_commit 62 = .ok (.aload_n 0, 1) := by decide +kernel
theorem dX4_commit_63 : decode cX4_commit 63 = .ok (.getfield 19, 3) := by decide +kernel
theorem dX4_commit_66 : decode cX4_commit 66 = .ok (.iload_n 3, 1) := by decide +kernel
theorem dX4_commit_67 : decode cX4_commit 67 = .ok (.iaload, 1) := by decide +kernel
theorem dX4_commit_68 : decode cX4_commit 68 = .ok (.ifCond .le 30, 3) := by decide +kernel
theorem dX4_commit_71 : decode cX4_commit 71 = .ok (.aload_n 0, 1) := by decide +kernel
theorem dX4_commit_72 : decode cX4_commit 72 = .ok (.getfield 22, 3) := by decide +kernel
theorem dX4_commit_75 : decode cX4_commit 75 = .ok (.iload_n 3, 1) := by decide +kernel
theorem dX4_commit_76 : decode cX4_commit 76 = .ok (.baload, 1) := by decide +kernel
theorem dX4_commit_77 : decode cX4_commit 77 = .ok (.ifCond .ne 21, 3) := by decide +kernel
theorem dX4_commit_80 : decode cX4_commit 80 = .ok (.aload_n 0, 1) := by decide +kernel
theorem dX4_commit_81 : decode cX4_commit 81 = .ok (.aload_n 0, 1) := by decide +kernel
theorem dX4_commit_82 : decode cX4_commit 82 = .ok (.getfield 19, 3) := by decide +kernel
theorem dX4_commit_85 : decode cX4_commit 85 = .ok (.iload_n 3, 1) := by decide +kernel
theorem dX4_commit_86 : decode cX4_commit 86 = .ok (.iaload, 1) := by decide +kernel
theorem dX4_commit_87 : decode cX4_commit 87 = .ok (.aload_n 0, 1) := by decide +kernel
theorem dX4_commit_88 : decode cX4_commit 88 = .ok (.getfield 26, 3) := by decide +kernel
theorem dX4_commit_91 : decode cX4_commit 91 = .ok (.bipush 16, 2) := by decide +kernel
theorem dX4_commit_93 : decode cX4_commit 93 = .ok (.iload_n 3, 1) := by decide +kernel
theorem dX4_commit_94 : decode cX4_commit 94 = .ok (.imul, 1) := by decide +kernel
theorem dX4_commit_95 : decode cX4_commit 95 = .ok (.invokevirtual 114, 3) := by decide +kernel
theorem dX4_commit_98 : decode cX4_commit 98 = .ok (.iinc 3 1, 3) := by decide +kernel
theorem dX4_commit_101 : decode cX4_commit 101 = .ok (.goto (-45), 3) := by decide +kernel
theorem dX4_commit_104 : decode cX4_commit 104 = .ok (.iconst 0, 1) := by decide +kernel
theorem dX4_commit_105 : decode cX4_commit 105 = .ok (.istore_n 3, 1) := by decide +kernel
theorem dX4_commit_106 : decode cX4_commit 106 = .ok (.iload_n 3, 1) := by decide +kernel
theorem dX4_commit_107 : decode cX4_commit 107 = .ok (.bipush 16, 2) := by decide +kernel
theorem dX4_commit_109 : decode cX4_commit 109 = .ok (.if_icmp .ge 43, 3) := by decide +kernel
theorem dX4_commit_112 : decode cX4_commit 112 = .ok (.aload_n 0, 1) := by decide +kernel
theorem dX4_commit_113 : decode cX4_commit 113 = .ok (.getfield 32, 3) := by decide +kernel
theorem dX4_commit_116 : decode cX4_commit 116 = .ok (.sipush 1584, 3) := by decide +kernel
theorem dX4_commit_119 : decode cX4_commit 119 = .ok (.iload_n 3, 1) := by decide +kernel
theorem dX4_commit_120 : decode cX4_commit 120 = .ok (.iadd, 1) := by decide +kernel
theorem dX4_commit_121 : decode cX4_commit 121 = .ok (.aload_n 0, 1) := by decide +kernel
theorem dX4_commit_122 : decode cX4_commit 122 = .ok (.getfield 19, 3) := by decide +kernel
theorem dX4_commit_125 : decode cX4_commit 125 = .ok (.iload_n 3, 1) := by decide +kernel
theorem dX4_commit_126 : decode cX4_commit 126 = .ok (.iaload, 1) := by decide +kernel
theorem dX4_commit_127 : decode cX4_commit 127 = .ok (.ifCond .le 12, 3) := by decide +kernel
theorem dX4_commit_130 : decode cX4_commit 130 = .ok (.aload_n 0, 1) := by decide +kernel
theorem dX4_commit_131 : decode cX4_commit 131 = .ok (.getfield 19, 3) := by decide +kernel
theorem dX4_commit_134 : decode cX4_commit 134 = .ok (.iload_n 3, 1) := by decide +kernel
theorem dX4_commit_135 : decode cX4_commit 135 = .ok (.iaload, 1) := by decide +kernel
theorem dX4_commit_136 : decode cX4_commit 136 = .ok (.goto 9, 3) := by decide +kernel
theorem dX4_commit_139 : decode cX4_commit 139 = .ok (.aload_n 0, 1) := by decide +kernel
theorem dX4_commit_140 : decode cX4_commit 140 = .ok (.getfield 13, 3) := by decide +kernel
theorem dX4_commit_143 : decode cX4_commit 143 = .ok (.iload_n 3, 1) := by decide +kernel
theorem dX4_commit_144 : decode cX4_commit 144 = .ok (.iaload, 1) := by decide +kernel
theorem dX4_commit_145 : decode cX4_commit 145 = .ok (.iastore, 1) := by decide +kernel
theorem dX4_commit_146 : decode cX4_commit 146 = .ok (.iinc 3 1, 3) := by decide +kernel
theorem dX4_commit_149 : decode cX4_commit 149 = .ok (.goto (-43), 3) := by decide +kernel
theorem dX4_commit_152 : decode cX4_commit 152 = .ok (.aload_n 0, 1) := by decide +kernel
theorem dX4_commit_153 : decode cX4_commit 153 = .ok (.iload_n 2, 1) := by decide +kernel
theorem dX4_commit_154 : decode cX4_commit 154 = .ok (.aload_n 0, 1) := by decide +kernel
theorem dX4_commit_155 : decode cX4_commit 155 = .ok (.getfield 32, 3) := by decide +kernel
theorem dX4_commit_158 : decode cX4_commit 158 = .ok (.sipush 1584, 3) := by decide +kernel
theorem dX4_commit_161 : decode cX4_commit 161 = .ok (.invokevirtual 114, 3) := by decide +kernel
theorem dX4_commit_164 : decode cX4_commit 164 = .ok (.aload_n 0, 1) := by decide +kernel
theorem dX4_commit_165 : decode cX4_commit 165 = .ok (.invokevirtual 118, 3) := by decide +kernel
theorem dX4_commit_168 : decode cX4_commit 168 = .ok (.pop, 1) := by decide +kernel
theorem dX4_commit_169 : decode cX4_commit 169 = .ok (.iconst 0, 1) := by decide +kernel
theorem dX4_commit_170 : decode cX4_commit 170 = .ok (.istore_n 3, 1) := by decide +kernel
theorem dX4_commit_171 : decode cX4_commit 171 = .ok (.iload_n 3, 1) := by decide +kernel
theorem dX4_commit_172 : decode cX4_commit 172 = .ok (.bipush 16, 2) := by decide +kernel
theorem dX4_commit_174 : decode cX4_commit 174 = .ok (.if_icmp .ge 39, 3) := by decide +kernel
theorem dX4_commit_177 : decode cX4_commit 177 = .ok (.aload_n 0, 1) := by decide +kernel
theorem dX4_commit_178 : decode cX4_commit 178 = .ok (.getfield 13, 3) := by decide +kernel
theorem dX4_commit_181 : decode cX4_commit 181 = .ok (.iload_n 3, 1) := by decide +kernel
theorem dX4_commit_182 : decode cX4_commit 182 = .ok (.aload_n 0, 1) := by decide +kernel
theorem dX4_commit_183 : decode cX4_commit 183 = .ok (.getfield 19, 3) := by decide +kernel
theorem dX4_commit_186 : decode cX4_commit 186 = .ok (.iload_n 3, 1) := by decide +kernel
theorem dX4_commit_187 : decode cX4_commit 187 = .ok (.iaload, 1) := by decide +kernel
theorem dX4_commit_188 : decode cX4_commit 188 = .ok (.ifCond .le 12, 3) := by decide +kernel
theorem dX4_commit_191 : decode cX4_commit 191 = .ok (.aload_n 0, 1) := by decide +kernel
theorem dX4_commit_192 : decode cX4_commit 192 = .ok (.getfield 19, 3) := by decide +kernel
theorem dX4_commit_195 : decode cX4_commit 195 = .ok (.iload_n 3, 1) := by decide +kernel
theorem dX4_commit_196 : decode cX4_commit 196 = .ok (.iaload, 1) := by decide +kernel
theorem dX4_commit_197 : decode cX4_commit 197 = .ok (.goto 9, 3) := by decide +kernel
theorem dX4_commit_200 : decode cX4_commit 200 = .ok (.aload_n 0, 1) := by decide +kernel
theorem dX4_commit_201 : decode cX4_commit 201 = .ok (.getfield 13, 3) := by decide +kernel
theorem dX4_commit_204 : decode cX4_commit 204 = .ok (.iload_n 3, 1) := by decide +kernel
theorem dX4_commit_205 : decode cX4_commit 205 = .ok (.iaload, 1) := by decide +kernel
theorem dX4_commit_206 : decode cX4_commit 206 = .ok (.iastore, 1) := by decide +kernel
theorem dX4_commit_207 : decode cX4_commit 207 = .ok (.iinc 3 1, 3) := by decide +kernel
theorem dX4_commit_210 : decode cX4_commit 210 = .ok (.goto (-39), 3) := by decide +kernel
theorem dX4_commit_213 : decode cX4_commit 213 = .ok (.aload_n 0, 1) := by decide +kernel
theorem dX4_commit_214 : decode cX4_commit 214 = .ok (.iload_n 2, 1) := by decide +kernel
theorem dX4_commit_215 : decode cX4_commit 215 = .ok (.putfield 71, 3) := by decide +kernel
theorem dX4_commit_218 : decode cX4_commit 218 = .ok (.aload_n 0, 1) := by decide +kernel
theorem dX4_commit_219 : decode cX4_commit 219 = .ok (.dup, 1) := by decide +kernel
theorem dX4_commit_220 : decode cX4_commit 220 = .ok (.getfield 74, 3) := by decide +kernel
theorem dX4_commit_223 : decode cX4_commit 223 = .ok (.iconst 1, 1) := by decide +kernel
theorem dX4_commit_224 : decode cX4_commit 224 = .ok (.iadd, 1) := by decide +kernel
theorem dX4_commit_225 : decode cX4_commit 225 = .ok (.putfield 74, 3) := by decide +kernel
theorem dX4_commit_228 : decode cX4_commit 228 = .ok (.aload_n 0, 1) := by decide +kernel
theorem dX4_commit_229 : decode cX4_commit 229 = .ok (.iconst 0, 1) := by decide +kernel
theorem dX4_commit_230 : decode cX4_commit 230 = .ok (.putfield 61, 3) := by decide +kernel
theorem dX4_commit_233 : decode cX4_commit 233 = .ok (.aload_n 0, 1) := by decide +kernel
theorem dX4_commit_234 : decode cX4_commit 234 = .ok (.aload_n 0, 1) := by decide +kernel
theorem dX4_commit_235 : decode cX4_commit 235 = .ok (.getfield 32, 3) := by decide +kernel
theorem dX4_commit_238 : decode cX4_commit 238 = .ok (.sipush 1584, 3) := by decide +kernel
theorem dX4_commit_241 : decode cX4_commit 241 = .ok (.aload_n 0, 1) := by decide +kernel
theorem dX4_commit_242 : decode cX4_commit 242 = .ok (.getfield 74, 3) := by decide +kernel
theorem dX4_commit_245 : decode cX4_commit 245 = .ok (.iload_n 2, 1) := by decide +kernel
theorem dX4_commit_246 : decode cX4_commit 246 = .ok (.invokevirtual 47, 3) := by decide +kernel
theorem dX4_commit_249 : decode cX4_commit 249 = .ok (.aload_n 0, 1) := by decide +kernel
theorem dX4_commit_250 : decode cX4_commit 250 = .ok (.iconst 0, 1) := by decide +kernel
theorem dX4_commit_251 : decode cX4_commit 251 = .ok (.aload_n 0, 1) := by decide +kernel
theorem dX4_commit_252 : decode cX4_commit 252 = .ok (.getfield 32, 3) := by decide +kernel
theorem dX4_commit_255 : decode cX4_commit 255 = .ok (.sipush 1584, 3) := by decide +kernel
theorem dX4_commit_258 : decode cX4_commit 258 = .ok (.invokevirtual 114, 3) := by decide +kernel
theorem dX4_commit_261 : decode cX4_commit 261 = .ok (.aload_n 0, 1) := by decide +kernel
theorem dX4_commit_262 : decode cX4_commit 262 = .ok (.iconst 1, 1) := by decide +kernel
theorem dX4_commit_263 : decode cX4_commit 263 = .ok (.putfield 57, 3) := by decide +kernel
theorem dX4_commit_266 : decode cX4_commit 266 = .ok (.iload_n 1, 1) := by decide +kernel
theorem dX4_commit_267 : decode cX4_commit 267 = .ok (.ifCond .eq 8, 3) := by decide +kernel
theorem dX4_commit_270 : decode cX4_commit 270 = .ok (.aload_n 0, 1) := by decide +kernel
theorem dX4_commit_271 : decode cX4_commit 271 = .ok (.invokevirtual 118, 3) := by decide +kernel
theorem dX4_commit_274 : decode cX4_commit 274 = .ok (.pop, 1) := by decide +kernel
theorem dX4_commit_275 : decode cX4_commit 275 = .ok (.aload_n 0, 1) := by decide +kernel
theorem dX4_commit_276 : decode cX4_commit 276 = .ok (.getfield 74, 3) := by decide +kernel
theorem dX4_commit_279 : decode cX4_commit 279 = .ok (.ireturn, 1) := by decide +kernel
abbrev zm_X4_commit : zg_M := (RX4, cX4_commit, 4, (some .int), [])
theorem dX4_abort_0 : decode cX4_abort 0 = .ok (.aload_n 0, 1) := by decide +kernel
theorem dX4_abort_1 : decode cX4_abort 1 = .ok (.aload_n 0, 1) := by decide +kernel
theorem dX4_abort_2 : decode cX4_abort 2 = .ok (.getfield 64, 3) := by decide +kernel
theorem dX4_abort_5 : decode cX4_abort 5 = .ok (.ifCond .ne 10, 3) := by decide +kernel
theorem dX4_abort_8 : decode cX4_abort 8 = .ok (.aload_n 0, 1) := by decide +kernel
theorem dX4_abort_9 : decode cX4_abort 9 = .ok (.getfield 61, 3) := by decide +kernel
theorem dX4_abort_12 : decode cX4_abort 12 = .ok (.ifCond .ne 7, 3) := by decide +kernel
theorem dX4_abort_15 : decode cX4_abort 15 = .ok (.iconst 1, 1) := by decide +kernel
theorem dX4_abort_16 : decode cX4_abort 16 = .ok (.goto 4, 3) := by decide +kernel
theorem dX4_abort_19 : decode cX4_abort 19 = .ok (.iconst 0, 1) := by decide +kernel
theorem dX4_abort_20 : decode cX4_abort 20 = .ok (.iconst 1, 1) := by decide +kernel
theorem dX4_abort_21 : decode cX4_abort 21 = .ok (.invokevirtual 102, 3) := by decide +kernel
theorem dX4_abort_24 : decode cX4_abort 24 = .ok (.ifCond .eq 5, 3) := by decide +kernel
theorem dX4_abort_27 : decode cX4_abort 27 = .ok (.iconst 0, 1) := by decide +kernel
theorem dX4_abort_28 : decode cX4_abort 28 = .ok (.ireturn, 1) := by decide +kernel
theorem dX4_abort_29 : decode cX4_abort 29 = .ok (.aload_n 0, 1) := by decide +kernel
theorem dX4_abort_30 : decode cX4_abort 30 = .ok (.iconst 0, 1) := by decide +kernel
theorem dX4_abort_31 : decode cX4_abort 31 = .ok (.putfield 61, 3) := by decide +kernel
theorem dX4_abort_34 : decode cX4_abort 34 = .ok (.aload_n 0, 1) := by decide +kernel
theorem dX4_abort_35 : decode cX4_abort 35 = .ok (.invokevirtual 111, 3) := by decide +kernel
theorem dX4_abort_38 : decode cX4_abort 38 = .ok (.ireturn, 1) := by decide +kernel
abbrev zm_X4_abort : zg_M := (RX4, cX4_abort, 1, (some .int), [])
theorem dX4_flush_0 : decode cX4_flush 0 = .ok (.aload_n 0, 1) := by decide +kernel
theorem dX4_flush_1 : decode cX4_flush 1 = .ok (.aload_n 0, 1) := by decide +kernel
theorem dX4_flush_2 : decode cX4_flush 2 = .ok (.getfield 64, 3) := by decide +kernel
theorem dX4_flush_5 : decode cX4_flush 5 = .ok (.iconst 1, 1) := by decide +kernel
theorem dX4_flush_6 : decode cX4_flush 6 = .ok (.invokevirtual 102, 3) := by decide +kernel
theorem dX4_flush_9 : decode cX4_flush 9 = .ok (.ifCond .eq 5, 3) := by decide +kernel
theorem dX4_flush_12 : decode cX4_flush 12 = .ok (.iconst 0, 1) := by decide +kernel
theorem dX4_flush_13 : decode cX4_flush 13 = .ok (.ireturn, 1) := by decide +kernel
theorem dX4_flush_14 : decode cX4_flush 14 = .ok (.aload_n 0, 1) := by decide +kernel
theorem dX4_flush_15 : decode cX4_flush 15 = .ok (.invokevirtual 118, 3) := by decide +kernel
theorem dX4_flush_18 : decode cX4_flush 18 = .ok (.ireturn, 1) := by decide +kernel
abbrev zm_X4_flush : zg_M := (RX4, cX4_flush, 1, (some .int), [])
theorem dX4_fail_0 : decode cX4_fail 0 = .ok (.aload_n 0, 1) := by decide +kernel
theorem dX4_fail_1 : decode cX4_fail 1 = .ok (.iconst 0, 1) := by decide +kernel
theorem dX4_fail_2 : decode cX4_fail 2 = .ok (.putfield 38, 3) := by decide +kernel
theorem dX4_fail_5 : decode cX4_fail 5 = .ok (.iconst 0, 1) := by decide +kernel
theorem dX4_fail_6 : decode cX4_fail 6 = .ok (.istore_n 3, 1) := by decide +kernel
theorem dX4_fail_7 : decode cX4_fail 7 = .ok (.iload_n 3, 1) := by decide +kernel
theorem dX4_fail_8 : decode cX4_fail 8 = .ok (.aload_n 0, 1) := by decide +kernel
theorem dX4_fail_9 : decode cX4_fail 9 = .ok (.getfield 54, 3) := by decide +kernel
theorem dX4_fail_12 : decode cX4_fail 12 = .ok (.if_icmp .ge 30, 3) := by decide +kernel
theorem dX4_fail_15 : decode cX4_fail 15 = .ok (.iload_n 3, 1) := by decide +kernel
theorem dX4_fail_16 : decode cX4_fail 16 = .ok (.bipush 64, 2) := by decide +kernel
theorem dX4_fail_18 : decode cX4_fail 18 = .ok (.if_icmp .ge 18, 3) := by decide +kernel
theorem dX4_fail_21 : decode cX4_fail 21 = .ok (.lload_n 1, 1) := by decide +kernel
theorem dX4_fail_22 : decode cX4_fail 22 = .ok (.iload_n 3, 1) := by decide +kernel
theorem dX4_fail_23 : decode cX4_fail 23 = .ok (.lshr, 1) := by decide +kernel
theorem dX4_fail_24 : decode cX4_fail 24 = .ok (.lconst 1, 1) := by decide +kernel
theorem dX4_fail_25 : decode cX4_fail 25 = .ok (.land, 1) := by decide +kernel
theorem dX4_fail_26 : decode cX4_fail 26 = .ok (.lconst 1, 1) := by decide +kernel
theorem dX4_fail_27 : decode cX4_fail 27 = .ok (.lcmp, 1) := by decide +kernel
theorem dX4_fail_28 : decode cX4_fail 28 = .ok (.ifCond .ne 8, 3) := by decide +kernel
theorem dX4_fail_31 : decode cX4_fail 31 = .ok (.aload_n 0, 1) := by decide +kernel
theorem dX4_fail_32 : decode cX4_fail 32 = .ok (.iload_n 3, 1) := by decide +kernel
theorem dX4_fail_33 : decode cX4_fail 33 = .ok (.invokevirtual 90, 3) := by decide +kernel
theorem dX4_fail_36 : decode cX4_fail 36 = .ok (.iinc 3 1, 3) := by decide +kernel
theorem dX4_fail_39 : decode cX4_fail 39 = .ok (.goto (-32), 3) := by decide +kernel
theorem dX4_fail_42 : decode cX4_fail 42 = .ok (.aload_n 0, 1) := by decide +kernel
theorem dX4_fail_43 : decode cX4_fail 43 = .ok (.invokevirtual 51, 3) := by decide +kernel
theorem dX4_fail_46 : decode cX4_fail 46 = .ok (.aload_n 0, 1) := by decide +kernel
theorem dX4_fail_47 : decode cX4_fail 47 = .ok (.getfield 64, 3) := by decide +kernel
theorem dX4_fail_50 : decode cX4_fail 50 = .ok (.ifCond .ne 7, 3) := by decide +kernel
theorem dX4_fail_53 : decode cX4_fail 53 = .ok (.iconst 1, 1) := by decide +kernel
theorem dX4_fail_54 : decode cX4_fail 54 = .ok (.goto 4, 3) := by decide +kernel
theorem dX4_fail_57 : decode cX4_fail 57 = .ok (.iconst 0, 1) := by decide +kernel
theorem dX4_fail_58 : decode cX4_fail 58 = .ok (.ireturn, 1) := by decide +kernel
abbrev zm_X4_fail : zg_M := (RX4, cX4_fail, 4, (some .boolean), [])
theorem dX4_damage_0 : decode cX4_damage 0 = .ok (.aload_n 0, 1) := by decide +kernel
theorem dX4_damage_1 : decode cX4_damage 1 = .ok (.iload_n 1, 1) := by decide +kernel
theorem dX4_damage_2 : decode cX4_damage 2 = .ok (.iconst 0, 1) := by decide +kernel
theorem dX4_damage_3 : decode cX4_damage 3 = .ok (.bipush 47, 2) := by decide +kernel
theorem dX4_damage_5 : decode cX4_damage 5 = .ok (.invokestatic 67, 3) := by decide +kernel
theorem dX4_damage_8 : decode cX4_damage 8 = .ok (.ifCond .eq 24, 3) := by decide +kernel
theorem dX4_damage_11 : decode cX4_damage 11 = .ok (.iload_n 2, 1) := by decide +kernel
theorem dX4_damage_12 : decode cX4_damage 12 = .ok (.iconst 0, 1) := by decide +kernel
theorem dX4_damage_13 : decode cX4_damage 13 = .ok (.bipush 15, 2) := by decide +kernel
theorem dX4_damage_15 : decode cX4_damage 15 = .ok (.invokestatic 67, 3) := by decide +kernel
theorem dX4_damage_18 : decode cX4_damage 18 = .ok (.ifCond .eq 14, 3) := by decide +kernel
theorem dX4_damage_21 : decode cX4_damage 21 = .ok (.iload_n 3, 1) := by decide +kernel
theorem dX4_damage_22 : decode cX4_damage 22 = .ok (.iconst 0, 1) := by decide +kernel
theorem dX4_damage_23 : decode cX4_damage 23 = .ok (.sipush 255, 3) := by decide +kernel
theorem dX4_damage_26 : decode cX4_damage 26 = .ok (.invokestatic 67, 3) := by decide +kernel
theorem dX4_damage_29 : decode cX4_damage 29 = .ok (.ifCond .ne 7, 3) := by decide +kernel
theorem dX4_damage_32 : decode cX4_damage 32 = .ok (.iconst 1, 1) := by decide +kernel
theorem dX4_damage_33 : decode cX4_damage 33 = .ok (.goto 4, 3) := by decide +kernel
theorem dX4_damage_36 : decode cX4_damage 36 = .ok (.iconst 0, 1) := by decide +kernel
theorem dX4_damage_37 : decode cX4_damage 37 = .ok (.iconst 1, 1) := by decide +kernel
theorem dX4_damage_38 : decode cX4_damage 38 = .ok (.invokevirtual 102, 3) := by decide +kernel
theorem dX4_damage_41 : decode cX4_damage 41 = .ok (.ifCond .eq 5, 3) := by decide +kernel
theorem dX4_damage_44 : decode cX4_damage 44 = .ok (.iconst 0, 1) := by decide +kernel
theorem dX4_damage_45 : decode cX4_damage 45 = .ok (.ireturn, 1) := by decide +kernel
theorem dX4_damage_46 : decode cX4_damage 46 = .ok (.aload_n 0, 1) := by decide +kernel
theorem dX4_damage_47 : decode cX4_damage 47 = .ok (.getfield 7, 3) := by decide +kernel
theorem dX4_damage_50 : decode cX4_damage 50 = .ok (.bipush 16, 2) := by decide +kernel
theorem dX4_damage_52 : decode cX4_damage 52 = .ok (.iload_n 1, 1) := by decide +kernel
theorem dX4_damage_53 : decode cX4_damage 53 = .ok (.imul, 1) := by decide +kernel
theorem dX4_damage_54 : decode cX4_damage 54 = .ok (.iload_n 2, 1) := by decide +kernel
theorem dX4_damage_55 : decode cX4_damage 55 = .ok (.iadd, 1) := by decide +kernel
theorem dX4_damage_56 : decode cX4_damage 56 = .ok (.iaload, 1) := by decide +kernel
theorem dX4_damage_57 : decode cX4_damage 57 = .ok (.istore 4, 2) := by decide +kernel
theorem dX4_damage_59 : decode cX4_damage 59 = .ok (.aload_n 0, 1) := by decide +kernel
theorem dX4_damage_60 : decode cX4_damage 60 = .ok (.getfield 7, 3) := by decide +kernel
theorem dX4_damage_63 : decode cX4_damage 63 = .ok (.bipush 16, 2) := by decide +kernel
theorem dX4_damage_65 : decode cX4_damage 65 = .ok (.iload_n 1, 1) := by decide +kernel
theorem dX4_damage_66 : decode cX4_damage 66 = .ok (.imul, 1) := by decide +kernel
theorem dX4_damage_67 : decode cX4_damage 67 = .ok (.iload_n 2, 1) := by decide +kernel
theorem dX4_damage_68 : decode cX4_damage 68 = .ok (.iadd, 1) := by decide +kernel
theorem dX4_damage_69 : decode cX4_damage 69 = .ok (.iload_n 3, 1) := by decide +kernel
theorem dX4_damage_70 : decode cX4_damage 70 = .ok (.iastore, 1) := by decide +kernel
theorem dX4_damage_71 : decode cX4_damage 71 = .ok (.iload 4, 2) := by decide +kernel
theorem dX4_damage_73 : decode cX4_damage 73 = .ok (.ireturn, 1) := by decide +kernel
abbrev zm_X4_damage : zg_M := (RX4, cX4_damage, 5, (some .int), [])
theorem dX4_disk_0 : decode cX4_disk 0 = .ok (.aload_n 0, 1) := by decide +kernel
theorem dX4_disk_1 : decode cX4_disk 1 = .ok (.iload_n 1, 1) := by decide +kernel
theorem dX4_disk_2 : decode cX4_disk 2 = .ok (.iconst 0, 1) := by decide +kernel
theorem dX4_disk_3 : decode cX4_disk 3 = .ok (.bipush 47, 2) := by decide +kernel
theorem dX4_disk_5 : decode cX4_disk 5 = .ok (.invokestatic 67, 3) := by decide +kernel
theorem dX4_disk_8 : decode cX4_disk 8 = .ok (.ifCond .eq 13, 3) := by decide +kernel
theorem dX4_disk_11 : decode cX4_disk 11 = .ok (.iload_n 2, 1) := by decide +kernel
theorem dX4_disk_12 : decode cX4_disk 12 = .ok (.iconst 0, 1) := by decide +kernel
theorem dX4_disk_13 : decode cX4_disk 13 = .ok (.bipush 15, 2) := by decide +kernel
theorem dX4_disk_15 : decode cX4_disk 15 = .ok (.invokestatic 67, 3) := by decide +kernel
theorem dX4_disk_18 : decode cX4_disk 18 = .ok (.ifCond .ne 7, 3) := by decide +kernel
theorem dX4_disk_21 : decode cX4_disk 21 = .ok (.iconst 1, 1) := by decide +kernel
theorem dX4_disk_22 : decode cX4_disk 22 = .ok (.goto 4, 3) := by decide +kernel
theorem dX4_disk_25 : decode cX4_disk 25 = .ok (.iconst 0, 1) := by decide +kernel
theorem dX4_disk_26 : decode cX4_disk 26 = .ok (.iconst 1, 1) := by decide +kernel
theorem dX4_disk_27 : decode cX4_disk 27 = .ok (.invokevirtual 102, 3) := by decide +kernel
theorem dX4_disk_30 : decode cX4_disk 30 = .ok (.ifCond .eq 7, 3) := by decide +kernel
theorem dX4_disk_33 : decode cX4_disk 33 = .ok (.iconst 0, 1) := by decide +kernel
theorem dX4_disk_34 : decode cX4_disk 34 = .ok (.goto 14, 3) := by decide +kernel
theorem dX4_disk_37 : decode cX4_disk 37 = .ok (.aload_n 0, 1) := by decide +kernel
theorem dX4_disk_38 : decode cX4_disk 38 = .ok (.getfield 7, 3) := by decide +kernel
theorem dX4_disk_41 : decode cX4_disk 41 = .ok (.bipush 16, 2) := by decide +kernel
theorem dX4_disk_43 : decode cX4_disk 43 = .ok (.iload_n 1, 1) := by decide +kernel
theorem dX4_disk_44 : decode cX4_disk 44 = .ok (.imul, 1) := by decide +kernel
theorem dX4_disk_45 : decode cX4_disk 45 = .ok (.iload_n 2, 1) := by decide +kernel
theorem dX4_disk_46 : decode cX4_disk 46 = .ok (.iadd, 1) := by decide +kernel
theorem dX4_disk_47 : decode cX4_disk 47 = .ok (.iaload, 1) := by decide +kernel
theorem dX4_disk_48 : decode cX4_disk 48 = .ok (.ireturn, 1) := by decide +kernel
abbrev zm_X4_disk : zg_M := (RX4, cX4_disk, 3, (some .int), [])
theorem dX4_place_0 : decode cX4_place 0 = .ok (.aload_n 0, 1) := by decide +kernel
theorem dX4_place_1 : decode cX4_place 1 = .ok (.iload_n 1, 1) := by decide +kernel
theorem dX4_place_2 : decode cX4_place 2 = .ok (.iconst 0, 1) := by decide +kernel
theorem dX4_place_3 : decode cX4_place 3 = .ok (.bipush 15, 2) := by decide +kernel
theorem dX4_place_5 : decode cX4_place 5 = .ok (.invokestatic 67, 3) := by decide +kernel
theorem dX4_place_8 : decode cX4_place 8 = .ok (.ifCond .eq 12, 3) := by decide +kernel
theorem dX4_place_11 : decode cX4_place 11 = .ok (.iload_n 2, 1) := by decide +kernel
theorem dX4_place_12 : decode cX4_place 12 = .ok (.iconst 0, 1) := by decide +kernel
theorem dX4_place_13 : decode cX4_place 13 = .ok (.iconst 2, 1) := by decide +kernel
theorem dX4_place_14 : decode cX4_place 14 = .ok (.invokestatic 67, 3) := by decide +kernel
theorem dX4_place_17 : decode cX4_place 17 = .ok (.ifCond .ne 7, 3) := by decide +kernel
theorem dX4_place_20 : decode cX4_place 20 = .ok (.iconst 1, 1) := by decide +kernel
theorem dX4_place_21 : decode cX4_place 21 = .ok (.goto 4, 3) := by decide +kernel
theorem dX4_place_24 : decode cX4_place 24 = .ok (.iconst 0, 1) := by decide +kernel
theorem dX4_place_25 : decode cX4_place 25 = .ok (.iconst 1, 1) := by decide +kernel
theorem dX4_place_26 : decode cX4_place 26 = .ok (.invokevirtual 102, 3) := by decide +kernel
theorem dX4_place_29 : decode cX4_place 29 = .ok (.ifCond .ne 15, 3) := by decide +kernel
theorem dX4_place_32 : decode cX4_place 32 = .ok (.aload_n 0, 1) := by decide +kernel
theorem dX4_place_33 : decode cX4_place 33 = .ok (.aload_n 0, 1) := by decide +kernel
theorem dX4_place_34 : decode cX4_place 34 = .ok (.getfield 64, 3) := by decide +kernel
theorem dX4_place_37 : decode cX4_place 37 = .ok (.iconst 2, 1) := by decide +kernel
theorem dX4_place_38 : decode cX4_place 38 = .ok (.invokevirtual 102, 3) := by decide +kernel
theorem dX4_place_41 : decode cX4_place 41 = .ok (.ifCond .eq 5, 3) := by decide +kernel
theorem dX4_place_44 : decode cX4_place 44 = .ok (.iconst 0, 1) := by decide +kernel
theorem dX4_place_45 : decode cX4_place 45 = .ok (.ireturn, 1) := by decide +kernel
theorem dX4_place_46 : decode cX4_place 46 = .ok (.iload_n 2, 1) := by decide +kernel
theorem dX4_place_47 : decode cX4_place 47 = .ok (.iconst 1, 1) := by decide +kernel
theorem dX4_place_48 : decode cX4_place 48 = .ok (.if_icmp .ne 12, 3) := by decide +kernel
theorem dX4_place_51 : decode cX4_place 51 = .ok (.aload_n 0, 1) := by decide +kernel
theorem dX4_place_52 : decode cX4_place 52 = .ok (.getfield 16, 3) := by decide +kernel
theorem dX4_place_55 : decode cX4_place 55 = .ok (.iload_n 1, 1) := by decide +kernel
theorem dX4_place_56 : decode cX4_place 56 = .ok (.iaload, 1) := by decide +kernel
theorem dX4_place_57 : decode cX4_place 57 = .ok (.goto 39, 3) := by decide +kernel
theorem dX4_place_60 : decode cX4_place 60 = .ok (.iload_n 2, 1) := by decide +kernel
theorem dX4_place_61 : decode cX4_place 61 = .ok (.iconst 2, 1) := by decide +kernel
theorem dX4_place_62 : decode cX4_place 62 = .ok (.if_icmp .ne 28, 3) := by decide +kernel
theorem dX4_place_65 : decode cX4_place 65 = .ok (.aload_n 0, 1) := by decide +kernel
theorem dX4_place_66 : decode cX4_place 66 = .ok (.getfield 61, 3) := by decide +kernel
theorem dX4_place_69 : decode cX4_place 69 = .ok (.ifCond .eq 21, 3) := by decide +kernel
theorem dX4_place_72 : decode cX4_place 72 = .ok (.aload_n 0, 1) := by decide +kernel
theorem dX4_place_73 : decode cX4_place 73 = .ok (.getfield 19, 3) := by decide +kernel
theorem dX4_place_76 : decode cX4_place 76 = .ok (.iload_n 1, 1) := by decide +kernel
theorem dX4_place_77 : decode cX4_place 77 = .ok (.iaload, 1) := by decide +kernel
theorem dX4_place_78 : decode cX4_place 78 = .ok (.ifCond .le 12, 3) := by decide +kernel
theorem dX4_place_81 : decode cX4_place 81 = .ok (.aload_n 0, 1) := by decide +kernel
theorem dX4_place_82 : decode cX4_place 82 = .ok (.getfield 19, 3) := by decide +kernel
theorem dX4_place_85 : decode cX4_place 85 = .ok (.iload_n 1, 1) := by decide +kernel
theorem dX4_place_86 : decode cX4_place 86 = .ok (.iaload, 1) := by decide +kernel
theorem dX4_place_87 : decode cX4_place 87 = .ok (.goto 9, 3) := by decide +kernel
theorem dX4_place_90 : decode cX4_place 90 = .ok (.aload_n 0, 1) := by decide +kernel
theorem dX4_place_91 : decode cX4_place 91 = .ok (.getfield 13, 3) := by decide +kernel
theorem dX4_place_94 : decode cX4_place 94 = .ok (.iload_n 1, 1) := by decide +kernel
theorem dX4_place_95 : decode cX4_place 95 = .ok (.iaload, 1) := by decide +kernel
theorem dX4_place_96 : decode cX4_place 96 = .ok (.ireturn, 1) := by decide +kernel
abbrev zm_X4_place : zg_M := (RX4, cX4_place, 3, (some .int), [])
theorem dX4_free_0 : decode cX4_free 0 = .ok (.aload_n 0, 1) := by decide +kernel
theorem dX4_free_1 : decode cX4_free 1 = .ok (.iload_n 1, 1) := by decide +kernel
theorem dX4_free_2 : decode cX4_free 2 = .ok (.iconst 0, 1) := by decide +kernel
theorem dX4_free_3 : decode cX4_free 3 = .ok (.bipush 47, 2) := by decide +kernel
theorem dX4_free_5 : decode cX4_free 5 = .ok (.invokestatic 67, 3) := by decide +kernel
theorem dX4_free_8 : decode cX4_free 8 = .ok (.ifCond .ne 7, 3) := by decide +kernel
theorem dX4_free_11 : decode cX4_free 11 = .ok (.iconst 1, 1) := by decide +kernel
theorem dX4_free_12 : decode cX4_free 12 = .ok (.goto 4, 3) := by decide +kernel
theorem dX4_free_15 : decode cX4_free 15 = .ok (.iconst 0, 1) := by decide +kernel
theorem dX4_free_16 : decode cX4_free 16 = .ok (.iconst 1, 1) := by decide +kernel
theorem dX4_free_17 : decode cX4_free 17 = .ok (.invokevirtual 102, 3) := by decide +kernel
theorem dX4_free_20 : decode cX4_free 20 = .ok (.ifCond .ne 15, 3) := by decide +kernel
theorem dX4_free_23 : decode cX4_free 23 = .ok (.aload_n 0, 1) := by decide +kernel
theorem dX4_free_24 : decode cX4_free 24 = .ok (.aload_n 0, 1) := by decide +kernel
theorem dX4_free_25 : decode cX4_free 25 = .ok (.getfield 64, 3) := by decide +kernel
theorem dX4_free_28 : decode cX4_free 28 = .ok (.iconst 2, 1) := by decide +kernel
theorem dX4_free_29 : decode cX4_free 29 = .ok (.invokevirtual 102, 3) := by decide +kernel
theorem dX4_free_32 : decode cX4_free 32 = .ok (.ifCond .eq 5, 3) := by decide +kernel
theorem dX4_free_35 : decode cX4_free 35 = .ok (.iconst 0, 1) := by decide +kernel
theorem dX4_free_36 : decode cX4_free 36 = .ok (.ireturn, 1) := by decide +kernel
theorem dX4_free_37 : decode cX4_free 37 = .ok (.aload_n 0, 1) := by decide +kernel
theorem dX4_free_38 : decode cX4_free 38 = .ok (.iload_n 1, 1) := by decide +kernel
theorem dX4_free_39 : decode cX4_free 39 = .ok (.invokevirtual 86, 3) := by decide +kernel
theorem dX4_free_42 : decode cX4_free 42 = .ok (.ireturn, 1) := by decide +kernel
abbrev zm_X4_free : zg_M := (RX4, cX4_free, 2, (some .boolean), [])
theorem dX4_held_0 : decode cX4_held 0 = .ok (.aload_n 0, 1) := by decide +kernel
theorem dX4_held_1 : decode cX4_held 1 = .ok (.iload_n 1, 1) := by decide +kernel
theorem dX4_held_2 : decode cX4_held 2 = .ok (.ifCond .lt 21, 3) := by decide +kernel
theorem dX4_held_5 : decode cX4_held 5 = .ok (.iload_n 1, 1) := by decide +kernel
theorem dX4_held_6 : decode cX4_held 6 = .ok (.aload_n 0, 1) := by decide +kernel
theorem dX4_held_7 : decode cX4_held 7 = .ok (.getfield 54, 3) := by decide +kernel
theorem dX4_held_10 : decode cX4_held 10 = .ok (.if_icmp .ge 13, 3) := by decide +kernel
theorem dX4_held_13 : decode cX4_held 13 = .ok (.iload_n 2, 1) := by decide +kernel
theorem dX4_held_14 : decode cX4_held 14 = .ok (.iconst (-1), 1) := by decide +kernel
theorem dX4_held_15 : decode cX4_held 15 = .ok (.bipush 15, 2) := by decide +kernel
theorem dX4_held_17 : decode cX4_held 17 = .ok (.invokestatic 67, 3) := by decide +kernel
theorem dX4_held_20 : decode cX4_held 20 = .ok (.ifCond .ne 7, 3) := by decide +kernel
theorem dX4_held_23 : decode cX4_held 23 = .ok (.iconst 1, 1) := by decide +kernel
theorem dX4_held_24 : decode cX4_held 24 = .ok (.goto 4, 3) := by decide +kernel
theorem dX4_held_27 : decode cX4_held 27 = .ok (.iconst 0, 1) := by decide +kernel
theorem dX4_held_28 : decode cX4_held 28 = .ok (.iconst 1, 1) := by decide +kernel
theorem dX4_held_29 : decode cX4_held 29 = .ok (.invokevirtual 102, 3) := by decide +kernel
theorem dX4_held_32 : decode cX4_held 32 = .ok (.ifCond .eq 5, 3) := by decide +kernel
theorem dX4_held_35 : decode cX4_held 35 = .ok (.iconst 0, 1) := by decide +kernel
theorem dX4_held_36 : decode cX4_held 36 = .ok (.ireturn, 1) := by decide +kernel
theorem dX4_held_37 : decode cX4_held 37 = .ok (.iload_n 2, 1) := by decide +kernel
theorem dX4_held_38 : decode cX4_held 38 = .ok (.iconst (-1), 1) := by decide +kernel
theorem dX4_held_39 : decode cX4_held 39 = .ok (.if_icmp .ne 12, 3) := by decide +kernel
theorem dX4_held_42 : decode cX4_held 42 = .ok (.aload_n 0, 1) := by decide +kernel
theorem dX4_held_43 : decode cX4_held 43 = .ok (.getfield 29, 3) := by decide +kernel
theorem dX4_held_46 : decode cX4_held 46 = .ok (.iload_n 1, 1) := by decide +kernel
theorem dX4_held_47 : decode cX4_held 47 = .ok (.iaload, 1) := by decide +kernel
theorem dX4_held_48 : decode cX4_held 48 = .ok (.goto 14, 3) := by decide +kernel
theorem dX4_held_51 : decode cX4_held 51 = .ok (.aload_n 0, 1) := by decide +kernel
theorem dX4_held_52 : decode cX4_held 52 = .ok (.getfield 32, 3) := by decide +kernel
theorem dX4_held_55 : decode cX4_held 55 = .ok (.bipush 16, 2) := by decide +kernel
theorem dX4_held_57 : decode cX4_held 57 = .ok (.iload_n 1, 1) := by decide +kernel
theorem dX4_held_58 : decode cX4_held 58 = .ok (.imul, 1) := by decide +kernel
theorem dX4_held_59 : decode cX4_held 59 = .ok (.iload_n 2, 1) := by decide +kernel
theorem dX4_held_60 : decode cX4_held 60 = .ok (.iadd, 1) := by decide +kernel
theorem dX4_held_61 : decode cX4_held 61 = .ok (.iaload, 1) := by decide +kernel
theorem dX4_held_62 : decode cX4_held 62 = .ok (.ireturn, 1) := by decide +kernel
abbrev zm_X4_held : zg_M := (RX4, cX4_held, 3, (some .int), [])
theorem dX4_total_0 : decode cX4_total 0 = .ok (.aload_n 0, 1) := by decide +kernel
theorem dX4_total_1 : decode cX4_total 1 = .ok (.iload_n 1, 1) := by decide +kernel
theorem dX4_total_2 : decode cX4_total 2 = .ok (.iconst 0, 1) := by decide +kernel
theorem dX4_total_3 : decode cX4_total 3 = .ok (.bipush 7, 2) := by decide +kernel
theorem dX4_total_5 : decode cX4_total 5 = .ok (.invokestatic 67, 3) := by decide +kernel
theorem dX4_total_8 : decode cX4_total 8 = .ok (.ifCond .ne 7, 3) := by decide +kernel
theorem dX4_total_11 : decode cX4_total 11 = .ok (.iconst 1, 1) := by decide +kernel
theorem dX4_total_12 : decode cX4_total 12 = .ok (.goto 4, 3) := by decide +kernel
theorem dX4_total_15 : decode cX4_total 15 = .ok (.iconst 0, 1) := by decide +kernel
theorem dX4_total_16 : decode cX4_total 16 = .ok (.iconst 1, 1) := by decide +kernel
theorem dX4_total_17 : decode cX4_total 17 = .ok (.invokevirtual 102, 3) := by decide +kernel
theorem dX4_total_20 : decode cX4_total 20 = .ok (.ifCond .eq 5, 3) := by decide +kernel
theorem dX4_total_23 : decode cX4_total 23 = .ok (.iconst 0, 1) := by decide +kernel
theorem dX4_total_24 : decode cX4_total 24 = .ok (.ireturn, 1) := by decide +kernel
theorem dX4_total_25 : decode cX4_total 25 = .ok (.iload_n 1, 1) := by decide +kernel
theorem dX4_total_26 : decode cX4_total 26 = .ok (.ifCond .ne 8, 3) := by decide +kernel
theorem dX4_total_29 : decode cX4_total 29 = .ok (.aload_n 0, 1) := by decide +kernel
theorem dX4_total_30 : decode cX4_total 30 = .ok (.getfield 54, 3) := by decide +kernel
theorem dX4_total_33 : decode cX4_total 33 = .ok (.ireturn, 1) := by decide +kernel
theorem dX4_total_34 : decode cX4_total 34 = .ok (.iload_n 1, 1) := by decide +kernel
theorem dX4_total_35 : decode cX4_total 35 = .ok (.bipush 7, 2) := by decide +kernel
theorem dX4_total_37 : decode cX4_total 37 = .ok (.if_icmp .ne 16, 3) := by decide +kernel
theorem dX4_total_40 : decode cX4_total 40 = .ok (.aload_n 0, 1) := by decide +kernel
theorem dX4_total_41 : decode cX4_total 41 = .ok (.getfield 64, 3) := by decide +kernel
theorem dX4_total_44 : decode cX4_total 44 = .ok (.ifCond .eq 7, 3) := by decide +kernel
theorem dX4_total_47 : decode cX4_total 47 = .ok (.iconst 1, 1) := by decide +kernel
theorem dX4_total_48 : decode cX4_total 48 = .ok (.goto 4, 3) := by decide +kernel
theorem dX4_total_51 : decode cX4_total 51 = .ok (.iconst 0, 1) := by decide +kernel
theorem dX4_total_52 : decode cX4_total 52 = .ok (.ireturn, 1) := by decide +kernel
theorem dX4_total_53 : decode cX4_total 53 = .ok (.aload_n 0, 1) := by decide +kernel
theorem dX4_total_54 : decode cX4_total 54 = .ok (.getfield 64, 3) := by decide +kernel
theorem dX4_total_57 : decode cX4_total 57 = .ok (.ifCond .eq 5, 3) := by decide +kernel
theorem dX4_total_60 : decode cX4_total 60 = .ok (.iconst (-1), 1) := by decide +kernel
theorem dX4_total_61 : decode cX4_total 61 = .ok (.ireturn, 1) := by decide +kernel
theorem dX4_total_62 : decode cX4_total 62 = .ok (.iconst 0, 1) := by decide +kernel
theorem dX4_total_63 : decode cX4_total 63 = .ok (.istore_n 2, 1) := by decide +kernel
theorem dX4_total_64 : decode cX4_total 64 = .ok (.iload_n 1, 1) := by decide +kernel
theorem dX4_total_65 : decode cX4_total 65 = .ok (.tableswitch 98 1 5 #[35, 51, 83, 88, 93], 35) := by decide +kernel
theorem dX4_total_100 : decode cX4_total 100 = .ok (.aload_n 0, 1) := by decide +kernel
theorem dX4_total_101 : decode cX4_total 101 = .ok (.getfield 61, 3) := by decide +kernel
theorem dX4_total_104 : decode cX4_total 104 = .ok (.ifCond .eq 10, 3) := by decide +kernel
theorem dX4_total_107 : decode cX4_total 107 = .ok (.aload_n 0, 1) := by decide +kernel
theorem dX4_total_108 : decode cX4_total 108 = .ok (.invokevirtual 111, 3) := by decide +kernel
theorem dX4_total_111 : decode cX4_total 111 = .ok (.goto 4, 3) := by decide +kernel
theorem dX4_total_114 : decode cX4_total 114 = .ok (.iconst (-1), 1) := by decide +kernel
theorem dX4_total_115 : decode cX4_total 115 = .ok (.ireturn, 1) := by decide +kernel
theorem dX4_total_116 : decode cX4_total 116 = .ok (.iconst 0, 1) := by decide +kernel
theorem dX4_total_117 : decode cX4_total 117 = .ok (.istore_n 3, 1) := by decide +kernel
theorem dX4_total_118 : decode cX4_total 118 = .ok (.iload_n 3, 1) := by decide +kernel
theorem dX4_total_119 : decode cX4_total 119 = .ok (.bipush 48, 2) := by decide +kernel
theorem dX4_total_121 : decode cX4_total 121 = .ok (.if_icmp .ge 25, 3) := by decide +kernel
theorem dX4_total_124 : decode cX4_total 124 = .ok (.iload_n 2, 1) := by decide +kernel
theorem dX4_total_125 : decode cX4_total 125 = .ok (.aload_n 0, 1) := by decide +kernel
theorem dX4_total_126 : decode cX4_total 126 = .ok (.iload_n 3, 1) := by decide +kernel
theorem dX4_total_127 : decode cX4_total 127 = .ok (.invokevirtual 86, 3) := by decide +kernel
theorem dX4_total_130 : decode cX4_total 130 = .ok (.ifCond .eq 7, 3) := by decide +kernel
theorem dX4_total_133 : decode cX4_total 133 = .ok (.iconst 1, 1) := by decide +kernel
theorem dX4_total_134 : decode cX4_total 134 = .ok (.goto 4, 3) := by decide +kernel
theorem dX4_total_137 : decode cX4_total 137 = .ok (.iconst 0, 1) := by decide +kernel
theorem dX4_total_138 : decode cX4_total 138 = .ok (.iadd, 1) := by decide +kernel
theorem dX4_total_139 : decode cX4_total 139 = .ok (.istore_n 2, 1) := by decide +kernel
theorem dX4_total_140 : decode cX4_total 140 = .ok (.iinc 3 1, 3) := by decide +kernel
theorem dX4_total_143 : decode cX4_total 143 = .ok (.goto (-25), 3) := by decide +kernel
theorem dX4_total_146 : decode cX4_total 146 = .ok (.iload_n 2, 1) := by decide +kernel
theorem dX4_total_147 : decode cX4_total 147 = .ok (.ireturn, 1) := by decide +kernel
theorem dX4_total_148 : decode cX4_total 148 = .ok (.aload_n 0, 1) := by decide +kernel
theorem dX4_total_149 : decode cX4_total 149 = .ok (.getfield 74, 3) := by decide +kernel
theorem dX4_total_152 : decode cX4_total 152 = .ok (.ireturn, 1) := by decide +kernel
theorem dX4_total_153 : decode cX4_total 153 = .ok (.aload_n 0, 1) := by decide +kernel
theorem dX4_total_154 : decode cX4_total 154 = .ok (.getfield 71, 3) := by decide +kernel
theorem dX4_total_157 : decode cX4_total 157 = .ok (.ireturn, 1) := by decide +kernel
theorem dX4_total_158 : decode cX4_total 158 = .ok (.aload_n 0, 1) := by decide +kernel
theorem dX4_total_159 : decode cX4_total 159 = .ok (.getfield 83, 3) := by decide +kernel
theorem dX4_total_162 : decode cX4_total 162 = .ok (.ireturn, 1) := by decide +kernel
theorem dX4_total_163 : decode cX4_total 163 = .ok (.aload_n 0, 1) := by decide +kernel
theorem dX4_total_164 : decode cX4_total 164 = .ok (.getfield 80, 3) := by decide +kernel
theorem dX4_total_167 : decode cX4_total 167 = .ok (.ireturn, 1) := by decide +kernel
abbrev zm_X4_total : zg_M := (RX4, cX4_total, 4, (some .int), [])
