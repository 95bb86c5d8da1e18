theorem dX0_init_0 : decode cX0_init 0 = .ok (.aload_n 0, 1) := by decide +kernel
theorem dX0_init_1 : decode cX0_init 1 = .ok (.invokespecial 1, 3) := by decide +kernel
theorem dX0_init_4 : decode cX0_init 4 = .ok (.aload_n 0, 1) := by decide +kernel
theorem dX0_init_5 : decode cX0_init 5 = .ok (.lconst 0, 1) := by decide +kernel
theorem dX0_init_6 : decode cX0_init 6 = .ok (.putfield 7, 3) := by decide +kernel
theorem dX0_init_9 : decode cX0_init 9 = .ok (.aload_n 0, 1) := by decide +kernel
theorem dX0_init_10 : decode cX0_init 10 = .ok (.lconst 0, 1) := by decide +kernel
theorem dX0_init_11 : decode cX0_init 11 = .ok (.putfield 13, 3) := by decide +kernel
theorem dX0_init_14 : decode cX0_init 14 = .ok (.aload_n 0, 1) := by decide +kernel
theorem dX0_init_15 : decode cX0_init 15 = .ok (.iload_n 1, 1) := by decide +kernel
theorem dX0_init_16 : decode cX0_init 16 = .ok (.putfield 16, 3) := by decide +kernel
theorem dX0_init_19 : decode cX0_init 19 = .ok (.aload_n 0, 1) := by decide +kernel
theorem dX0_init_20 : decode cX0_init 20 = .ok (.iload_n 2, 1) := by decide +kernel
theorem dX0_init_21 : decode cX0_init 21 = .ok (.putfield 20, 3) := by decide +kernel
theorem dX0_init_24 : decode cX0_init 24 = .ok (.aload_n 0, 1) := by decide +kernel
theorem dX0_init_25 : decode cX0_init 25 = .ok (.iload_n 3, 1) := by decide +kernel
theorem dX0_init_26 : decode cX0_init 26 = .ok (.putfield 23, 3) := by decide +kernel
theorem dX0_init_29 : decode cX0_init 29 = .ok (.aload_n 0, 1) := by decide +kernel
theorem dX0_init_30 : decode cX0_init 30 = .ok (.iload 4, 2) := by decide +kernel
theorem dX0_init_32 : decode cX0_init 32 = .ok (.putfield 26, 3) := by decide +kernel
theorem dX0_init_35 : decode cX0_init 35 = .ok (.aload_n 0, 1) := by decide +kernel
theorem dX0_init_36 : decode cX0_init 36 = .ok (.iload 5, 2) := by decide +kernel
theorem dX0_init_38 : decode cX0_init 38 = .ok (.putfield 29, 3) := by decide +kernel
theorem dX0_init_41 : decode cX0_init 41 = .ok (.return_, 1) := by decide +kernel
theorem dX0_isUnder_0 : decode cX0_isUnder 0 = .ok (.iload_n 0, 1) := by decide +kernel
theorem dX0_isUnder_1 : decode cX0_isUnder 1 = .ok (.istore_n 2, 1) := by decide +kernel
theorem dX0_isUnder_2 : decode cX0_isUnder 2 = .ok (.iconst 0, 1) := by decide +kernel
theorem dX0_isUnder_3 : decode cX0_isUnder 3 = .ok (.istore_n 3, 1) := by decide +kernel
theorem dX0_isUnder_4 : decode cX0_isUnder 4 = .ok (.iload_n 3, 1) := by decide +kernel
theorem dX0_isUnder_5 : decode cX0_isUnder 5 = .ok (.bipush 6, 2) := by decide +kernel
theorem dX0_isUnder_7 : decode cX0_isUnder 7 = .ok (.if_icmp .ge 32, 3) := by decide +kernel
theorem dX0_isUnder_10 : decode cX0_isUnder 10 = .ok (.iload_n 2, 1) := by decide +kernel
theorem dX0_isUnder_11 : decode cX0_isUnder 11 = .ok (.ifCond .lt 28, 3) := by decide +kernel
theorem dX0_isUnder_14 : decode cX0_isUnder 14 = .ok (.iload_n 2, 1) := by decide +kernel
theorem dX0_isUnder_15 : decode cX0_isUnder 15 = .ok (.bipush 6, 2) := by decide +kernel
theorem dX0_isUnder_17 : decode cX0_isUnder 17 = .ok (.if_icmp .ge 22, 3) := by decide +kernel
theorem dX0_isUnder_20 : decode cX0_isUnder 20 = .ok (.iload_n 2, 1) := by decide +kernel
theorem dX0_isUnder_21 : decode cX0_isUnder 21 = .ok (.iload_n 1, 1) := by decide +kernel
theorem dX0_isUnder_22 : decode cX0_isUnder 22 = .ok (.if_icmp .ne 5, 3) := by decide +kernel
theorem dX0_isUnder_25 : decode cX0_isUnder 25 = .ok (.iconst 1, 1) := by decide +kernel
theorem dX0_isUnder_26 : decode cX0_isUnder 26 = .ok (.ireturn, 1) := by decide +kernel
theorem dX0_isUnder_27 : decode cX0_isUnder 27 = .ok (.getstatic 32, 3) := by decide +kernel
theorem dX0_isUnder_30 : decode cX0_isUnder 30 = .ok (.iload_n 2, 1) := by decide +kernel
theorem dX0_isUnder_31 : decode cX0_isUnder 31 = .ok (.iaload, 1) := by decide +kernel
theorem dX0_isUnder_32 : decode cX0_isUnder 32 = .ok (.istore_n 2, 1) := by decide +kernel
theorem dX0_isUnder_33 : decode cX0_isUnder 33 = .ok (.iinc 3 1, 3) := by decide +kernel
theorem dX0_isUnder_36 : decode cX0_isUnder 36 = .ok (.goto (-32), 3) := by decide +kernel
theorem dX0_isUnder_39 : decode cX0_isUnder 39 = .ok (.iconst 0, 1) := by decide +kernel
theorem dX0_isUnder_40 : decode cX0_isUnder 40 = .ok (.ireturn, 1) := by decide +kernel
theorem dX0_isOf_0 : decode cX0_isOf 0 = .ok (.iload_n 1, 1) := by decide +kernel
theorem dX0_isOf_1 : decode cX0_isOf 1 = .ok (.aload_n 0, 1) := by decide +kernel
theorem dX0_isOf_2 : decode cX0_isOf 2 = .ok (.getfield 20, 3) := by decide +kernel
theorem dX0_isOf_5 : decode cX0_isOf 5 = .ok (.if_icmp .eq 11, 3) := by decide +kernel
theorem dX0_isOf_8 : decode cX0_isOf 8 = .ok (.iload_n 1, 1) := by decide +kernel
theorem dX0_isOf_9 : decode cX0_isOf 9 = .ok (.aload_n 0, 1) := by decide +kernel
theorem dX0_isOf_10 : decode cX0_isOf 10 = .ok (.getfield 23, 3) := by decide +kernel
theorem dX0_isOf_13 : decode cX0_isOf 13 = .ok (.if_icmp .ne 7, 3) := by decide +kernel
theorem dX0_isOf_16 : decode cX0_isOf 16 = .ok (.iconst 1, 1) := by decide +kernel
theorem dX0_isOf_17 : decode cX0_isOf 17 = .ok (.goto 4, 3) := by decide +kernel
theorem dX0_isOf_20 : decode cX0_isOf 20 = .ok (.iconst 0, 1) := by decide +kernel
theorem dX0_isOf_21 : decode cX0_isOf 21 = .ok (.ireturn, 1) := by decide +kernel
theorem dX0_beyond_0 : decode cX0_beyond 0 = .ok (.iload_n 1, 1) := by decide +kernel
theorem dX0_beyond_1 : decode cX0_beyond 1 = .ok (.aload_n 0, 1) := by decide +kernel
theorem dX0_beyond_2 : decode cX0_beyond 2 = .ok (.getfield 20, 3) := by decide +kernel
theorem dX0_beyond_5 : decode cX0_beyond 5 = .ok (.if_icmp .ne 10, 3) := by decide +kernel
theorem dX0_beyond_8 : decode cX0_beyond 8 = .ok (.aload_n 0, 1) := by decide +kernel
theorem dX0_beyond_9 : decode cX0_beyond 9 = .ok (.getfield 23, 3) := by decide +kernel
theorem dX0_beyond_12 : decode cX0_beyond 12 = .ok (.goto 7, 3) := by decide +kernel
theorem dX0_beyond_15 : decode cX0_beyond 15 = .ok (.aload_n 0, 1) := by decide +kernel
theorem dX0_beyond_16 : decode cX0_beyond 16 = .ok (.getfield 20, 3) := by decide +kernel
theorem dX0_beyond_19 : decode cX0_beyond 19 = .ok (.ireturn, 1) := by decide +kernel
theorem dX0_opensByKind_0 : decode cX0_opensByKind 0 = .ok (.aload_n 0, 1) := by decide +kernel
theorem dX0_opensByKind_1 : decode cX0_opensByKind 1 = .ok (.getfield 16, 3) := by decide +kernel
theorem dX0_opensByKind_4 : decode cX0_opensByKind 4 = .ok (.tableswitch 103 1 5 #[36, 46, 62, 72, 82], 36) := by decide +kernel
theorem dX0_opensByKind_40 : decode cX0_opensByKind 40 = .ok (.iload_n 3, 1) := by decide +kernel
theorem dX0_opensByKind_41 : decode cX0_opensByKind 41 = .ok (.ifCond .le 7, 3) := by decide +kernel
theorem dX0_opensByKind_44 : decode cX0_opensByKind 44 = .ok (.iconst 1, 1) := by decide +kernel
theorem dX0_opensByKind_45 : decode cX0_opensByKind 45 = .ok (.goto 4, 3) := by decide +kernel
theorem dX0_opensByKind_48 : decode cX0_opensByKind 48 = .ok (.iconst 0, 1) := by decide +kernel
theorem dX0_opensByKind_49 : decode cX0_opensByKind 49 = .ok (.ireturn, 1) := by decide +kernel
theorem dX0_opensByKind_50 : decode cX0_opensByKind 50 = .ok (.iload_n 2, 1) := by decide +kernel
theorem dX0_opensByKind_51 : decode cX0_opensByKind 51 = .ok (.aload_n 0, 1) := by decide +kernel
theorem dX0_opensByKind_52 : decode cX0_opensByKind 52 = .ok (.getfield 29, 3) := by decide +kernel
theorem dX0_opensByKind_55 : decode cX0_opensByKind 55 = .ok (.iconst 4, 1) := by decide +kernel
theorem dX0_opensByKind_56 : decode cX0_opensByKind 56 = .ok (.irem, 1) := by decide +kernel
theorem dX0_opensByKind_57 : decode cX0_opensByKind 57 = .ok (.if_icmp .ne 7, 3) := by decide +kernel
theorem dX0_opensByKind_60 : decode cX0_opensByKind 60 = .ok (.iconst 1, 1) := by decide +kernel
theorem dX0_opensByKind_61 : decode cX0_opensByKind 61 = .ok (.goto 4, 3) := by decide +kernel
theorem dX0_opensByKind_64 : decode cX0_opensByKind 64 = .ok (.iconst 0, 1) := by decide +kernel
theorem dX0_opensByKind_65 : decode cX0_opensByKind 65 = .ok (.ireturn, 1) := by decide +kernel
theorem dX0_opensByKind_66 : decode cX0_opensByKind 66 = .ok (.iload_n 1, 1) := by decide +kernel
theorem dX0_opensByKind_67 : decode cX0_opensByKind 67 = .ok (.ifCond .ne 7, 3) := by decide +kernel
theorem dX0_opensByKind_70 : decode cX0_opensByKind 70 = .ok (.iconst 1, 1) := by decide +kernel
theorem dX0_opensByKind_71 : decode cX0_opensByKind 71 = .ok (.goto 4, 3) := by decide +kernel
theorem dX0_opensByKind_74 : decode cX0_opensByKind 74 = .ok (.iconst 0, 1) := by decide +kernel
theorem dX0_opensByKind_75 : decode cX0_opensByKind 75 = .ok (.ireturn, 1) := by decide +kernel
theorem dX0_opensByKind_76 : decode cX0_opensByKind 76 = .ok (.iload_n 3, 1) := by decide +kernel
theorem dX0_opensByKind_77 : decode cX0_opensByKind 77 = .ok (.ifCond .ne 7, 3) := by decide +kernel
theorem dX0_opensByKind_80 : decode cX0_opensByKind 80 = .ok (.iconst 1, 1) := by decide +kernel
theorem dX0_opensByKind_81 : decode cX0_opensByKind 81 = .ok (.goto 4, 3) := by decide +kernel
theorem dX0_opensByKind_84 : decode cX0_opensByKind 84 = .ok (.iconst 0, 1) := by decide +kernel
theorem dX0_opensByKind_85 : decode cX0_opensByKind 85 = .ok (.ireturn, 1) := by decide +kernel
theorem dX0_opensByKind_86 : decode cX0_opensByKind 86 = .ok (.iload_n 2, 1) := by decide +kernel
theorem dX0_opensByKind_87 : decode cX0_opensByKind 87 = .ok (.aload_n 0, 1) := by decide +kernel
theorem dX0_opensByKind_88 : decode cX0_opensByKind 88 = .ok (.getfield 29, 3) := by decide +kernel
theorem dX0_opensByKind_91 : decode cX0_opensByKind 91 = .ok (.iconst 4, 1) := by decide +kernel
theorem dX0_opensByKind_92 : decode cX0_opensByKind 92 = .ok (.irem, 1) := by decide +kernel
theorem dX0_opensByKind_93 : decode cX0_opensByKind 93 = .ok (.if_icmp .ne 12, 3) := by decide +kernel
theorem dX0_opensByKind_96 : decode cX0_opensByKind 96 = .ok (.iload_n 1, 1) := by decide +kernel
theorem dX0_opensByKind_97 : decode cX0_opensByKind 97 = .ok (.iconst 2, 1) := by decide +kernel
theorem dX0_opensByKind_98 : decode cX0_opensByKind 98 = .ok (.if_icmp .ge 7, 3) := by decide +kernel
theorem dX0_opensByKind_101 : decode cX0_opensByKind 101 = .ok (.iconst 1, 1) := by decide +kernel
theorem dX0_opensByKind_102 : decode cX0_opensByKind 102 = .ok (.goto 4, 3) := by decide +kernel
theorem dX0_opensByKind_105 : decode cX0_opensByKind 105 = .ok (.iconst 0, 1) := by decide +kernel
theorem dX0_opensByKind_106 : decode cX0_opensByKind 106 = .ok (.ireturn, 1) := by decide +kernel
theorem dX0_opensByKind_107 : decode cX0_opensByKind 107 = .ok (.iconst 1, 1) := by decide +kernel
theorem dX0_opensByKind_108 : decode cX0_opensByKind 108 = .ok (.ireturn, 1) := by decide +kernel
theorem dX0_next_0 : decode cX0_next 0 = .ok (.iload_n 1, 1) := by decide +kernel
theorem dX0_next_1 : decode cX0_next 1 = .ok (.iconst 1, 1) := by decide +kernel
theorem dX0_next_2 : decode cX0_next 2 = .ok (.iadd, 1) := by decide +kernel
theorem dX0_next_3 : decode cX0_next 3 = .ok (.iconst 3, 1) := by decide +kernel
theorem dX0_next_4 : decode cX0_next 4 = .ok (.invokestatic 36, 3) := by decide +kernel
theorem dX0_next_7 : decode cX0_next 7 = .ok (.istore_n 2, 1) := by decide +kernel
theorem dX0_next_8 : decode cX0_next 8 = .ok (.iload_n 1, 1) := by decide +kernel
theorem dX0_next_9 : decode cX0_next 9 = .ok (.iconst 1, 1) := by decide +kernel
theorem dX0_next_10 : decode cX0_next 10 = .ok (.iadd, 1) := by decide +kernel
theorem dX0_next_11 : decode cX0_next 11 = .ok (.iconst 3, 1) := by decide +kernel
theorem dX0_next_12 : decode cX0_next 12 = .ok (.iand, 1) := by decide +kernel
theorem dX0_next_13 : decode cX0_next 13 = .ok (.istore_n 3, 1) := by decide +kernel
theorem dX0_next_14 : decode cX0_next 14 = .ok (.aload_n 0, 1) := by decide +kernel
theorem dX0_next_15 : decode cX0_next 15 = .ok (.getfield 16, 3) := by decide +kernel
theorem dX0_next_18 : decode cX0_next 18 = .ok (.tableswitch 51 2 5 #[30, 32, 34, 45], 30) := by decide +kernel
theorem dX0_next_48 : decode cX0_next 48 = .ok (.iload_n 3, 1) := by decide +kernel
theorem dX0_next_49 : decode cX0_next 49 = .ok (.ireturn, 1) := by decide +kernel
theorem dX0_next_50 : decode cX0_next 50 = .ok (.iconst 3, 1) := by decide +kernel
theorem dX0_next_51 : decode cX0_next 51 = .ok (.ireturn, 1) := by decide +kernel
theorem dX0_next_52 : decode cX0_next 52 = .ok (.iload_n 2, 1) := by decide +kernel
theorem dX0_next_53 : decode cX0_next 53 = .ok (.iconst 3, 1) := by decide +kernel
theorem dX0_next_54 : decode cX0_next 54 = .ok (.if_icmp .ne 7, 3) := by decide +kernel
theorem dX0_next_57 : decode cX0_next 57 = .ok (.iconst 0, 1) := by decide +kernel
theorem dX0_next_58 : decode cX0_next 58 = .ok (.goto 4, 3) := by decide +kernel
theorem dX0_next_61 : decode cX0_next 61 = .ok (.iload_n 2, 1) := by decide +kernel
theorem dX0_next_62 : decode cX0_next 62 = .ok (.ireturn, 1) := by decide +kernel
theorem dX0_next_63 : decode cX0_next 63 = .ok (.iload_n 3, 1) := by decide +kernel
theorem dX0_next_64 : decode cX0_next 64 = .ok (.iconst 2, 1) := by decide +kernel
theorem dX0_next_65 : decode cX0_next 65 = .ok (.invokestatic 36, 3) := by decide +kernel
theorem dX0_next_68 : decode cX0_next 68 = .ok (.ireturn, 1) := by decide +kernel
theorem dX0_next_69 : decode cX0_next 69 = .ok (.iload_n 2, 1) := by decide +kernel
theorem dX0_next_70 : decode cX0_next 70 = .ok (.ireturn, 1) := by decide +kernel
theorem dX0_bit_0 : decode cX0_bit 0 = .ok (.iload_n 0, 1) := by decide +kernel
theorem dX0_bit_1 : decode cX0_bit 1 = .ok (.bipush 16, 2) := by decide +kernel
theorem dX0_bit_3 : decode cX0_bit 3 = .ok (.imul, 1) := by decide +kernel
theorem dX0_bit_4 : decode cX0_bit 4 = .ok (.iload_n 1, 1) := by decide +kernel
theorem dX0_bit_5 : decode cX0_bit 5 = .ok (.iconst 4, 1) := by decide +kernel
theorem dX0_bit_6 : decode cX0_bit 6 = .ok (.imul, 1) := by decide +kernel
theorem dX0_bit_7 : decode cX0_bit 7 = .ok (.iadd, 1) := by decide +kernel
theorem dX0_bit_8 : decode cX0_bit 8 = .ok (.iload_n 2, 1) := by decide +kernel
theorem dX0_bit_9 : decode cX0_bit 9 = .ok (.iadd, 1) := by decide +kernel
theorem dX0_bit_10 : decode cX0_bit 10 = .ok (.ireturn, 1) := by decide +kernel
theorem dX0_opens_0 : decode cX0_opens 0 = .ok (.iload_n 1, 1) := by decide +kernel
theorem dX0_opens_1 : decode cX0_opens 1 = .ok (.aload_n 0, 1) := by decide +kernel
theorem dX0_opens_2 : decode cX0_opens 2 = .ok (.getfield 20, 3) := by decide +kernel
theorem dX0_opens_5 : decode cX0_opens 5 = .ok (.if_icmp .ne 10, 3) := by decide +kernel
theorem dX0_opens_8 : decode cX0_opens 8 = .ok (.aload_n 0, 1) := by decide +kernel
theorem dX0_opens_9 : decode cX0_opens 9 = .ok (.getfield 7, 3) := by decide +kernel
theorem dX0_opens_12 : decode cX0_opens 12 = .ok (.goto 7, 3) := by decide +kernel
theorem dX0_opens_15 : decode cX0_opens 15 = .ok (.aload_n 0, 1) := by decide +kernel
theorem dX0_opens_16 : decode cX0_opens 16 = .ok (.getfield 13, 3) := by decide +kernel
theorem dX0_opens_19 : decode cX0_opens 19 = .ok (.lstore_n 3, 1) := by decide +kernel
theorem dX0_opens_20 : decode cX0_opens 20 = .ok (.lload_n 3, 1) := by decide +kernel
theorem dX0_opens_21 : decode cX0_opens 21 = .ok (.iload_n 2, 1) := by decide +kernel
theorem dX0_opens_22 : decode cX0_opens 22 = .ok (.lshr, 1) := by decide +kernel
theorem dX0_opens_23 : decode cX0_opens 23 = .ok (.lconst 1, 1) := by decide +kernel
theorem dX0_opens_24 : decode cX0_opens 24 = .ok (.land, 1) := by decide +kernel
theorem dX0_opens_25 : decode cX0_opens 25 = .ok (.lconst 0, 1) := by decide +kernel
theorem dX0_opens_26 : decode cX0_opens 26 = .ok (.lcmp, 1) := by decide +kernel
theorem dX0_opens_27 : decode cX0_opens 27 = .ok (.ifCond .eq 7, 3) := by decide +kernel
theorem dX0_opens_30 : decode cX0_opens 30 = .ok (.iconst 1, 1) := by decide +kernel
theorem dX0_opens_31 : decode cX0_opens 31 = .ok (.goto 4, 3) := by decide +kernel
theorem dX0_opens_34 : decode cX0_opens 34 = .ok (.iconst 0, 1) := by decide +kernel
theorem dX0_opens_35 : decode cX0_opens 35 = .ok (.ireturn, 1) := by decide +kernel
theorem dX1_init_0 : decode cX1_init 0 = .ok (.aload_n 0, 1) := by decide +kernel
theorem dX1_init_1 : decode cX1_init 1 = .ok (.invokespecial 3, 3) := by decide +kernel
theorem dX1_init_4 : decode cX1_init 4 = .ok (.aload_n 0, 1) := by decide +kernel
theorem dX1_init_5 : decode cX1_init 5 = .ok (.iconst 3, 1) := by decide +kernel
theorem dX1_init_6 : decode cX1_init 6 = .ok (.putfield 9, 3) := by decide +kernel
theorem dX1_init_9 : decode cX1_init 9 = .ok (.aload_n 0, 1) := by decide +kernel
theorem dX1_init_10 : decode cX1_init 10 = .ok (.iconst 0, 1) := by decide +kernel
theorem dX1_init_11 : decode cX1_init 11 = .ok (.putfield 15, 3) := by decide +kernel
theorem dX1_init_14 : decode cX1_init 14 = .ok (.aload_n 0, 1) := by decide +kernel
theorem dX1_init_15 : decode cX1_init 15 = .ok (.iconst 4, 1) := by decide +kernel
theorem dX1_init_16 : decode cX1_init 16 = .ok (.anewarray 18, 3) := by decide +kernel
theorem dX1_init_19 : decode cX1_init 19 = .ok (.putfield 20, 3) := by decide +kernel
theorem dX1_init_22 : decode cX1_init 22 = .ok (.aload_n 0, 1) := by decide +kernel
theorem dX1_init_23 : decode cX1_init 23 = .ok (.bipush 6, 2) := by decide +kernel
theorem dX1_init_25 : decode cX1_init 25 = .ok (.newarray .int, 2) := by decide +kernel
theorem dX1_init_27 : decode cX1_init 27 = .ok (.putfield 26, 3) := by decide +kernel
theorem dX1_init_30 : decode cX1_init 30 = .ok (.aload_n 0, 1) := by decide +kernel
theorem dX1_init_31 : decode cX1_init 31 = .ok (.new 24, 3) := by decide +kernel
theorem dX1_init_34 : decode cX1_init 34 = .ok (.dup, 1) := by decide +kernel
theorem dX1_init_35 : decode cX1_init 35 = .ok (.invokespecial 30, 3) := by decide +kernel
theorem dX1_init_38 : decode cX1_init 38 = .ok (.putfield 31, 3) := by decide +kernel
theorem dX1_init_41 : decode cX1_init 41 = .ok (.return_, 1) := by decide +kernel
theorem dX1_hasRoom_0 : decode cX1_hasRoom 0 = .ok (.iload_n 1, 1) := by decide +kernel
theorem dX1_hasRoom_1 : decode cX1_hasRoom 1 = .ok (.ifCond .lt 15, 3) := by decide +kernel
theorem dX1_hasRoom_4 : decode cX1_hasRoom 4 = .ok (.iload_n 1, 1) := by decide +kernel
theorem dX1_hasRoom_5 : decode cX1_hasRoom 5 = .ok (.aload_n 0, 1) := by decide +kernel
theorem dX1_hasRoom_6 : decode cX1_hasRoom 6 = .ok (.getfield 9, 3) := by decide +kernel
theorem dX1_hasRoom_9 : decode cX1_hasRoom 9 = .ok (.if_icmp .ge 7, 3) := by decide +kernel
theorem dX1_hasRoom_12 : decode cX1_hasRoom 12 = .ok (.iconst 1, 1) := by decide +kernel
theorem dX1_hasRoom_13 : decode cX1_hasRoom 13 = .ok (.goto 4, 3) := by decide +kernel
theorem dX1_hasRoom_16 : decode cX1_hasRoom 16 = .ok (.iconst 0, 1) := by decide +kernel
theorem dX1_hasRoom_17 : decode cX1_hasRoom 17 = .ok (.ireturn, 1) := by decide +kernel
theorem dX1_doorAt_0 : decode cX1_doorAt 0 = .ok (.iload_n 1, 1) := by decide +kernel
theorem dX1_doorAt_1 : decode cX1_doorAt 1 = .ok (.ifCond .lt 25, 3) := by decide +kernel
theorem dX1_doorAt_4 : decode cX1_doorAt 4 = .ok (.iload_n 1, 1) := by decide +kernel
theorem dX1_doorAt_5 : decode cX1_doorAt 5 = .ok (.aload_n 0, 1) := by decide +kernel
theorem dX1_doorAt_6 : decode cX1_doorAt 6 = .ok (.getfield 15, 3) := by decide +kernel
theorem dX1_doorAt_9 : decode cX1_doorAt 9 = .ok (.if_icmp .ge 17, 3) := by decide +kernel
theorem dX1_doorAt_12 : decode cX1_doorAt 12 = .ok (.iload_n 1, 1) := by decide +kernel
theorem dX1_doorAt_13 : decode cX1_doorAt 13 = .ok (.iconst 4, 1) := by decide +kernel
theorem dX1_doorAt_14 : decode cX1_doorAt 14 = .ok (.if_icmp .ge 12, 3) := by decide +kernel
theorem dX1_doorAt_17 : decode cX1_doorAt 17 = .ok (.aload_n 0, 1) := by decide +kernel
theorem dX1_doorAt_18 : decode cX1_doorAt 18 = .ok (.getfield 20, 3) := by decide +kernel
theorem dX1_doorAt_21 : decode cX1_doorAt 21 = .ok (.iload_n 1, 1) := by decide +kernel
theorem dX1_doorAt_22 : decode cX1_doorAt 22 = .ok (.aaload, 1) := by decide +kernel
theorem dX1_doorAt_23 : decode cX1_doorAt 23 = .ok (.goto 4, 3) := by decide +kernel
theorem dX1_doorAt_26 : decode cX1_doorAt 26 = .ok (.aconst_null, 1) := by decide +kernel
theorem dX1_doorAt_27 : decode cX1_doorAt 27 = .ok (.areturn, 1) := by decide +kernel
theorem dX1_highestRoomOfDoors_0 : decode cX1_highestRoomOfDoors 0 = .ok (.iconst (-1), 1) := by decide +kernel
theorem dX1_highestRoomOfDoors_1 : decode cX1_highestRoomOfDoors 1 = .ok (.istore_n 1, 1) := by decide +kernel
theorem dX1_highestRoomOfDoors_2 : decode cX1_highestRoomOfDoors 2 = .ok (.iconst 0, 1) := by decide +kernel
theorem dX1_highestRoomOfDoors_3 : decode cX1_highestRoomOfDoors 3 = .ok (.istore_n 2, 1) := by decide +kernel
theorem dX1_highestRoomOfDoors_4 : decode cX1_highestRoomOfDoors 4 = .ok (.iload_n 2, 1) := by decide +kernel
theorem dX1_highestRoomOfDoors_5 : decode cX1_highestRoomOfDoors 5 = .ok (.aload_n 0, 1) := by decide +kernel
theorem dX1_highestRoomOfDoors_6 : decode cX1_highestRoomOfDoors 6 = .ok (.getfield 15, 3) := by decide +kernel
theorem dX1_highestRoomOfDoors_9 : decode cX1_highestRoomOfDoors 9 = .ok (.if_icmp .ge 35, 3) := by decide +kernel
theorem dX1_highestRoomOfDoors_12 : decode cX1_highestRoomOfDoors 12 = .ok (.aload_n 0, 1) := by decide +kernel
theorem dX1_highestRoomOfDoors_13 : decode cX1_highestRoomOfDoors 13 = .ok (.iload_n 2, 1) := by decide +kernel
theorem dX1_highestRoomOfDoors_14 : decode cX1_highestRoomOfDoors 14 = .ok (.invokevirtual 35, 3) := by decide +kernel
theorem dX1_highestRoomOfDoors_17 : decode cX1_highestRoomOfDoors 17 = .ok (.astore_n 3, 1) := by decide +kernel
theorem dX1_highestRoomOfDoors_18 : decode cX1_highestRoomOfDoors 18 = .ok (.aload_n 3, 1) := by decide +kernel
theorem dX1_highestRoomOfDoors_19 : decode cX1_highestRoomOfDoors 19 = .ok (.ifnull 19, 3) := by decide +kernel
theorem dX1_highestRoomOfDoors_22 : decode cX1_highestRoomOfDoors 22 = .ok (.iload_n 1, 1) := by decide +kernel
theorem dX1_highestRoomOfDoors_23 : decode cX1_highestRoomOfDoors 23 = .ok (.aload_n 3, 1) := by decide +kernel
theorem dX1_highestRoomOfDoors_24 : decode cX1_highestRoomOfDoors 24 = .ok (.getfield 39, 3) := by decide +kernel
theorem dX1_highestRoomOfDoors_27 : decode cX1_highestRoomOfDoors 27 = .ok (.aload_n 3, 1) := by decide +kernel
theorem dX1_highestRoomOfDoors_28 : decode cX1_highestRoomOfDoors 28 = .ok (.getfield 42, 3) := by decide +kernel
theorem dX1_highestRoomOfDoors_31 : decode cX1_highestRoomOfDoors 31 = .ok (.invokestatic 45, 3) := by decide +kernel
theorem dX1_highestRoomOfDoors_34 : decode cX1_highestRoomOfDoors 34 = .ok (.invokestatic 45, 3) := by decide +kernel
theorem dX1_highestRoomOfDoors_37 : decode cX1_highestRoomOfDoors 37 = .ok (.istore_n 1, 1) := by decide +kernel
theorem dX1_highestRoomOfDoors_38 : decode cX1_highestRoomOfDoors 38 = .ok (.iinc 2 1, 3) := by decide +kernel
theorem dX1_highestRoomOfDoors_41 : decode cX1_highestRoomOfDoors 41 = .ok (.goto (-37), 3) := by decide +kernel
theorem dX1_highestRoomOfDoors_44 : decode cX1_highestRoomOfDoors 44 = .ok (.iload_n 1, 1) := by decide +kernel
theorem dX1_highestRoomOfDoors_45 : decode cX1_highestRoomOfDoors 45 = .ok (.ireturn, 1) := by decide +kernel
theorem dX1_add_0 : decode cX1_add 0 = .ok (.aload_n 0, 1) := by decide +kernel
theorem dX1_add_1 : decode cX1_add 1 = .ok (.getfield 15, 3) := by decide +kernel
theorem dX1_add_4 : decode cX1_add 4 = .ok (.iconst 4, 1) := by decide +kernel
theorem dX1_add_5 : decode cX1_add 5 = .ok (.if_icmp .lt 6, 3) := by decide +kernel
theorem dX1_add_8 : decode cX1_add 8 = .ok (.bipush (-4), 2) := by decide +kernel
theorem dX1_add_10 : decode cX1_add 10 = .ok (.ireturn, 1) := by decide +kernel
theorem dX1_add_11 : decode cX1_add 11 = .ok (.aload_n 0, 1) := by decide +kernel
theorem dX1_add_12 : decode cX1_add 12 = .ok (.getfield 20, 3) := by decide +kernel
theorem dX1_add_15 : decode cX1_add 15 = .ok (.aload_n 0, 1) := by decide +kernel
theorem dX1_add_16 : decode cX1_add 16 = .ok (.getfield 15, 3) := by decide +kernel
theorem dX1_add_19 : decode cX1_add 19 = .ok (.aload_n 1, 1) := by decide +kernel
theorem dX1_add_20 : decode cX1_add 20 = .ok (.aastore, 1) := by decide +kernel
theorem dX1_add_21 : decode cX1_add 21 = .ok (.aload_n 0, 1) := by decide +kernel
theorem dX1_add_22 : decode cX1_add 22 = .ok (.dup, 1) := by decide +kernel
theorem dX1_add_23 : decode cX1_add 23 = .ok (.getfield 15, 3) := by decide +kernel
theorem dX1_add_26 : decode cX1_add 26 = .ok (.iconst 1, 1) := by decide +kernel
theorem dX1_add_27 : decode cX1_add 27 = .ok (.iadd, 1) := by decide +kernel
theorem dX1_add_28 : decode cX1_add 28 = .ok (.putfield 15, 3) := by decide +kernel
theorem dX1_add_31 : decode cX1_add 31 = .ok (.aload_n 0, 1) := by decide +kernel
theorem dX1_add_32 : decode cX1_add 32 = .ok (.aload_n 0, 1) := by decide +kernel
theorem dX1_add_33 : decode cX1_add 33 = .ok (.getfield 15, 3) := by decide +kernel
theorem dX1_add_36 : decode cX1_add 36 = .ok (.iconst 1, 1) := by decide +kernel
theorem dX1_add_37 : decode cX1_add 37 = .ok (.isub, 1) := by decide +kernel
theorem dX1_add_38 : decode cX1_add 38 = .ok (.invokevirtual 51, 3) := by decide +kernel
theorem dX1_add_41 : decode cX1_add 41 = .ok (.aload_n 0, 1) := by decide +kernel
theorem dX1_add_42 : decode cX1_add 42 = .ok (.getfield 15, 3) := by decide +kernel
theorem dX1_add_45 : decode cX1_add 45 = .ok (.iconst 1, 1) := by decide +kernel
theorem dX1_add_46 : decode cX1_add 46 = .ok (.isub, 1) := by decide +kernel
theorem dX1_add_47 : decode cX1_add 47 = .ok (.ireturn, 1) := by decide +kernel
theorem dX1_obey_0 : decode cX1_obey 0 = .ok (.aload_n 1, 1) := by decide +kernel
theorem dX1_obey_1 : decode cX1_obey 1 = .ok (.ifnonnull 4, 3) := by decide +kernel
theorem dX1_obey_4 : decode cX1_obey 4 = .ok (.return_, 1) := by decide +kernel
theorem dX1_obey_5 : decode cX1_obey 5 = .ok (.aload_n 0, 1) := by decide +kernel
theorem dX1_obey_6 : decode cX1_obey 6 = .ok (.aload_n 1, 1) := by decide +kernel
theorem dX1_obey_7 : decode cX1_obey 7 = .ok (.putfield 31, 3) := by decide +kernel
theorem dX1_obey_10 : decode cX1_obey 10 = .ok (.iconst 0, 1) := by decide +kernel
theorem dX1_obey_11 : decode cX1_obey 11 = .ok (.istore_n 2, 1) := by decide +kernel
theorem dX1_obey_12 : decode cX1_obey 12 = .ok (.iload_n 2, 1) := by decide +kernel
theorem dX1_obey_13 : decode cX1_obey 13 = .ok (.aload_n 0, 1) := by decide +kernel
theorem dX1_obey_14 : decode cX1_obey 14 = .ok (.getfield 15, 3) := by decide +kernel
theorem dX1_obey_17 : decode cX1_obey 17 = .ok (.if_icmp .ge 14, 3) := by decide +kernel
theorem dX1_obey_20 : decode cX1_obey 20 = .ok (.aload_n 0, 1) := by decide +kernel
theorem dX1_obey_21 : decode cX1_obey 21 = .ok (.iload_n 2, 1) := by decide +kernel
theorem dX1_obey_22 : decode cX1_obey 22 = .ok (.invokevirtual 51, 3) := by decide +kernel
theorem dX1_obey_25 : decode cX1_obey 25 = .ok (.iinc 2 1, 3) := by decide +kernel
theorem dX1_obey_28 : decode cX1_obey 28 = .ok (.goto (-16), 3) := by decide +kernel
theorem dX1_obey_31 : decode cX1_obey 31 = .ok (.return_, 1) := by decide +kernel
theorem dX1_turnInto_0 : decode cX1_turnInto 0 = .ok (.aload_n 0, 1) := by decide +kernel
theorem dX1_turnInto_1 : decode cX1_turnInto 1 = .ok (.iload_n 1, 1) := by decide +kernel
theorem dX1_turnInto_2 : decode cX1_turnInto 2 = .ok (.invokevirtual 35, 3) := by decide +kernel
theorem dX1_turnInto_5 : decode cX1_turnInto 5 = .ok (.astore_n 3, 1) := by decide +kernel
theorem dX1_turnInto_6 : decode cX1_turnInto 6 = .ok (.aload_n 3, 1) := by decide +kernel
theorem dX1_turnInto_7 : decode cX1_turnInto 7 = .ok (.ifnonnull 4, 3) := by decide +kernel
theorem dX1_turnInto_10 : decode cX1_turnInto 10 = .ok (.return_, 1) := by decide +kernel
theorem dX1_turnInto_11 : decode cX1_turnInto 11 = .ok (.aload_n 3, 1) := by decide +kernel
theorem dX1_turnInto_12 : decode cX1_turnInto 12 = .ok (.iload_n 2, 1) := by decide +kernel
theorem dX1_turnInto_13 : decode cX1_turnInto 13 = .ok (.putfield 55, 3) := by decide +kernel
theorem dX1_turnInto_16 : decode cX1_turnInto 16 = .ok (.aload_n 0, 1) := by decide +kernel
theorem dX1_turnInto_17 : decode cX1_turnInto 17 = .ok (.iload_n 1, 1) := by decide +kernel
theorem dX1_turnInto_18 : decode cX1_turnInto 18 = .ok (.invokevirtual 51, 3) := by decide +kernel
theorem dX1_turnInto_21 : decode cX1_turnInto 21 = .ok (.return_, 1) := by decide +kernel
theorem dX1_foresee_0 : decode cX1_foresee 0 = .ok (.aload_n 0, 1) := by decide +kernel
theorem dX1_foresee_1 : decode cX1_foresee 1 = .ok (.iload_n 1, 1) := by decide +kernel
theorem dX1_foresee_2 : decode cX1_foresee 2 = .ok (.invokevirtual 35, 3) := by decide +kernel
theorem dX1_foresee_5 : decode cX1_foresee 5 = .ok (.astore_n 2, 1) := by decide +kernel
theorem dX1_foresee_6 : decode cX1_foresee 6 = .ok (.aload_n 2, 1) := by decide +kernel
theorem dX1_foresee_7 : decode cX1_foresee 7 = .ok (.ifnonnull 4, 3) := by decide +kernel
theorem dX1_foresee_10 : decode cX1_foresee 10 = .ok (.return_, 1) := by decide +kernel
theorem dX1_foresee_11 : decode cX1_foresee 11 = .ok (.aload_n 2, 1) := by decide +kernel
theorem dX1_foresee_12 : decode cX1_foresee 12 = .ok (.aload_n 0, 1) := by decide +kernel
theorem dX1_foresee_13 : decode cX1_foresee 13 = .ok (.aload_n 2, 1) := by decide +kernel
theorem dX1_foresee_14 : decode cX1_foresee 14 = .ok (.iload_n 1, 1) := by decide +kernel
theorem dX1_foresee_15 : decode cX1_foresee 15 = .ok (.aload_n 2, 1) := by decide +kernel
theorem dX1_foresee_16 : decode cX1_foresee 16 = .ok (.getfield 39, 3) := by decide +kernel
theorem dX1_foresee_19 : decode cX1_foresee 19 = .ok (.invokevirtual 58, 3) := by decide +kernel
theorem dX1_foresee_22 : decode cX1_foresee 22 = .ok (.putfield 62, 3) := by decide +kernel
theorem dX1_foresee_25 : decode cX1_foresee 25 = .ok (.aload_n 2, 1) := by decide +kernel
theorem dX1_foresee_26 : decode cX1_foresee 26 = .ok (.aload_n 0, 1) := by decide +kernel
theorem dX1_foresee_27 : decode cX1_foresee 27 = .ok (.aload_n 2, 1) := by decide +kernel
theorem dX1_foresee_28 : decode cX1_foresee 28 = .ok (.iload_n 1, 1) := by decide +kernel
theorem dX1_foresee_29 : decode cX1_foresee 29 = .ok (.aload_n 2, 1) := by decide +kernel
theorem dX1_foresee_30 : decode cX1_foresee 30 = .ok (.getfield 42, 3) := by decide +kernel
theorem dX1_foresee_33 : decode cX1_foresee 33 = .ok (.invokevirtual 58, 3) := by decide +kernel
theorem dX1_foresee_36 : decode cX1_foresee 36 = .ok (.putfield 66, 3) := by decide +kernel
theorem dX1_foresee_39 : decode cX1_foresee 39 = .ok (.return_, 1) := by decide +kernel
theorem dX1_openings_0 : decode cX1_openings 0 = .ok (.lconst 0, 1) := by decide +kernel
theorem dX1_openings_1 : decode cX1_openings 1 = .ok (.lstore 4, 2) := by decide +kernel
theorem dX1_openings_3 : decode cX1_openings 3 = .ok (.iconst 0, 1) := by decide +kernel
theorem dX1_openings_4 : decode cX1_openings 4 = .ok (.istore 6, 2) := by decide +kernel
theorem dX1_openings_6 : decode cX1_openings 6 = .ok (.iload 6, 2) := by decide +kernel
theorem dX1_openings_8 : decode cX1_openings 8 = .ok (.iconst 4, 1) := by decide +kernel
theorem dX1_openings_9 : decode cX1_openings 9 = .ok (.if_icmp .ge 103, 3) := by decide +kernel
theorem dX1_openings_12 : decode cX1_openings 12 = .ok (.iconst 0, 1) := by decide +kernel
theorem dX1_openings_13 : decode cX1_openings 13 = .ok (.istore 7, 2) := by decide +kernel
theorem dX1_openings_15 : decode cX1_openings 15 = .ok (.iload 7, 2) := by decide +kernel
theorem dX1_openings_17 : decode cX1_openings 17 = .ok (.iconst 4, 1) := by decide +kernel
theorem dX1_openings_18 : decode cX1_openings 18 = .ok (.if_icmp .ge 88, 3) := by decide +kernel
theorem dX1_openings_21 : decode cX1_openings 21 = .ok (.iconst 0, 1) := by decide +kernel
theorem dX1_openings_22 : decode cX1_openings 22 = .ok (.istore 8, 2) := by decide +kernel
theorem dX1_openings_24 : decode cX1_openings 24 = .ok (.iload 8, 2) := by decide +kernel
theorem dX1_openings_26 : decode cX1_openings 26 = .ok (.iconst 4, 1) := by decide +kernel
theorem dX1_openings_27 : decode cX1_openings 27 = .ok (.if_icmp .ge 73, 3) := by decide +kernel
theorem dX1_openings_30 : decode cX1_openings 30 = .ok (.aload_n 1, 1) := by decide +kernel
theorem dX1_openings_31 : decode cX1_openings 31 = .ok (.iload 6, 2) := by decide +kernel
theorem dX1_openings_33 : decode cX1_openings 33 = .ok (.iload 7, 2) := by decide +kernel
theorem dX1_openings_35 : decode cX1_openings 35 = .ok (.iload 8, 2) := by decide +kernel
theorem dX1_openings_37 : decode cX1_openings 37 = .ok (.invokevirtual 69, 3) := by decide +kernel
theorem dX1_openings_40 : decode cX1_openings 40 = .ok (.ifCond .ne 6, 3) := by decide +kernel
theorem dX1_openings_43 : decode cX1_openings 43 = .ok (.goto 51, 3) := by decide +kernel
theorem dX1_openings_46 : decode cX1_openings 46 = .ok (.aload_n 0, 1) := by decide +kernel
theorem dX1_openings_47 : decode cX1_openings 47 = .ok (.iload_n 2, 1) := by decide +kernel
theorem dX1_openings_48 : decode cX1_openings 48 = .ok (.iload 6, 2) := by decide +kernel
theorem dX1_openings_50 : decode cX1_openings 50 = .ok (.iload 7, 2) := by decide +kernel
theorem dX1_openings_52 : decode cX1_openings 52 = .ok (.iload_n 3, 1) := by decide +kernel
theorem dX1_openings_53 : decode cX1_openings 53 = .ok (.iload 8, 2) := by decide +kernel
theorem dX1_openings_55 : decode cX1_openings 55 = .ok (.aload_n 1, 1) := by decide +kernel
theorem dX1_openings_56 : decode cX1_openings 56 = .ok (.iload_n 3, 1) := by decide +kernel
theorem dX1_openings_57 : decode cX1_openings 57 = .ok (.invokevirtual 73, 3) := by decide +kernel
theorem dX1_openings_60 : decode cX1_openings 60 = .ok (.invokevirtual 77, 3) := by decide +kernel
theorem dX1_openings_63 : decode cX1_openings 63 = .ok (.aload_n 0, 1) := by decide +kernel
theorem dX1_openings_64 : decode cX1_openings 64 = .ok (.getfield 31, 3) := by decide +kernel
theorem dX1_openings_67 : decode cX1_openings 67 = .ok (.iconst 0, 1) := by decide +kernel
theorem dX1_openings_68 : decode cX1_openings 68 = .ok (.aload_n 0, 1) := by decide +kernel
theorem dX1_openings_69 : decode cX1_openings 69 = .ok (.getfield 26, 3) := by decide +kernel
theorem dX1_openings_72 : decode cX1_openings 72 = .ok (.invokevirtual 81, 3) := by decide +kernel
theorem dX1_openings_75 : decode cX1_openings 75 = .ok (.ifCond .ne 19, 3) := by decide +kernel
theorem dX1_openings_78 : decode cX1_openings 78 = .ok (.lload 4, 2) := by decide +kernel
theorem dX1_openings_80 : decode cX1_openings 80 = .ok (.lconst 1, 1) := by decide +kernel
theorem dX1_openings_81 : decode cX1_openings 81 = .ok (.iload 6, 2) := by decide +kernel
theorem dX1_openings_83 : decode cX1_openings 83 = .ok (.iload 7, 2) := by decide +kernel
theorem dX1_openings_85 : decode cX1_openings 85 = .ok (.iload 8, 2) := by decide +kernel
theorem dX1_openings_87 : decode cX1_openings 87 = .ok (.invokestatic 85, 3) := by decide +kernel
theorem dX1_openings_90 : decode cX1_openings 90 = .ok (.lshl, 1) := by decide +kernel
theorem dX1_openings_91 : decode cX1_openings 91 = .ok (.lor, 1) := by decide +kernel
theorem dX1_openings_92 : decode cX1_openings 92 = .ok (.lstore 4, 2) := by decide +kernel
theorem dX1_openings_94 : decode cX1_openings 94 = .ok (.iinc 8 1, 3) := by decide +kernel
theorem dX1_openings_97 : decode cX1_openings 97 = .ok (.goto (-73), 3) := by decide +kernel
theorem dX1_openings_100 : decode cX1_openings 100 = .ok (.iinc 7 1, 3) := by decide +kernel
theorem dX1_openings_103 : decode cX1_openings 103 = .ok (.goto (-88), 3) := by decide +kernel
theorem dX1_openings_106 : decode cX1_openings 106 = .ok (.iinc 6 1, 3) := by decide +kernel
theorem dX1_openings_109 : decode cX1_openings 109 = .ok (.goto (-103), 3) := by decide +kernel
theorem dX1_openings_112 : decode cX1_openings 112 = .ok (.lload 4, 2) := by decide +kernel
theorem dX1_openings_114 : decode cX1_openings 114 = .ok (.lreturn, 1) := by decide +kernel
theorem dX1_name_0 : decode cX1_name 0 = .ok (.aload_n 0, 1) := by decide +kernel
theorem dX1_name_1 : decode cX1_name 1 = .ok (.getfield 26, 3) := by decide +kernel
theorem dX1_name_4 : decode cX1_name 4 = .ok (.iconst 0, 1) := by decide +kernel
theorem dX1_name_5 : decode cX1_name 5 = .ok (.iload_n 1, 1) := by decide +kernel
theorem dX1_name_6 : decode cX1_name 6 = .ok (.iastore, 1) := by decide +kernel
theorem dX1_name_7 : decode cX1_name 7 = .ok (.aload_n 0, 1) := by decide +kernel
theorem dX1_name_8 : decode cX1_name 8 = .ok (.getfield 26, 3) := by decide +kernel
theorem dX1_name_11 : decode cX1_name 11 = .ok (.iconst 1, 1) := by decide +kernel
theorem dX1_name_12 : decode cX1_name 12 = .ok (.iload_n 2, 1) := by decide +kernel
theorem dX1_name_13 : decode cX1_name 13 = .ok (.iastore, 1) := by decide +kernel
theorem dX1_name_14 : decode cX1_name 14 = .ok (.aload_n 0, 1) := by decide +kernel
theorem dX1_name_15 : decode cX1_name 15 = .ok (.getfield 26, 3) := by decide +kernel
theorem dX1_name_18 : decode cX1_name 18 = .ok (.iconst 2, 1) := by decide +kernel
theorem dX1_name_19 : decode cX1_name 19 = .ok (.iload_n 3, 1) := by decide +kernel
theorem dX1_name_20 : decode cX1_name 20 = .ok (.iastore, 1) := by decide +kernel
theorem dX1_name_21 : decode cX1_name 21 = .ok (.aload_n 0, 1) := by decide +kernel
theorem dX1_name_22 : decode cX1_name 22 = .ok (.getfield 26, 3) := by decide +kernel
theorem dX1_name_25 : decode cX1_name 25 = .ok (.iconst 3, 1) := by decide +kernel
theorem dX1_name_26 : decode cX1_name 26 = .ok (.iload 4, 2) := by decide +kernel
theorem dX1_name_28 : decode cX1_name 28 = .ok (.iastore, 1) := by decide +kernel
theorem dX1_name_29 : decode cX1_name 29 = .ok (.aload_n 0, 1) := by decide +kernel
theorem dX1_name_30 : decode cX1_name 30 = .ok (.getfield 26, 3) := by decide +kernel
theorem dX1_name_33 : decode cX1_name 33 = .ok (.iconst 4, 1) := by decide +kernel
theorem dX1_name_34 : decode cX1_name 34 = .ok (.iload 5, 2) := by decide +kernel
theorem dX1_name_36 : decode cX1_name 36 = .ok (.iastore, 1) := by decide +kernel
theorem dX1_name_37 : decode cX1_name 37 = .ok (.aload_n 0, 1) := by decide +kernel
theorem dX1_name_38 : decode cX1_name 38 = .ok (.getfield 26, 3) := by decide +kernel
theorem dX1_name_41 : decode cX1_name 41 = .ok (.iconst 5, 1) := by decide +kernel
theorem dX1_name_42 : decode cX1_name 42 = .ok (.iload 6, 2) := by decide +kernel
theorem dX1_name_44 : decode cX1_name 44 = .ok (.iastore, 1) := by decide +kernel
theorem dX1_name_45 : decode cX1_name 45 = .ok (.return_, 1) := by decide +kernel
theorem dX1_keyState_0 : decode cX1_keyState 0 = .ok (.aload_n 0, 1) := by decide +kernel
theorem dX1_keyState_1 : decode cX1_keyState 1 = .ok (.aload_n 2, 1) := by decide +kernel
theorem dX1_keyState_2 : decode cX1_keyState 2 = .ok (.getfield 89, 3) := by decide +kernel
theorem dX1_keyState_5 : decode cX1_keyState 5 = .ok (.invokevirtual 35, 3) := by decide +kernel
theorem dX1_keyState_8 : decode cX1_keyState 8 = .ok (.ifnonnull 7, 3) := by decide +kernel
theorem dX1_keyState_11 : decode cX1_keyState 11 = .ok (.iconst 0, 1) := by decide +kernel
theorem dX1_keyState_12 : decode cX1_keyState 12 = .ok (.goto 11, 3) := by decide +kernel
theorem dX1_keyState_15 : decode cX1_keyState 15 = .ok (.iload_n 1, 1) := by decide +kernel
theorem dX1_keyState_16 : decode cX1_keyState 16 = .ok (.aload_n 2, 1) := by decide +kernel
theorem dX1_keyState_17 : decode cX1_keyState 17 = .ok (.getfield 89, 3) := by decide +kernel
theorem dX1_keyState_20 : decode cX1_keyState 20 = .ok (.invokestatic 92, 3) := by decide +kernel
theorem dX1_keyState_23 : decode cX1_keyState 23 = .ok (.ireturn, 1) := by decide +kernel
theorem dX1_opens_0 : decode cX1_opens 0 = .ok (.aload_n 0, 1) := by decide +kernel
theorem dX1_opens_1 : decode cX1_opens 1 = .ok (.iload_n 2, 1) := by decide +kernel
theorem dX1_opens_2 : decode cX1_opens 2 = .ok (.invokevirtual 35, 3) := by decide +kernel
theorem dX1_opens_5 : decode cX1_opens 5 = .ok (.astore_n 3, 1) := by decide +kernel
theorem dX1_opens_6 : decode cX1_opens 6 = .ok (.aload_n 3, 1) := by decide +kernel
theorem dX1_opens_7 : decode cX1_opens 7 = .ok (.ifnonnull 5, 3) := by decide +kernel
theorem dX1_opens_10 : decode cX1_opens 10 = .ok (.iconst 0, 1) := by decide +kernel
theorem dX1_opens_11 : decode cX1_opens 11 = .ok (.ireturn, 1) := by decide +kernel
theorem dX1_opens_12 : decode cX1_opens 12 = .ok (.iload_n 1, 1) := by decide +kernel
theorem dX1_opens_13 : decode cX1_opens 13 = .ok (.iload_n 2, 1) := by decide +kernel
theorem dX1_opens_14 : decode cX1_opens 14 = .ok (.invokestatic 92, 3) := by decide +kernel
theorem dX1_opens_17 : decode cX1_opens 17 = .ok (.istore 4, 2) := by decide +kernel
theorem dX1_opens_19 : decode cX1_opens 19 = .ok (.iload 4, 2) := by decide +kernel
theorem dX1_opens_21 : decode cX1_opens 21 = .ok (.iload_n 1, 1) := by decide +kernel
theorem dX1_opens_22 : decode cX1_opens 22 = .ok (.invokestatic 97, 3) := by decide +kernel
theorem dX1_opens_25 : decode cX1_opens 25 = .ok (.aload_n 0, 1) := by decide +kernel
theorem dX1_opens_26 : decode cX1_opens 26 = .ok (.iload_n 1, 1) := by decide +kernel
theorem dX1_opens_27 : decode cX1_opens 27 = .ok (.aload_n 3, 1) := by decide +kernel
theorem dX1_opens_28 : decode cX1_opens 28 = .ok (.invokevirtual 100, 3) := by decide +kernel
theorem dX1_opens_31 : decode cX1_opens 31 = .ok (.invokestatic 85, 3) := by decide +kernel
theorem dX1_opens_34 : decode cX1_opens 34 = .ok (.istore 5, 2) := by decide +kernel
theorem dX1_opens_36 : decode cX1_opens 36 = .ok (.aload_n 3, 1) := by decide +kernel
theorem dX1_opens_37 : decode cX1_opens 37 = .ok (.iload_n 1, 1) := by decide +kernel
theorem dX1_opens_38 : decode cX1_opens 38 = .ok (.invokestatic 104, 3) := by decide +kernel
theorem dX1_opens_41 : decode cX1_opens 41 = .ok (.iload 5, 2) := by decide +kernel
theorem dX1_opens_43 : decode cX1_opens 43 = .ok (.invokevirtual 107, 3) := by decide +kernel
theorem dX1_opens_46 : decode cX1_opens 46 = .ok (.ireturn, 1) := by decide +kernel
theorem dX1_openDoors_0 : decode cX1_openDoors 0 = .ok (.iconst 0, 1) := by decide +kernel
theorem dX1_openDoors_1 : decode cX1_openDoors 1 = .ok (.istore_n 2, 1) := by decide +kernel
theorem dX1_openDoors_2 : decode cX1_openDoors 2 = .ok (.iconst 0, 1) := by decide +kernel
theorem dX1_openDoors_3 : decode cX1_openDoors 3 = .ok (.istore_n 3, 1) := by decide +kernel
theorem dX1_openDoors_4 : decode cX1_openDoors 4 = .ok (.iload_n 3, 1) := by decide +kernel
theorem dX1_openDoors_5 : decode cX1_openDoors 5 = .ok (.aload_n 0, 1) := by decide +kernel
theorem dX1_openDoors_6 : decode cX1_openDoors 6 = .ok (.getfield 15, 3) := by decide +kernel
theorem dX1_openDoors_9 : decode cX1_openDoors 9 = .ok (.if_icmp .ge 25, 3) := by decide +kernel
theorem dX1_openDoors_12 : decode cX1_openDoors 12 = .ok (.aload_n 0, 1) := by decide +kernel
theorem dX1_openDoors_13 : decode cX1_openDoors 13 = .ok (.iload_n 1, 1) := by decide +kernel
theorem dX1_openDoors_14 : decode cX1_openDoors 14 = .ok (.iload_n 3, 1) := by decide +kernel
theorem dX1_openDoors_15 : decode cX1_openDoors 15 = .ok (.invokevirtual 111, 3) := by decide +kernel
theorem dX1_openDoors_18 : decode cX1_openDoors 18 = .ok (.iconst (-1), 1) := by decide +kernel
theorem dX1_openDoors_19 : decode cX1_openDoors 19 = .ok (.if_icmp .eq 9, 3) := by decide +kernel
theorem dX1_openDoors_22 : decode cX1_openDoors 22 = .ok (.iload_n 2, 1) := by decide +kernel
theorem dX1_openDoors_23 : decode cX1_openDoors 23 = .ok (.iconst 1, 1) := by decide +kernel
theorem dX1_openDoors_24 : decode cX1_openDoors 24 = .ok (.iload_n 3, 1) := by decide +kernel
theorem dX1_openDoors_25 : decode cX1_openDoors 25 = .ok (.ishl, 1) := by decide +kernel
theorem dX1_openDoors_26 : decode cX1_openDoors 26 = .ok (.ior, 1) := by decide +kernel
theorem dX1_openDoors_27 : decode cX1_openDoors 27 = .ok (.istore_n 2, 1) := by decide +kernel
theorem dX1_openDoors_28 : decode cX1_openDoors 28 = .ok (.iinc 3 1, 3) := by decide +kernel
theorem dX1_openDoors_31 : decode cX1_openDoors 31 = .ok (.goto (-27), 3) := by decide +kernel
theorem dX1_openDoors_34 : decode cX1_openDoors 34 = .ok (.iload_n 2, 1) := by decide +kernel
theorem dX1_openDoors_35 : decode cX1_openDoors 35 = .ok (.ireturn, 1) := by decide +kernel
theorem dX1_behind_0 : decode cX1_behind 0 = .ok (.aload_n 0, 1) := by decide +kernel
theorem dX1_behind_1 : decode cX1_behind 1 = .ok (.iload_n 2, 1) := by decide +kernel
theorem dX1_behind_2 : decode cX1_behind 2 = .ok (.invokevirtual 35, 3) := by decide +kernel
theorem dX1_behind_5 : decode cX1_behind 5 = .ok (.astore_n 3, 1) := by decide +kernel
theorem dX1_behind_6 : decode cX1_behind 6 = .ok (.iload_n 1, 1) := by decide +kernel
theorem dX1_behind_7 : decode cX1_behind 7 = .ok (.invokestatic 104, 3) := by decide +kernel
theorem dX1_behind_10 : decode cX1_behind 10 = .ok (.istore 4, 2) := by decide +kernel
theorem dX1_behind_12 : decode cX1_behind 12 = .ok (.aload_n 3, 1) := by decide +kernel
theorem dX1_behind_13 : decode cX1_behind 13 = .ok (.ifnull 21, 3) := by decide +kernel
theorem dX1_behind_16 : decode cX1_behind 16 = .ok (.aload_n 3, 1) := by decide +kernel
theorem dX1_behind_17 : decode cX1_behind 17 = .ok (.iload 4, 2) := by decide +kernel
theorem dX1_behind_19 : decode cX1_behind 19 = .ok (.invokevirtual 114, 3) := by decide +kernel
theorem dX1_behind_22 : decode cX1_behind 22 = .ok (.ifCond .eq 12, 3) := by decide +kernel
theorem dX1_behind_25 : decode cX1_behind 25 = .ok (.aload_n 0, 1) := by decide +kernel
theorem dX1_behind_26 : decode cX1_behind 26 = .ok (.iload_n 1, 1) := by decide +kernel
theorem dX1_behind_27 : decode cX1_behind 27 = .ok (.iload_n 2, 1) := by decide +kernel
theorem dX1_behind_28 : decode cX1_behind 28 = .ok (.invokevirtual 118, 3) := by decide +kernel
theorem dX1_behind_31 : decode cX1_behind 31 = .ok (.ifCond .ne 5, 3) := by decide +kernel
theorem dX1_behind_34 : decode cX1_behind 34 = .ok (.iconst (-1), 1) := by decide +kernel
theorem dX1_behind_35 : decode cX1_behind 35 = .ok (.ireturn, 1) := by decide +kernel
theorem dX1_behind_36 : decode cX1_behind 36 = .ok (.iload_n 1, 1) := by decide +kernel
theorem dX1_behind_37 : decode cX1_behind 37 = .ok (.iload_n 2, 1) := by decide +kernel
theorem dX1_behind_38 : decode cX1_behind 38 = .ok (.aload_n 3, 1) := by decide +kernel
theorem dX1_behind_39 : decode cX1_behind 39 = .ok (.iload_n 1, 1) := by decide +kernel
theorem dX1_behind_40 : decode cX1_behind 40 = .ok (.iload_n 2, 1) := by decide +kernel
theorem dX1_behind_41 : decode cX1_behind 41 = .ok (.invokestatic 92, 3) := by decide +kernel
theorem dX1_behind_44 : decode cX1_behind 44 = .ok (.invokevirtual 119, 3) := by decide +kernel
theorem dX1_behind_47 : decode cX1_behind 47 = .ok (.invokestatic 122, 3) := by decide +kernel
theorem dX1_behind_50 : decode cX1_behind 50 = .ok (.istore 5, 2) := by decide +kernel
theorem dX1_behind_52 : decode cX1_behind 52 = .ok (.iload 5, 2) := by decide +kernel
theorem dX1_behind_54 : decode cX1_behind 54 = .ok (.iload_n 1, 1) := by decide +kernel
theorem dX1_behind_55 : decode cX1_behind 55 = .ok (.invokestatic 97, 3) := by decide +kernel
theorem dX1_behind_58 : decode cX1_behind 58 = .ok (.iconst 1, 1) := by decide +kernel
theorem dX1_behind_59 : decode cX1_behind 59 = .ok (.iadd, 1) := by decide +kernel
theorem dX1_behind_60 : decode cX1_behind 60 = .ok (.iconst 3, 1) := by decide +kernel
theorem dX1_behind_61 : decode cX1_behind 61 = .ok (.iand, 1) := by decide +kernel
theorem dX1_behind_62 : decode cX1_behind 62 = .ok (.invokestatic 125, 3) := by decide +kernel
theorem dX1_behind_65 : decode cX1_behind 65 = .ok (.istore 5, 2) := by decide +kernel
theorem dX1_behind_67 : decode cX1_behind 67 = .ok (.iload 5, 2) := by decide +kernel
theorem dX1_behind_69 : decode cX1_behind 69 = .ok (.aload_n 3, 1) := by decide +kernel
theorem dX1_behind_70 : decode cX1_behind 70 = .ok (.iload 4, 2) := by decide +kernel
theorem dX1_behind_72 : decode cX1_behind 72 = .ok (.invokevirtual 73, 3) := by decide +kernel
theorem dX1_behind_75 : decode cX1_behind 75 = .ok (.invokestatic 128, 3) := by decide +kernel
theorem dX1_behind_78 : decode cX1_behind 78 = .ok (.ireturn, 1) := by decide +kernel
theorem dX1_cost_0 : decode cX1_cost 0 = .ok (.aload_n 0, 1) := by decide +kernel
theorem dX1_cost_1 : decode cX1_cost 1 = .ok (.iload_n 2, 1) := by decide +kernel
theorem dX1_cost_2 : decode cX1_cost 2 = .ok (.invokevirtual 35, 3) := by decide +kernel
theorem dX1_cost_5 : decode cX1_cost 5 = .ok (.astore_n 3, 1) := by decide +kernel
theorem dX1_cost_6 : decode cX1_cost 6 = .ok (.aload_n 3, 1) := by decide +kernel
theorem dX1_cost_7 : decode cX1_cost 7 = .ok (.ifnonnull 5, 3) := by decide +kernel
theorem dX1_cost_10 : decode cX1_cost 10 = .ok (.iconst 0, 1) := by decide +kernel
theorem dX1_cost_11 : decode cX1_cost 11 = .ok (.ireturn, 1) := by decide +kernel
theorem dX1_cost_12 : decode cX1_cost 12 = .ok (.iload_n 1, 1) := by decide +kernel
theorem dX1_cost_13 : decode cX1_cost 13 = .ok (.invokestatic 104, 3) := by decide +kernel
theorem dX1_cost_16 : decode cX1_cost 16 = .ok (.istore 4, 2) := by decide +kernel
theorem dX1_cost_18 : decode cX1_cost 18 = .ok (.iload_n 1, 1) := by decide +kernel
theorem dX1_cost_19 : decode cX1_cost 19 = .ok (.iload_n 2, 1) := by decide +kernel
theorem dX1_cost_20 : decode cX1_cost 20 = .ok (.invokestatic 92, 3) := by decide +kernel
theorem dX1_cost_23 : decode cX1_cost 23 = .ok (.istore 5, 2) := by decide +kernel
theorem dX1_cost_25 : decode cX1_cost 25 = .ok (.aload_n 0, 1) := by decide +kernel
theorem dX1_cost_26 : decode cX1_cost 26 = .ok (.iload_n 2, 1) := by decide +kernel
theorem dX1_cost_27 : decode cX1_cost 27 = .ok (.iload 5, 2) := by decide +kernel
theorem dX1_cost_29 : decode cX1_cost 29 = .ok (.iload_n 1, 1) := by decide +kernel
theorem dX1_cost_30 : decode cX1_cost 30 = .ok (.invokestatic 97, 3) := by decide +kernel
theorem dX1_cost_33 : decode cX1_cost 33 = .ok (.iload 4, 2) := by decide +kernel
theorem dX1_cost_35 : decode cX1_cost 35 = .ok (.aload_n 0, 1) := by decide +kernel
theorem dX1_cost_36 : decode cX1_cost 36 = .ok (.iload_n 1, 1) := by decide +kernel
theorem dX1_cost_37 : decode cX1_cost 37 = .ok (.aload_n 3, 1) := by decide +kernel
theorem dX1_cost_38 : decode cX1_cost 38 = .ok (.invokevirtual 100, 3) := by decide +kernel
theorem dX1_cost_41 : decode cX1_cost 41 = .ok (.aload_n 3, 1) := by decide +kernel
theorem dX1_cost_42 : decode cX1_cost 42 = .ok (.iload 4, 2) := by decide +kernel
theorem dX1_cost_44 : decode cX1_cost 44 = .ok (.invokevirtual 73, 3) := by decide +kernel
theorem dX1_cost_47 : decode cX1_cost 47 = .ok (.invokevirtual 77, 3) := by decide +kernel
theorem dX1_cost_50 : decode cX1_cost 50 = .ok (.iconst 0, 1) := by decide +kernel
theorem dX1_cost_51 : decode cX1_cost 51 = .ok (.aload_n 0, 1) := by decide +kernel
theorem dX1_cost_52 : decode cX1_cost 52 = .ok (.getfield 31, 3) := by decide +kernel
theorem dX1_cost_55 : decode cX1_cost 55 = .ok (.iconst 1, 1) := by decide +kernel
theorem dX1_cost_56 : decode cX1_cost 56 = .ok (.aload_n 0, 1) := by decide +kernel
theorem dX1_cost_57 : decode cX1_cost 57 = .ok (.getfield 26, 3) := by decide +kernel
theorem dX1_cost_60 : decode cX1_cost 60 = .ok (.invokevirtual 81, 3) := by decide +kernel
theorem dX1_cost_63 : decode cX1_cost 63 = .ok (.bipush 99, 2) := by decide +kernel
theorem dX1_cost_65 : decode cX1_cost 65 = .ok (.invokestatic 131, 3) := by decide +kernel
theorem dX1_cost_68 : decode cX1_cost 68 = .ok (.invokestatic 45, 3) := by decide +kernel
theorem dX1_cost_71 : decode cX1_cost 71 = .ok (.ireturn, 1) := by decide +kernel
theorem dX1_isWell_0 : decode cX1_isWell 0 = .ok (.iload_n 1, 1) := by decide +kernel
theorem dX1_isWell_1 : decode cX1_isWell 1 = .ok (.invokestatic 134, 3) := by decide +kernel
theorem dX1_isWell_4 : decode cX1_isWell 4 = .ok (.istore_n 2, 1) := by decide +kernel
theorem dX1_isWell_5 : decode cX1_isWell 5 = .ok (.aload_n 0, 1) := by decide +kernel
theorem dX1_isWell_6 : decode cX1_isWell 6 = .ok (.iconst 0, 1) := by decide +kernel
theorem dX1_isWell_7 : decode cX1_isWell 7 = .ok (.iload_n 2, 1) := by decide +kernel
theorem dX1_isWell_8 : decode cX1_isWell 8 = .ok (.iload_n 1, 1) := by decide +kernel
theorem dX1_isWell_9 : decode cX1_isWell 9 = .ok (.invokestatic 97, 3) := by decide +kernel
theorem dX1_isWell_12 : decode cX1_isWell 12 = .ok (.iload_n 1, 1) := by decide +kernel
theorem dX1_isWell_13 : decode cX1_isWell 13 = .ok (.invokestatic 104, 3) := by decide +kernel
theorem dX1_isWell_16 : decode cX1_isWell 16 = .ok (.iconst 0, 1) := by decide +kernel
theorem dX1_isWell_17 : decode cX1_isWell 17 = .ok (.iconst 0, 1) := by decide +kernel
theorem dX1_isWell_18 : decode cX1_isWell 18 = .ok (.invokevirtual 77, 3) := by decide +kernel
theorem dX1_isWell_21 : decode cX1_isWell 21 = .ok (.aload_n 0, 1) := by decide +kernel
theorem dX1_isWell_22 : decode cX1_isWell 22 = .ok (.getfield 31, 3) := by decide +kernel
theorem dX1_isWell_25 : decode cX1_isWell 25 = .ok (.iconst 2, 1) := by decide +kernel
theorem dX1_isWell_26 : decode cX1_isWell 26 = .ok (.aload_n 0, 1) := by decide +kernel
theorem dX1_isWell_27 : decode cX1_isWell 27 = .ok (.getfield 26, 3) := by decide +kernel
theorem dX1_isWell_30 : decode cX1_isWell 30 = .ok (.invokevirtual 81, 3) := by decide +kernel
theorem dX1_isWell_33 : decode cX1_isWell 33 = .ok (.ifCond .eq 7, 3) := by decide +kernel
theorem dX1_isWell_36 : decode cX1_isWell 36 = .ok (.iconst 1, 1) := by decide +kernel
theorem dX1_isWell_37 : decode cX1_isWell 37 = .ok (.goto 4, 3) := by decide +kernel
theorem dX1_isWell_40 : decode cX1_isWell 40 = .ok (.iconst 0, 1) := by decide +kernel
theorem dX1_isWell_41 : decode cX1_isWell 41 = .ok (.ireturn, 1) := by decide +kernel
theorem dX2_init_0 : decode cX2_init 0 = .ok (.aload_n 0, 1) := by decide +kernel
theorem dX2_init_1 : decode cX2_init 1 = .ok (.invokespecial 1, 3) := by decide +kernel
theorem dX2_init_4 : decode cX2_init 4 = .ok (.aload_n 0, 1) := by decide +kernel
theorem dX2_init_5 : decode cX2_init 5 = .ok (.iconst 0, 1) := by decide +kernel
theorem dX2_init_6 : decode cX2_init 6 = .ok (.putfield 7, 3) := by decide +kernel
theorem dX2_init_9 : decode cX2_init 9 = .ok (.aload_n 0, 1) := by decide +kernel
theorem dX2_init_10 : decode cX2_init 10 = .ok (.sipush 160, 3) := by decide +kernel
theorem dX2_init_13 : decode cX2_init 13 = .ok (.newarray .int, 2) := by decide +kernel
theorem dX2_init_15 : decode cX2_init 15 = .ok (.putfield 13, 3) := by decide +kernel
theorem dX2_init_18 : decode cX2_init 18 = .ok (.aload_n 0, 1) := by decide +kernel
theorem dX2_init_19 : decode cX2_init 19 = .ok (.iconst 0, 1) := by decide +kernel
theorem dX2_init_20 : decode cX2_init 20 = .ok (.putfield 17, 3) := by decide +kernel
theorem dX2_init_23 : decode cX2_init 23 = .ok (.aload_n 0, 1) := by decide +kernel
theorem dX2_init_24 : decode cX2_init 24 = .ok (.sipush 256, 3) := by decide +kernel
theorem dX2_init_27 : decode cX2_init 27 = .ok (.putfield 20, 3) := by decide +kernel
theorem dX2_init_30 : decode cX2_init 30 = .ok (.aload_n 0, 1) := by decide +kernel
theorem dX2_init_31 : decode cX2_init 31 = .ok (.iconst 0, 1) := by decide +kernel
theorem dX2_init_32 : decode cX2_init 32 = .ok (.putfield 23, 3) := by decide +kernel
theorem dX2_init_35 : decode cX2_init 35 = .ok (.aload_n 0, 1) := by decide +kernel
theorem dX2_init_36 : decode cX2_init 36 = .ok (.iconst 0, 1) := by decide +kernel
theorem dX2_init_37 : decode cX2_init 37 = .ok (.putfield 26, 3) := by decide +kernel
theorem dX2_init_40 : decode cX2_init 40 = .ok (.return_, 1) := by decide +kernel
theorem dX2_append_0 : decode cX2_append 0 = .ok (.aload_n 0, 1) := by decide +kernel
theorem dX2_append_1 : decode cX2_append 1 = .ok (.getfield 7, 3) := by decide +kernel
theorem dX2_append_4 : decode cX2_append 4 = .ok (.sipush 160, 3) := by decide +kernel
theorem dX2_append_7 : decode cX2_append 7 = .ok (.if_icmp .lt 4, 3) := by decide +kernel
theorem dX2_append_10 : decode cX2_append 10 = .ok (.return_, 1) := by decide +kernel
theorem dX2_append_11 : decode cX2_append 11 = .ok (.aload_n 0, 1) := by decide +kernel
theorem dX2_append_12 : decode cX2_append 12 = .ok (.getfield 13, 3) := by decide +kernel
theorem dX2_append_15 : decode cX2_append 15 = .ok (.aload_n 0, 1) := by decide +kernel
theorem dX2_append_16 : decode cX2_append 16 = .ok (.getfield 7, 3) := by decide +kernel
theorem dX2_append_19 : decode cX2_append 19 = .ok (.iload_n 1, 1) := by decide +kernel
theorem dX2_append_20 : decode cX2_append 20 = .ok (.iastore, 1) := by decide +kernel
theorem dX2_append_21 : decode cX2_append 21 = .ok (.aload_n 0, 1) := by decide +kernel
theorem dX2_append_22 : decode cX2_append 22 = .ok (.dup, 1) := by decide +kernel
theorem dX2_append_23 : decode cX2_append 23 = .ok (.getfield 7, 3) := by decide +kernel
theorem dX2_append_26 : decode cX2_append 26 = .ok (.iconst 1, 1) := by decide +kernel
theorem dX2_append_27 : decode cX2_append 27 = .ok (.iadd, 1) := by decide +kernel
theorem dX2_append_28 : decode cX2_append 28 = .ok (.putfield 7, 3) := by decide +kernel
theorem dX2_append_31 : decode cX2_append 31 = .ok (.return_, 1) := by decide +kernel
theorem dX2_read_0 : decode cX2_read 0 = .ok (.aload_n 1, 1) := by decide +kernel
theorem dX2_read_1 : decode cX2_read 1 = .ok (.invokevirtual 29, 3) := by decide +kernel
theorem dX2_read_4 : decode cX2_read 4 = .ok (.aload_n 0, 1) := by decide +kernel
theorem dX2_read_5 : decode cX2_read 5 = .ok (.iconst 0, 1) := by decide +kernel
theorem dX2_read_6 : decode cX2_read 6 = .ok (.putfield 17, 3) := by decide +kernel
theorem dX2_read_9 : decode cX2_read 9 = .ok (.aload_n 0, 1) := by decide +kernel
theorem dX2_read_10 : decode cX2_read 10 = .ok (.invokevirtual 34, 3) := by decide +kernel
theorem dX2_read_13 : decode cX2_read 13 = .ok (.iconst 0, 1) := by decide +kernel
theorem dX2_read_14 : decode cX2_read 14 = .ok (.istore_n 2, 1) := by decide +kernel
theorem dX2_read_15 : decode cX2_read 15 = .ok (.iload_n 2, 1) := by decide +kernel
theorem dX2_read_16 : decode cX2_read 16 = .ok (.iconst 3, 1) := by decide +kernel
theorem dX2_read_17 : decode cX2_read 17 = .ok (.if_icmp .ge 62, 3) := by decide +kernel
theorem dX2_read_20 : decode cX2_read 20 = .ok (.aload_n 0, 1) := by decide +kernel
theorem dX2_read_21 : decode cX2_read 21 = .ok (.getfield 20, 3) := by decide +kernel
theorem dX2_read_24 : decode cX2_read 24 = .ok (.sipush 306, 3) := by decide +kernel
theorem dX2_read_27 : decode cX2_read 27 = .ok (.iload_n 2, 1) := by decide +kernel
theorem dX2_read_28 : decode cX2_read 28 = .ok (.iadd, 1) := by decide +kernel
theorem dX2_read_29 : decode cX2_read 29 = .ok (.if_icmp .eq 8, 3) := by decide +kernel
theorem dX2_read_32 : decode cX2_read 32 = .ok (.aload_n 0, 1) := by decide +kernel
theorem dX2_read_33 : decode cX2_read 33 = .ok (.getfield 23, 3) := by decide +kernel
theorem dX2_read_36 : decode cX2_read 36 = .ok (.ireturn, 1) := by decide +kernel
theorem dX2_read_37 : decode cX2_read 37 = .ok (.aload_n 0, 1) := by decide +kernel
theorem dX2_read_38 : decode cX2_read 38 = .ok (.invokevirtual 34, 3) := by decide +kernel
theorem dX2_read_41 : decode cX2_read 41 = .ok (.aload_n 0, 1) := by decide +kernel
theorem dX2_read_42 : decode cX2_read 42 = .ok (.aload_n 1, 1) := by decide +kernel
theorem dX2_read_43 : decode cX2_read 43 = .ok (.iconst 0, 1) := by decide +kernel
theorem dX2_read_44 : decode cX2_read 44 = .ok (.invokevirtual 37, 3) := by decide +kernel
theorem dX2_read_47 : decode cX2_read 47 = .ok (.ifCond .eq 12, 3) := by decide +kernel
theorem dX2_read_50 : decode cX2_read 50 = .ok (.aload_n 0, 1) := by decide +kernel
theorem dX2_read_51 : decode cX2_read 51 = .ok (.getfield 20, 3) := by decide +kernel
theorem dX2_read_54 : decode cX2_read 54 = .ok (.bipush 59, 2) := by decide +kernel
theorem dX2_read_56 : decode cX2_read 56 = .ok (.if_icmp .eq 8, 3) := by decide +kernel
theorem dX2_read_59 : decode cX2_read 59 = .ok (.aload_n 0, 1) := by decide +kernel
theorem dX2_read_60 : decode cX2_read 60 = .ok (.getfield 23, 3) := by decide +kernel
theorem dX2_read_63 : decode cX2_read 63 = .ok (.ireturn, 1) := by decide +kernel
theorem dX2_read_64 : decode cX2_read 64 = .ok (.aload_n 1, 1) := by decide +kernel
theorem dX2_read_65 : decode cX2_read 65 = .ok (.iload_n 2, 1) := by decide +kernel
theorem dX2_read_66 : decode cX2_read 66 = .ok (.invokevirtual 41, 3) := by decide +kernel
theorem dX2_read_69 : decode cX2_read 69 = .ok (.aload_n 0, 1) := by decide +kernel
theorem dX2_read_70 : decode cX2_read 70 = .ok (.invokevirtual 34, 3) := by decide +kernel
theorem dX2_read_73 : decode cX2_read 73 = .ok (.iinc 2 1, 3) := by decide +kernel
theorem dX2_read_76 : decode cX2_read 76 = .ok (.goto (-61), 3) := by decide +kernel
theorem dX2_read_79 : decode cX2_read 79 = .ok (.aload_n 0, 1) := by decide +kernel
theorem dX2_read_80 : decode cX2_read 80 = .ok (.getfield 20, 3) := by decide +kernel
theorem dX2_read_83 : decode cX2_read 83 = .ok (.sipush 256, 3) := by decide +kernel
theorem dX2_read_86 : decode cX2_read 86 = .ok (.if_icmp .ne 7, 3) := by decide +kernel
theorem dX2_read_89 : decode cX2_read 89 = .ok (.iconst (-1), 1) := by decide +kernel
theorem dX2_read_90 : decode cX2_read 90 = .ok (.goto 7, 3) := by decide +kernel
theorem dX2_read_93 : decode cX2_read 93 = .ok (.aload_n 0, 1) := by decide +kernel
theorem dX2_read_94 : decode cX2_read 94 = .ok (.getfield 23, 3) := by decide +kernel
theorem dX2_read_97 : decode cX2_read 97 = .ok (.ireturn, 1) := by decide +kernel
theorem dX2_readOr_0 : decode cX2_readOr 0 = .ok (.aload_n 0, 1) := by decide +kernel
theorem dX2_readOr_1 : decode cX2_readOr 1 = .ok (.aload_n 1, 1) := by decide +kernel
theorem dX2_readOr_2 : decode cX2_readOr 2 = .ok (.iload_n 2, 1) := by decide +kernel
theorem dX2_readOr_3 : decode cX2_readOr 3 = .ok (.invokevirtual 45, 3) := by decide +kernel
theorem dX2_readOr_6 : decode cX2_readOr 6 = .ok (.ifCond .ne 5, 3) := by decide +kernel
theorem dX2_readOr_9 : decode cX2_readOr 9 = .ok (.iconst 0, 1) := by decide +kernel
theorem dX2_readOr_10 : decode cX2_readOr 10 = .ok (.ireturn, 1) := by decide +kernel
theorem dX2_readOr_11 : decode cX2_readOr 11 = .ok (.iconst 0, 1) := by decide +kernel
theorem dX2_readOr_12 : decode cX2_readOr 12 = .ok (.istore_n 3, 1) := by decide +kernel
theorem dX2_readOr_13 : decode cX2_readOr 13 = .ok (.iload_n 3, 1) := by decide +kernel
theorem dX2_readOr_14 : decode cX2_readOr 14 = .ok (.sipush 160, 3) := by decide +kernel
theorem dX2_readOr_17 : decode cX2_readOr 17 = .ok (.if_icmp .ge 40, 3) := by decide +kernel
theorem dX2_readOr_20 : decode cX2_readOr 20 = .ok (.aload_n 0, 1) := by decide +kernel
theorem dX2_readOr_21 : decode cX2_readOr 21 = .ok (.getfield 20, 3) := by decide +kernel
theorem dX2_readOr_24 : decode cX2_readOr 24 = .ok (.sipush 309, 3) := by decide +kernel
theorem dX2_readOr_27 : decode cX2_readOr 27 = .ok (.if_icmp .ne 30, 3) := by decide +kernel
theorem dX2_readOr_30 : decode cX2_readOr 30 = .ok (.aload_n 0, 1) := by decide +kernel
theorem dX2_readOr_31 : decode cX2_readOr 31 = .ok (.invokevirtual 34, 3) := by decide +kernel
theorem dX2_readOr_34 : decode cX2_readOr 34 = .ok (.aload_n 0, 1) := by decide +kernel
theorem dX2_readOr_35 : decode cX2_readOr 35 = .ok (.aload_n 1, 1) := by decide +kernel
theorem dX2_readOr_36 : decode cX2_readOr 36 = .ok (.iload_n 2, 1) := by decide +kernel
theorem dX2_readOr_37 : decode cX2_readOr 37 = .ok (.invokevirtual 45, 3) := by decide +kernel
theorem dX2_readOr_40 : decode cX2_readOr 40 = .ok (.ifCond .ne 5, 3) := by decide +kernel
theorem dX2_readOr_43 : decode cX2_readOr 43 = .ok (.iconst 0, 1) := by decide +kernel
theorem dX2_readOr_44 : decode cX2_readOr 44 = .ok (.ireturn, 1) := by decide +kernel
theorem dX2_readOr_45 : decode cX2_readOr 45 = .ok (.aload_n 1, 1) := by decide +kernel
theorem dX2_readOr_46 : decode cX2_readOr 46 = .ok (.bipush (-9), 2) := by decide +kernel
theorem dX2_readOr_48 : decode cX2_readOr 48 = .ok (.invokevirtual 48, 3) := by decide +kernel
theorem dX2_readOr_51 : decode cX2_readOr 51 = .ok (.iinc 3 1, 3) := by decide +kernel
theorem dX2_readOr_54 : decode cX2_readOr 54 = .ok (.goto (-41), 3) := by decide +kernel
theorem dX2_readOr_57 : decode cX2_readOr 57 = .ok (.iconst 1, 1) := by decide +kernel
theorem dX2_readOr_58 : decode cX2_readOr 58 = .ok (.ireturn, 1) := by decide +kernel
theorem dX2_readAnd_0 : decode cX2_readAnd 0 = .ok (.aload_n 0, 1) := by decide +kernel
theorem dX2_readAnd_1 : decode cX2_readAnd 1 = .ok (.aload_n 1, 1) := by decide +kernel
theorem dX2_readAnd_2 : decode cX2_readAnd 2 = .ok (.iload_n 2, 1) := by decide +kernel
theorem dX2_readAnd_3 : decode cX2_readAnd 3 = .ok (.invokevirtual 51, 3) := by decide +kernel
theorem dX2_readAnd_6 : decode cX2_readAnd 6 = .ok (.ifCond .ne 5, 3) := by decide +kernel
theorem dX2_readAnd_9 : decode cX2_readAnd 9 = .ok (.iconst 0, 1) := by decide +kernel
theorem dX2_readAnd_10 : decode cX2_readAnd 10 = .ok (.ireturn, 1) := by decide +kernel
theorem dX2_readAnd_11 : decode cX2_readAnd 11 = .ok (.iconst 0, 1) := by decide +kernel
theorem dX2_readAnd_12 : decode cX2_readAnd 12 = .ok (.istore_n 3, 1) := by decide +kernel
theorem dX2_readAnd_13 : decode cX2_readAnd 13 = .ok (.iload_n 3, 1) := by decide +kernel
theorem dX2_readAnd_14 : decode cX2_readAnd 14 = .ok (.sipush 160, 3) := by decide +kernel
theorem dX2_readAnd_17 : decode cX2_readAnd 17 = .ok (.if_icmp .ge 40, 3) := by decide +kernel
theorem dX2_readAnd_20 : decode cX2_readAnd 20 = .ok (.aload_n 0, 1) := by decide +kernel
theorem dX2_readAnd_21 : decode cX2_readAnd 21 = .ok (.getfield 20, 3) := by decide +kernel
theorem dX2_readAnd_24 : decode cX2_readAnd 24 = .ok (.sipush 310, 3) := by decide +kernel
theorem dX2_readAnd_27 : decode cX2_readAnd 27 = .ok (.if_icmp .ne 30, 3) := by decide +kernel
theorem dX2_readAnd_30 : decode cX2_readAnd 30 = .ok (.aload_n 0, 1) := by decide +kernel
theorem dX2_readAnd_31 : decode cX2_readAnd 31 = .ok (.invokevirtual 34, 3) := by decide +kernel
theorem dX2_readAnd_34 : decode cX2_readAnd 34 = .ok (.aload_n 0, 1) := by decide +kernel
theorem dX2_readAnd_35 : decode cX2_readAnd 35 = .ok (.aload_n 1, 1) := by decide +kernel
theorem dX2_readAnd_36 : decode cX2_readAnd 36 = .ok (.iload_n 2, 1) := by decide +kernel
theorem dX2_readAnd_37 : decode cX2_readAnd 37 = .ok (.invokevirtual 51, 3) := by decide +kernel
theorem dX2_readAnd_40 : decode cX2_readAnd 40 = .ok (.ifCond .ne 5, 3) := by decide +kernel
theorem dX2_readAnd_43 : decode cX2_readAnd 43 = .ok (.iconst 0, 1) := by decide +kernel
theorem dX2_readAnd_44 : decode cX2_readAnd 44 = .ok (.ireturn, 1) := by decide +kernel
theorem dX2_readAnd_45 : decode cX2_readAnd 45 = .ok (.aload_n 1, 1) := by decide +kernel
theorem dX2_readAnd_46 : decode cX2_readAnd 46 = .ok (.bipush (-10), 2) := by decide +kernel
theorem dX2_readAnd_48 : decode cX2_readAnd 48 = .ok (.invokevirtual 48, 3) := by decide +kernel
theorem dX2_readAnd_51 : decode cX2_readAnd 51 = .ok (.iinc 3 1, 3) := by decide +kernel
theorem dX2_readAnd_54 : decode cX2_readAnd 54 = .ok (.goto (-41), 3) := by decide +kernel
theorem dX2_readAnd_57 : decode cX2_readAnd 57 = .ok (.iconst 1, 1) := by decide +kernel
theorem dX2_readAnd_58 : decode cX2_readAnd 58 = .ok (.ireturn, 1) := by decide +kernel
theorem dX2_readNot_0 : decode cX2_readNot 0 = .ok (.aload_n 0, 1) := by decide +kernel
theorem dX2_readNot_1 : decode cX2_readNot 1 = .ok (.getfield 20, 3) := by decide +kernel
theorem dX2_readNot_4 : decode cX2_readNot 4 = .ok (.sipush 311, 3) := by decide +kernel
theorem dX2_readNot_7 : decode cX2_readNot 7 = .ok (.if_icmp .eq 10, 3) := by decide +kernel
theorem dX2_readNot_10 : decode cX2_readNot 10 = .ok (.aload_n 0, 1) := by decide +kernel
theorem dX2_readNot_11 : decode cX2_readNot 11 = .ok (.aload_n 1, 1) := by decide +kernel
theorem dX2_readNot_12 : decode cX2_readNot 12 = .ok (.iload_n 2, 1) := by decide +kernel
theorem dX2_readNot_13 : decode cX2_readNot 13 = .ok (.invokevirtual 54, 3) := by decide +kernel
theorem dX2_readNot_16 : decode cX2_readNot 16 = .ok (.ireturn, 1) := by decide +kernel
theorem dX2_readNot_17 : decode cX2_readNot 17 = .ok (.iload_n 2, 1) := by decide +kernel
theorem dX2_readNot_18 : decode cX2_readNot 18 = .ok (.iconst 5, 1) := by decide +kernel
theorem dX2_readNot_19 : decode cX2_readNot 19 = .ok (.if_icmp .lt 5, 3) := by decide +kernel
theorem dX2_readNot_22 : decode cX2_readNot 22 = .ok (.iconst 0, 1) := by decide +kernel
theorem dX2_readNot_23 : decode cX2_readNot 23 = .ok (.ireturn, 1) := by decide +kernel
theorem dX2_readNot_24 : decode cX2_readNot 24 = .ok (.aload_n 0, 1) := by decide +kernel
theorem dX2_readNot_25 : decode cX2_readNot 25 = .ok (.invokevirtual 34, 3) := by decide +kernel
theorem dX2_readNot_28 : decode cX2_readNot 28 = .ok (.aload_n 0, 1) := by decide +kernel
theorem dX2_readNot_29 : decode cX2_readNot 29 = .ok (.aload_n 1, 1) := by decide +kernel
theorem dX2_readNot_30 : decode cX2_readNot 30 = .ok (.iload_n 2, 1) := by decide +kernel
theorem dX2_readNot_31 : decode cX2_readNot 31 = .ok (.iconst 1, 1) := by decide +kernel
theorem dX2_readNot_32 : decode cX2_readNot 32 = .ok (.iadd, 1) := by decide +kernel
theorem dX2_readNot_33 : decode cX2_readNot 33 = .ok (.invokevirtual 51, 3) := by decide +kernel
theorem dX2_readNot_36 : decode cX2_readNot 36 = .ok (.ifCond .ne 5, 3) := by decide +kernel
theorem dX2_readNot_39 : decode cX2_readNot 39 = .ok (.iconst 0, 1) := by decide +kernel
theorem dX2_readNot_40 : decode cX2_readNot 40 = .ok (.ireturn, 1) := by decide +kernel
theorem dX2_readNot_41 : decode cX2_readNot 41 = .ok (.aload_n 1, 1) := by decide +kernel
theorem dX2_readNot_42 : decode cX2_readNot 42 = .ok (.bipush (-8), 2) := by decide +kernel
theorem dX2_readNot_44 : decode cX2_readNot 44 = .ok (.invokevirtual 48, 3) := by decide +kernel
theorem dX2_readNot_47 : decode cX2_readNot 47 = .ok (.iconst 1, 1) := by decide +kernel
theorem dX2_readNot_48 : decode cX2_readNot 48 = .ok (.ireturn, 1) := by decide +kernel
theorem dX2_readComparison_0 : decode cX2_readComparison 0 = .ok (.aload_n 0, 1) := by decide +kernel
theorem dX2_readComparison_1 : decode cX2_readComparison 1 = .ok (.aload_n 1, 1) := by decide +kernel
theorem dX2_readComparison_2 : decode cX2_readComparison 2 = .ok (.iload_n 2, 1) := by decide +kernel
theorem dX2_readComparison_3 : decode cX2_readComparison 3 = .ok (.invokevirtual 57, 3) := by decide +kernel
theorem dX2_readComparison_6 : decode cX2_readComparison 6 = .ok (.ifCond .ne 5, 3) := by decide +kernel
theorem dX2_readComparison_9 : decode cX2_readComparison 9 = .ok (.iconst 0, 1) := by decide +kernel
theorem dX2_readComparison_10 : decode cX2_readComparison 10 = .ok (.ireturn, 1) := by decide +kernel
theorem dX2_readComparison_11 : decode cX2_readComparison 11 = .ok (.aload_n 0, 1) := by decide +kernel
theorem dX2_readComparison_12 : decode cX2_readComparison 12 = .ok (.getfield 20, 3) := by decide +kernel
theorem dX2_readComparison_15 : decode cX2_readComparison 15 = .ok (.bipush 60, 2) := by decide +kernel
theorem dX2_readComparison_17 : decode cX2_readComparison 17 = .ok (.if_icmp .eq 14, 3) := by decide +kernel
theorem dX2_readComparison_20 : decode cX2_readComparison 20 = .ok (.aload_n 0, 1) := by decide +kernel
theorem dX2_readComparison_21 : decode cX2_readComparison 21 = .ok (.getfield 20, 3) := by decide +kernel
theorem dX2_readComparison_24 : decode cX2_readComparison 24 = .ok (.bipush 61, 2) := by decide +kernel
theorem dX2_readComparison_26 : decode cX2_readComparison 26 = .ok (.if_icmp .eq 5, 3) := by decide +kernel
theorem dX2_readComparison_29 : decode cX2_readComparison 29 = .ok (.iconst 1, 1) := by decide +kernel
theorem dX2_readComparison_30 : decode cX2_readComparison 30 = .ok (.ireturn, 1) := by decide +kernel
theorem dX2_readComparison_31 : decode cX2_readComparison 31 = .ok (.aload_n 0, 1) := by decide +kernel
theorem dX2_readComparison_32 : decode cX2_readComparison 32 = .ok (.getfield 20, 3) := by decide +kernel
theorem dX2_readComparison_35 : decode cX2_readComparison 35 = .ok (.bipush 60, 2) := by decide +kernel
theorem dX2_readComparison_37 : decode cX2_readComparison 37 = .ok (.if_icmp .ne 8, 3) := by decide +kernel
theorem dX2_readComparison_40 : decode cX2_readComparison 40 = .ok (.bipush (-11), 2) := by decide +kernel
theorem dX2_readComparison_42 : decode cX2_readComparison 42 = .ok (.goto 5, 3) := by decide +kernel
theorem dX2_readComparison_45 : decode cX2_readComparison 45 = .ok (.bipush (-12), 2) := by decide +kernel
theorem dX2_readComparison_47 : decode cX2_readComparison 47 = .ok (.istore_n 3, 1) := by decide +kernel
theorem dX2_readComparison_48 : decode cX2_readComparison 48 = .ok (.aload_n 0, 1) := by decide +kernel
theorem dX2_readComparison_49 : decode cX2_readComparison 49 = .ok (.invokevirtual 34, 3) := by decide +kernel
theorem dX2_readComparison_52 : decode cX2_readComparison 52 = .ok (.aload_n 0, 1) := by decide +kernel
theorem dX2_readComparison_53 : decode cX2_readComparison 53 = .ok (.aload_n 1, 1) := by decide +kernel
theorem dX2_readComparison_54 : decode cX2_readComparison 54 = .ok (.iload_n 2, 1) := by decide +kernel
theorem dX2_readComparison_55 : decode cX2_readComparison 55 = .ok (.invokevirtual 57, 3) := by decide +kernel
theorem dX2_readComparison_58 : decode cX2_readComparison 58 = .ok (.ifCond .ne 5, 3) := by decide +kernel
theorem dX2_readComparison_61 : decode cX2_readComparison 61 = .ok (.iconst 0, 1) := by decide +kernel
theorem dX2_readComparison_62 : decode cX2_readComparison 62 = .ok (.ireturn, 1) := by decide +kernel
theorem dX2_readComparison_63 : decode cX2_readComparison 63 = .ok (.aload_n 1, 1) := by decide +kernel
theorem dX2_readComparison_64 : decode cX2_readComparison 64 = .ok (.iload_n 3, 1) := by decide +kernel
theorem dX2_readComparison_65 : decode cX2_readComparison 65 = .ok (.invokevirtual 48, 3) := by decide +kernel
theorem dX2_readComparison_68 : decode cX2_readComparison 68 = .ok (.iconst 1, 1) := by decide +kernel
theorem dX2_readComparison_69 : decode cX2_readComparison 69 = .ok (.ireturn, 1) := by decide +kernel
theorem dX2_readSum_0 : decode cX2_readSum 0 = .ok (.aload_n 0, 1) := by decide +kernel
theorem dX2_readSum_1 : decode cX2_readSum 1 = .ok (.aload_n 1, 1) := by decide +kernel
theorem dX2_readSum_2 : decode cX2_readSum 2 = .ok (.iload_n 2, 1) := by decide +kernel
theorem dX2_readSum_3 : decode cX2_readSum 3 = .ok (.invokevirtual 60, 3) := by decide +kernel
theorem dX2_readSum_6 : decode cX2_readSum 6 = .ok (.ifCond .ne 5, 3) := by decide +kernel
theorem dX2_readSum_9 : decode cX2_readSum 9 = .ok (.iconst 0, 1) := by decide +kernel
theorem dX2_readSum_10 : decode cX2_readSum 10 = .ok (.ireturn, 1) := by decide +kernel
theorem dX2_readSum_11 : decode cX2_readSum 11 = .ok (.iconst 0, 1) := by decide +kernel
theorem dX2_readSum_12 : decode cX2_readSum 12 = .ok (.istore_n 3, 1) := by decide +kernel
theorem dX2_readSum_13 : decode cX2_readSum 13 = .ok (.iload_n 3, 1) := by decide +kernel
theorem dX2_readSum_14 : decode cX2_readSum 14 = .ok (.sipush 160, 3) := by decide +kernel
theorem dX2_readSum_17 : decode cX2_readSum 17 = .ok (.if_icmp .ge 66, 3) := by decide +kernel
theorem dX2_readSum_20 : decode cX2_readSum 20 = .ok (.aload_n 0, 1) := by decide +kernel
theorem dX2_readSum_21 : decode cX2_readSum 21 = .ok (.getfield 20, 3) := by decide +kernel
theorem dX2_readSum_24 : decode cX2_readSum 24 = .ok (.bipush 43, 2) := by decide +kernel
theorem dX2_readSum_26 : decode cX2_readSum 26 = .ok (.if_icmp .eq 12, 3) := by decide +kernel
theorem dX2_readSum_29 : decode cX2_readSum 29 = .ok (.aload_n 0, 1) := by decide +kernel
theorem dX2_readSum_30 : decode cX2_readSum 30 = .ok (.getfield 20, 3) := by decide +kernel
theorem dX2_readSum_33 : decode cX2_readSum 33 = .ok (.bipush 45, 2) := by decide +kernel
theorem dX2_readSum_35 : decode cX2_readSum 35 = .ok (.if_icmp .ne 48, 3) := by decide +kernel
theorem dX2_readSum_38 : decode cX2_readSum 38 = .ok (.aload_n 0, 1) := by decide +kernel
theorem dX2_readSum_39 : decode cX2_readSum 39 = .ok (.getfield 20, 3) := by decide +kernel
theorem dX2_readSum_42 : decode cX2_readSum 42 = .ok (.bipush 43, 2) := by decide +kernel
theorem dX2_readSum_44 : decode cX2_readSum 44 = .ok (.if_icmp .ne 8, 3) := by decide +kernel
theorem dX2_readSum_47 : decode cX2_readSum 47 = .ok (.bipush (-13), 2) := by decide +kernel
theorem dX2_readSum_49 : decode cX2_readSum 49 = .ok (.goto 5, 3) := by decide +kernel
theorem dX2_readSum_52 : decode cX2_readSum 52 = .ok (.bipush (-14), 2) := by decide +kernel
theorem dX2_readSum_54 : decode cX2_readSum 54 = .ok (.istore 4, 2) := by decide +kernel
theorem dX2_readSum_56 : decode cX2_readSum 56 = .ok (.aload_n 0, 1) := by decide +kernel
theorem dX2_readSum_57 : decode cX2_readSum 57 = .ok (.invokevirtual 34, 3) := by decide +kernel
theorem dX2_readSum_60 : decode cX2_readSum 60 = .ok (.aload_n 0, 1) := by decide +kernel
theorem dX2_readSum_61 : decode cX2_readSum 61 = .ok (.aload_n 1, 1) := by decide +kernel
theorem dX2_readSum_62 : decode cX2_readSum 62 = .ok (.iload_n 2, 1) := by decide +kernel
theorem dX2_readSum_63 : decode cX2_readSum 63 = .ok (.invokevirtual 60, 3) := by decide +kernel
theorem dX2_readSum_66 : decode cX2_readSum 66 = .ok (.ifCond .ne 5, 3) := by decide +kernel
theorem dX2_readSum_69 : decode cX2_readSum 69 = .ok (.iconst 0, 1) := by decide +kernel
theorem dX2_readSum_70 : decode cX2_readSum 70 = .ok (.ireturn, 1) := by decide +kernel
theorem dX2_readSum_71 : decode cX2_readSum 71 = .ok (.aload_n 1, 1) := by decide +kernel
theorem dX2_readSum_72 : decode cX2_readSum 72 = .ok (.iload 4, 2) := by decide +kernel
theorem dX2_readSum_74 : decode cX2_readSum 74 = .ok (.invokevirtual 48, 3) := by decide +kernel
theorem dX2_readSum_77 : decode cX2_readSum 77 = .ok (.iinc 3 1, 3) := by decide +kernel
theorem dX2_readSum_80 : decode cX2_readSum 80 = .ok (.goto (-67), 3) := by decide +kernel
theorem dX2_readSum_83 : decode cX2_readSum 83 = .ok (.iconst 1, 1) := by decide +kernel
theorem dX2_readSum_84 : decode cX2_readSum 84 = .ok (.ireturn, 1) := by decide +kernel
theorem dX2_readTerm_0 : decode cX2_readTerm 0 = .ok (.aload_n 0, 1) := by decide +kernel
theorem dX2_readTerm_1 : decode cX2_readTerm 1 = .ok (.aload_n 1, 1) := by decide +kernel
theorem dX2_readTerm_2 : decode cX2_readTerm 2 = .ok (.iload_n 2, 1) := by decide +kernel
theorem dX2_readTerm_3 : decode cX2_readTerm 3 = .ok (.invokevirtual 63, 3) := by decide +kernel
theorem dX2_readTerm_6 : decode cX2_readTerm 6 = .ok (.ifCond .ne 5, 3) := by decide +kernel
theorem dX2_readTerm_9 : decode cX2_readTerm 9 = .ok (.iconst 0, 1) := by decide +kernel
theorem dX2_readTerm_10 : decode cX2_readTerm 10 = .ok (.ireturn, 1) := by decide +kernel
theorem dX2_readTerm_11 : decode cX2_readTerm 11 = .ok (.iconst 0, 1) := by decide +kernel
theorem dX2_readTerm_12 : decode cX2_readTerm 12 = .ok (.istore_n 3, 1) := by decide +kernel
theorem dX2_readTerm_13 : decode cX2_readTerm 13 = .ok (.iload_n 3, 1) := by decide +kernel
theorem dX2_readTerm_14 : decode cX2_readTerm 14 = .ok (.sipush 160, 3) := by decide +kernel
theorem dX2_readTerm_17 : decode cX2_readTerm 17 = .ok (.if_icmp .ge 39, 3) := by decide +kernel
theorem dX2_readTerm_20 : decode cX2_readTerm 20 = .ok (.aload_n 0, 1) := by decide +kernel
theorem dX2_readTerm_21 : decode cX2_readTerm 21 = .ok (.getfield 20, 3) := by decide +kernel
theorem dX2_readTerm_24 : decode cX2_readTerm 24 = .ok (.bipush 42, 2) := by decide +kernel
theorem dX2_readTerm_26 : decode cX2_readTerm 26 = .ok (.if_icmp .ne 30, 3) := by decide +kernel
theorem dX2_readTerm_29 : decode cX2_readTerm 29 = .ok (.aload_n 0, 1) := by decide +kernel
theorem dX2_readTerm_30 : decode cX2_readTerm 30 = .ok (.invokevirtual 34, 3) := by decide +kernel
theorem dX2_readTerm_33 : decode cX2_readTerm 33 = .ok (.aload_n 0, 1) := by decide +kernel
theorem dX2_readTerm_34 : decode cX2_readTerm 34 = .ok (.aload_n 1, 1) := by decide +kernel
theorem dX2_readTerm_35 : decode cX2_readTerm 35 = .ok (.iload_n 2, 1) := by decide +kernel
theorem dX2_readTerm_36 : decode cX2_readTerm 36 = .ok (.invokevirtual 63, 3) := by decide +kernel
theorem dX2_readTerm_39 : decode cX2_readTerm 39 = .ok (.ifCond .ne 5, 3) := by decide +kernel
theorem dX2_readTerm_42 : decode cX2_readTerm 42 = .ok (.iconst 0, 1) := by decide +kernel
theorem dX2_readTerm_43 : decode cX2_readTerm 43 = .ok (.ireturn, 1) := by decide +kernel
theorem dX2_readTerm_44 : decode cX2_readTerm 44 = .ok (.aload_n 1, 1) := by decide +kernel
theorem dX2_readTerm_45 : decode cX2_readTerm 45 = .ok (.bipush (-15), 2) := by decide +kernel
theorem dX2_readTerm_47 : decode cX2_readTerm 47 = .ok (.invokevirtual 48, 3) := by decide +kernel
theorem dX2_readTerm_50 : decode cX2_readTerm 50 = .ok (.iinc 3 1, 3) := by decide +kernel
theorem dX2_readTerm_53 : decode cX2_readTerm 53 = .ok (.goto (-40), 3) := by decide +kernel
theorem dX2_readTerm_56 : decode cX2_readTerm 56 = .ok (.iconst 1, 1) := by decide +kernel
theorem dX2_readTerm_57 : decode cX2_readTerm 57 = .ok (.ireturn, 1) := by decide +kernel
theorem dX2_readOne_0 : decode cX2_readOne 0 = .ok (.aload_n 0, 1) := by decide +kernel
theorem dX2_readOne_1 : decode cX2_readOne 1 = .ok (.getfield 20, 3) := by decide +kernel
theorem dX2_readOne_4 : decode cX2_readOne 4 = .ok (.sipush 258, 3) := by decide +kernel
theorem dX2_readOne_7 : decode cX2_readOne 7 = .ok (.if_icmp .ne 17, 3) := by decide +kernel
theorem dX2_readOne_10 : decode cX2_readOne 10 = .ok (.aload_n 1, 1) := by decide +kernel
theorem dX2_readOne_11 : decode cX2_readOne 11 = .ok (.aload_n 0, 1) := by decide +kernel
theorem dX2_readOne_12 : decode cX2_readOne 12 = .ok (.getfield 26, 3) := by decide +kernel
theorem dX2_readOne_15 : decode cX2_readOne 15 = .ok (.invokevirtual 48, 3) := by decide +kernel
theorem dX2_readOne_18 : decode cX2_readOne 18 = .ok (.aload_n 0, 1) := by decide +kernel
theorem dX2_readOne_19 : decode cX2_readOne 19 = .ok (.invokevirtual 34, 3) := by decide +kernel
theorem dX2_readOne_22 : decode cX2_readOne 22 = .ok (.iconst 1, 1) := by decide +kernel
theorem dX2_readOne_23 : decode cX2_readOne 23 = .ok (.ireturn, 1) := by decide +kernel
theorem dX2_readOne_24 : decode cX2_readOne 24 = .ok (.aload_n 0, 1) := by decide +kernel
theorem dX2_readOne_25 : decode cX2_readOne 25 = .ok (.getfield 20, 3) := by decide +kernel
theorem dX2_readOne_28 : decode cX2_readOne 28 = .ok (.sipush 300, 3) := by decide +kernel
theorem dX2_readOne_31 : decode cX2_readOne 31 = .ok (.if_icmp .lt 33, 3) := by decide +kernel
theorem dX2_readOne_34 : decode cX2_readOne 34 = .ok (.aload_n 0, 1) := by decide +kernel
theorem dX2_readOne_35 : decode cX2_readOne 35 = .ok (.getfield 20, 3) := by decide +kernel
theorem dX2_readOne_38 : decode cX2_readOne 38 = .ok (.sipush 306, 3) := by decide +kernel
theorem dX2_readOne_41 : decode cX2_readOne 41 = .ok (.if_icmp .ge 23, 3) := by decide +kernel
theorem dX2_readOne_44 : decode cX2_readOne 44 = .ok (.aload_n 1, 1) := by decide +kernel
theorem dX2_readOne_45 : decode cX2_readOne 45 = .ok (.iconst (-1), 1) := by decide +kernel
theorem dX2_readOne_46 : decode cX2_readOne 46 = .ok (.aload_n 0, 1) := by decide +kernel
theorem dX2_readOne_47 : decode cX2_readOne 47 = .ok (.getfield 20, 3) := by decide +kernel
theorem dX2_readOne_50 : decode cX2_readOne 50 = .ok (.sipush 300, 3) := by decide +kernel
theorem dX2_readOne_53 : decode cX2_readOne 53 = .ok (.isub, 1) := by decide +kernel
theorem dX2_readOne_54 : decode cX2_readOne 54 = .ok (.isub, 1) := by decide +kernel
theorem dX2_readOne_55 : decode cX2_readOne 55 = .ok (.invokevirtual 48, 3) := by decide +kernel
theorem dX2_readOne_58 : decode cX2_readOne 58 = .ok (.aload_n 0, 1) := by decide +kernel
theorem dX2_readOne_59 : decode cX2_readOne 59 = .ok (.invokevirtual 34, 3) := by decide +kernel
theorem dX2_readOne_62 : decode cX2_readOne 62 = .ok (.iconst 1, 1) := by decide +kernel
theorem dX2_readOne_63 : decode cX2_readOne 63 = .ok (.ireturn, 1) := by decide +kernel
theorem dX2_readOne_64 : decode cX2_readOne 64 = .ok (.aload_n 0, 1) := by decide +kernel
theorem dX2_readOne_65 : decode cX2_readOne 65 = .ok (.getfield 20, 3) := by decide +kernel
theorem dX2_readOne_68 : decode cX2_readOne 68 = .ok (.bipush 45, 2) := by decide +kernel
theorem dX2_readOne_70 : decode cX2_readOne 70 = .ok (.if_icmp .eq 12, 3) := by decide +kernel
theorem dX2_readOne_73 : decode cX2_readOne 73 = .ok (.aload_n 0, 1) := by decide +kernel
theorem dX2_readOne_74 : decode cX2_readOne 74 = .ok (.getfield 20, 3) := by decide +kernel
theorem dX2_readOne_77 : decode cX2_readOne 77 = .ok (.bipush 40, 2) := by decide +kernel
theorem dX2_readOne_79 : decode cX2_readOne 79 = .ok (.if_icmp .ne 8, 3) := by decide +kernel
theorem dX2_readOne_82 : decode cX2_readOne 82 = .ok (.iload_n 2, 1) := by decide +kernel
theorem dX2_readOne_83 : decode cX2_readOne 83 = .ok (.iconst 5, 1) := by decide +kernel
theorem dX2_readOne_84 : decode cX2_readOne 84 = .ok (.if_icmp .lt 5, 3) := by decide +kernel
theorem dX2_readOne_87 : decode cX2_readOne 87 = .ok (.iconst 0, 1) := by decide +kernel
theorem dX2_readOne_88 : decode cX2_readOne 88 = .ok (.ireturn, 1) := by decide +kernel
theorem dX2_readOne_89 : decode cX2_readOne 89 = .ok (.aload_n 0, 1) := by decide +kernel
theorem dX2_readOne_90 : decode cX2_readOne 90 = .ok (.getfield 20, 3) := by decide +kernel
theorem dX2_readOne_93 : decode cX2_readOne 93 = .ok (.bipush 45, 2) := by decide +kernel
theorem dX2_readOne_95 : decode cX2_readOne 95 = .ok (.if_icmp .ne 12, 3) := by decide +kernel
theorem dX2_readOne_98 : decode cX2_readOne 98 = .ok (.aload_n 0, 1) := by decide +kernel
theorem dX2_readOne_99 : decode cX2_readOne 99 = .ok (.aload_n 1, 1) := by decide +kernel
theorem dX2_readOne_100 : decode cX2_readOne 100 = .ok (.iload_n 2, 1) := by decide +kernel
theorem dX2_readOne_101 : decode cX2_readOne 101 = .ok (.invokevirtual 66, 3) := by decide +kernel
theorem dX2_readOne_104 : decode cX2_readOne 104 = .ok (.goto 9, 3) := by decide +kernel
theorem dX2_readOne_107 : decode cX2_readOne 107 = .ok (.aload_n 0, 1) := by decide +kernel
theorem dX2_readOne_108 : decode cX2_readOne 108 = .ok (.aload_n 1, 1) := by decide +kernel
theorem dX2_readOne_109 : decode cX2_readOne 109 = .ok (.iload_n 2, 1) := by decide +kernel
theorem dX2_readOne_110 : decode cX2_readOne 110 = .ok (.invokevirtual 69, 3) := by decide +kernel
theorem dX2_readOne_113 : decode cX2_readOne 113 = .ok (.ireturn, 1) := by decide +kernel
theorem dX2_readNegative_0 : decode cX2_readNegative 0 = .ok (.aload_n 0, 1) := by decide +kernel
theorem dX2_readNegative_1 : decode cX2_readNegative 1 = .ok (.invokevirtual 34, 3) := by decide +kernel
theorem dX2_readNegative_4 : decode cX2_readNegative 4 = .ok (.aload_n 0, 1) := by decide +kernel
theorem dX2_readNegative_5 : decode cX2_readNegative 5 = .ok (.aload_n 1, 1) := by decide +kernel
theorem dX2_readNegative_6 : decode cX2_readNegative 6 = .ok (.iload_n 2, 1) := by decide +kernel
theorem dX2_readNegative_7 : decode cX2_readNegative 7 = .ok (.iconst 1, 1) := by decide +kernel
theorem dX2_readNegative_8 : decode cX2_readNegative 8 = .ok (.iadd, 1) := by decide +kernel
theorem dX2_readNegative_9 : decode cX2_readNegative 9 = .ok (.invokevirtual 63, 3) := by decide +kernel
theorem dX2_readNegative_12 : decode cX2_readNegative 12 = .ok (.ifCond .ne 5, 3) := by decide +kernel
theorem dX2_readNegative_15 : decode cX2_readNegative 15 = .ok (.iconst 0, 1) := by decide +kernel
theorem dX2_readNegative_16 : decode cX2_readNegative 16 = .ok (.ireturn, 1) := by decide +kernel
theorem dX2_readNegative_17 : decode cX2_readNegative 17 = .ok (.aload_n 1, 1) := by decide +kernel
theorem dX2_readNegative_18 : decode cX2_readNegative 18 = .ok (.bipush (-7), 2) := by decide +kernel
theorem dX2_readNegative_20 : decode cX2_readNegative 20 = .ok (.invokevirtual 48, 3) := by decide +kernel
theorem dX2_readNegative_23 : decode cX2_readNegative 23 = .ok (.iconst 1, 1) := by decide +kernel
theorem dX2_readNegative_24 : decode cX2_readNegative 24 = .ok (.ireturn, 1) := by decide +kernel
theorem dX2_readBraced_0 : decode cX2_readBraced 0 = .ok (.aload_n 0, 1) := by decide +kernel
theorem dX2_readBraced_1 : decode cX2_readBraced 1 = .ok (.invokevirtual 34, 3) := by decide +kernel
theorem dX2_readBraced_4 : decode cX2_readBraced 4 = .ok (.aload_n 0, 1) := by decide +kernel
theorem dX2_readBraced_5 : decode cX2_readBraced 5 = .ok (.aload_n 1, 1) := by decide +kernel
theorem dX2_readBraced_6 : decode cX2_readBraced 6 = .ok (.iload_n 2, 1) := by decide +kernel
theorem dX2_readBraced_7 : decode cX2_readBraced 7 = .ok (.iconst 1, 1) := by decide +kernel
theorem dX2_readBraced_8 : decode cX2_readBraced 8 = .ok (.iadd, 1) := by decide +kernel
theorem dX2_readBraced_9 : decode cX2_readBraced 9 = .ok (.invokevirtual 37, 3) := by decide +kernel
theorem dX2_readBraced_12 : decode cX2_readBraced 12 = .ok (.ifCond .eq 12, 3) := by decide +kernel
theorem dX2_readBraced_15 : decode cX2_readBraced 15 = .ok (.aload_n 0, 1) := by decide +kernel
theorem dX2_readBraced_16 : decode cX2_readBraced 16 = .ok (.getfield 20, 3) := by decide +kernel
theorem dX2_readBraced_19 : decode cX2_readBraced 19 = .ok (.bipush 41, 2) := by decide +kernel
theorem dX2_readBraced_21 : decode cX2_readBraced 21 = .ok (.if_icmp .eq 5, 3) := by decide +kernel
theorem dX2_readBraced_24 : decode cX2_readBraced 24 = .ok (.iconst 0, 1) := by decide +kernel
theorem dX2_readBraced_25 : decode cX2_readBraced 25 = .ok (.ireturn, 1) := by decide +kernel
theorem dX2_readBraced_26 : decode cX2_readBraced 26 = .ok (.aload_n 0, 1) := by decide +kernel
theorem dX2_readBraced_27 : decode cX2_readBraced 27 = .ok (.invokevirtual 34, 3) := by decide +kernel
theorem dX2_readBraced_30 : decode cX2_readBraced 30 = .ok (.iconst 1, 1) := by decide +kernel
theorem dX2_readBraced_31 : decode cX2_readBraced 31 = .ok (.ireturn, 1) := by decide +kernel
theorem dX2_byteAt_0 : decode cX2_byteAt 0 = .ok (.iload_n 1, 1) := by decide +kernel
theorem dX2_byteAt_1 : decode cX2_byteAt 1 = .ok (.ifCond .lt 27, 3) := by decide +kernel
theorem dX2_byteAt_4 : decode cX2_byteAt 4 = .ok (.iload_n 1, 1) := by decide +kernel
theorem dX2_byteAt_5 : decode cX2_byteAt 5 = .ok (.aload_n 0, 1) := by decide +kernel
theorem dX2_byteAt_6 : decode cX2_byteAt 6 = .ok (.getfield 7, 3) := by decide +kernel
theorem dX2_byteAt_9 : decode cX2_byteAt 9 = .ok (.if_icmp .ge 19, 3) := by decide +kernel
theorem dX2_byteAt_12 : decode cX2_byteAt 12 = .ok (.iload_n 1, 1) := by decide +kernel
theorem dX2_byteAt_13 : decode cX2_byteAt 13 = .ok (.sipush 160, 3) := by decide +kernel
theorem dX2_byteAt_16 : decode cX2_byteAt 16 = .ok (.if_icmp .ge 12, 3) := by decide +kernel
theorem dX2_byteAt_19 : decode cX2_byteAt 19 = .ok (.aload_n 0, 1) := by decide +kernel
theorem dX2_byteAt_20 : decode cX2_byteAt 20 = .ok (.getfield 13, 3) := by decide +kernel
theorem dX2_byteAt_23 : decode cX2_byteAt 23 = .ok (.iload_n 1, 1) := by decide +kernel
theorem dX2_byteAt_24 : decode cX2_byteAt 24 = .ok (.iaload, 1) := by decide +kernel
theorem dX2_byteAt_25 : decode cX2_byteAt 25 = .ok (.goto 6, 3) := by decide +kernel
theorem dX2_byteAt_28 : decode cX2_byteAt 28 = .ok (.sipush 256, 3) := by decide +kernel
theorem dX2_byteAt_31 : decode cX2_byteAt 31 = .ok (.ireturn, 1) := by decide +kernel
theorem dX2_advance_0 : decode cX2_advance 0 = .ok (.aload_n 0, 1) := by decide +kernel
theorem dX2_advance_1 : decode cX2_advance 1 = .ok (.getfield 17, 3) := by decide +kernel
theorem dX2_advance_4 : decode cX2_advance 4 = .ok (.aload_n 0, 1) := by decide +kernel
theorem dX2_advance_5 : decode cX2_advance 5 = .ok (.getfield 7, 3) := by decide +kernel
theorem dX2_advance_8 : decode cX2_advance 8 = .ok (.if_icmp .ge 42, 3) := by decide +kernel
theorem dX2_advance_11 : decode cX2_advance 11 = .ok (.aload_n 0, 1) := by decide +kernel
theorem dX2_advance_12 : decode cX2_advance 12 = .ok (.aload_n 0, 1) := by decide +kernel
theorem dX2_advance_13 : decode cX2_advance 13 = .ok (.getfield 17, 3) := by decide +kernel
theorem dX2_advance_16 : decode cX2_advance 16 = .ok (.invokevirtual 72, 3) := by decide +kernel
theorem dX2_advance_19 : decode cX2_advance 19 = .ok (.bipush 32, 2) := by decide +kernel
theorem dX2_advance_21 : decode cX2_advance 21 = .ok (.if_icmp .eq 16, 3) := by decide +kernel
theorem dX2_advance_24 : decode cX2_advance 24 = .ok (.aload_n 0, 1) := by decide +kernel
theorem dX2_advance_25 : decode cX2_advance 25 = .ok (.aload_n 0, 1) := by decide +kernel
theorem dX2_advance_26 : decode cX2_advance 26 = .ok (.getfield 17, 3) := by decide +kernel
theorem dX2_advance_29 : decode cX2_advance 29 = .ok (.invokevirtual 72, 3) := by decide +kernel
theorem dX2_advance_32 : decode cX2_advance 32 = .ok (.bipush 10, 2) := by decide +kernel
theorem dX2_advance_34 : decode cX2_advance 34 = .ok (.if_icmp .ne 16, 3) := by decide +kernel
theorem dX2_advance_37 : decode cX2_advance 37 = .ok (.aload_n 0, 1) := by decide +kernel
theorem dX2_advance_38 : decode cX2_advance 38 = .ok (.dup, 1) := by decide +kernel
theorem dX2_advance_39 : decode cX2_advance 39 = .ok (.getfield 17, 3) := by decide +kernel
theorem dX2_advance_42 : decode cX2_advance 42 = .ok (.iconst 1, 1) := by decide +kernel
theorem dX2_advance_43 : decode cX2_advance 43 = .ok (.iadd, 1) := by decide +kernel
theorem dX2_advance_44 : decode cX2_advance 44 = .ok (.putfield 17, 3) := by decide +kernel
theorem dX2_advance_47 : decode cX2_advance 47 = .ok (.goto (-47), 3) := by decide +kernel
theorem dX2_advance_50 : decode cX2_advance 50 = .ok (.aload_n 0, 1) := by decide +kernel
theorem dX2_advance_51 : decode cX2_advance 51 = .ok (.aload_n 0, 1) := by decide +kernel
theorem dX2_advance_52 : decode cX2_advance 52 = .ok (.getfield 17, 3) := by decide +kernel
theorem dX2_advance_55 : decode cX2_advance 55 = .ok (.putfield 23, 3) := by decide +kernel
theorem dX2_advance_58 : decode cX2_advance 58 = .ok (.aload_n 0, 1) := by decide +kernel
theorem dX2_advance_59 : decode cX2_advance 59 = .ok (.aload_n 0, 1) := by decide +kernel
theorem dX2_advance_60 : decode cX2_advance 60 = .ok (.getfield 17, 3) := by decide +kernel
theorem dX2_advance_63 : decode cX2_advance 63 = .ok (.invokevirtual 72, 3) := by decide +kernel
theorem dX2_advance_66 : decode cX2_advance 66 = .ok (.istore_n 1, 1) := by decide +kernel
theorem dX2_advance_67 : decode cX2_advance 67 = .ok (.iload_n 1, 1) := by decide +kernel
theorem dX2_advance_68 : decode cX2_advance 68 = .ok (.sipush 256, 3) := by decide +kernel
theorem dX2_advance_71 : decode cX2_advance 71 = .ok (.if_icmp .ne 13, 3) := by decide +kernel
theorem dX2_advance_74 : decode cX2_advance 74 = .ok (.aload_n 0, 1) := by decide +kernel
theorem dX2_advance_75 : decode cX2_advance 75 = .ok (.sipush 256, 3) := by decide +kernel
theorem dX2_advance_78 : decode cX2_advance 78 = .ok (.putfield 20, 3) := by decide +kernel
theorem dX2_advance_81 : decode cX2_advance 81 = .ok (.goto 59, 3) := by decide +kernel
theorem dX2_advance_84 : decode cX2_advance 84 = .ok (.iload_n 1, 1) := by decide +kernel
theorem dX2_advance_85 : decode cX2_advance 85 = .ok (.invokestatic 76, 3) := by decide +kernel
theorem dX2_advance_88 : decode cX2_advance 88 = .ok (.ifCond .eq 10, 3) := by decide +kernel
theorem dX2_advance_91 : decode cX2_advance 91 = .ok (.aload_n 0, 1) := by decide +kernel
theorem dX2_advance_92 : decode cX2_advance 92 = .ok (.invokevirtual 80, 3) := by decide +kernel
theorem dX2_advance_95 : decode cX2_advance 95 = .ok (.goto 45, 3) := by decide +kernel
theorem dX2_advance_98 : decode cX2_advance 98 = .ok (.iload_n 1, 1) := by decide +kernel
theorem dX2_advance_99 : decode cX2_advance 99 = .ok (.invokestatic 83, 3) := by decide +kernel
theorem dX2_advance_102 : decode cX2_advance 102 = .ok (.ifCond .eq 10, 3) := by decide +kernel
theorem dX2_advance_105 : decode cX2_advance 105 = .ok (.aload_n 0, 1) := by decide +kernel
theorem dX2_advance_106 : decode cX2_advance 106 = .ok (.invokevirtual 86, 3) := by decide +kernel
theorem dX2_advance_109 : decode cX2_advance 109 = .ok (.goto 31, 3) := by decide +kernel
theorem dX2_advance_112 : decode cX2_advance 112 = .ok (.aload_n 0, 1) := by decide +kernel
theorem dX2_advance_113 : decode cX2_advance 113 = .ok (.iload_n 1, 1) := by decide +kernel
theorem dX2_advance_114 : decode cX2_advance 114 = .ok (.invokestatic 89, 3) := by decide +kernel
theorem dX2_advance_117 : decode cX2_advance 117 = .ok (.ifCond .eq 7, 3) := by decide +kernel
theorem dX2_advance_120 : decode cX2_advance 120 = .ok (.iload_n 1, 1) := by decide +kernel
theorem dX2_advance_121 : decode cX2_advance 121 = .ok (.goto 6, 3) := by decide +kernel
theorem dX2_advance_124 : decode cX2_advance 124 = .ok (.sipush 257, 3) := by decide +kernel
theorem dX2_advance_127 : decode cX2_advance 127 = .ok (.putfield 20, 3) := by decide +kernel
theorem dX2_advance_130 : decode cX2_advance 130 = .ok (.aload_n 0, 1) := by decide +kernel
theorem dX2_advance_131 : decode cX2_advance 131 = .ok (.dup, 1) := by decide +kernel
theorem dX2_advance_132 : decode cX2_advance 132 = .ok (.getfield 17, 3) := by decide +kernel
theorem dX2_advance_135 : decode cX2_advance 135 = .ok (.iconst 1, 1) := by decide +kernel
theorem dX2_advance_136 : decode cX2_advance 136 = .ok (.iadd, 1) := by decide +kernel
theorem dX2_advance_137 : decode cX2_advance 137 = .ok (.putfield 17, 3) := by decide +kernel
theorem dX2_advance_140 : decode cX2_advance 140 = .ok (.return_, 1) := by decide +kernel
theorem dX2_readWord_0 : decode cX2_readWord 0 = .ok (.aload_n 0, 1) := by decide +kernel
theorem dX2_readWord_1 : decode cX2_readWord 1 = .ok (.getfield 17, 3) := by decide +kernel
theorem dX2_readWord_4 : decode cX2_readWord 4 = .ok (.aload_n 0, 1) := by decide +kernel
theorem dX2_readWord_5 : decode cX2_readWord 5 = .ok (.getfield 7, 3) := by decide +kernel
theorem dX2_readWord_8 : decode cX2_readWord 8 = .ok (.if_icmp .ge 30, 3) := by decide +kernel
theorem dX2_readWord_11 : decode cX2_readWord 11 = .ok (.aload_n 0, 1) := by decide +kernel
theorem dX2_readWord_12 : decode cX2_readWord 12 = .ok (.aload_n 0, 1) := by decide +kernel
theorem dX2_readWord_13 : decode cX2_readWord 13 = .ok (.getfield 17, 3) := by decide +kernel
theorem dX2_readWord_16 : decode cX2_readWord 16 = .ok (.invokevirtual 72, 3) := by decide +kernel
theorem dX2_readWord_19 : decode cX2_readWord 19 = .ok (.invokestatic 76, 3) := by decide +kernel
theorem dX2_readWord_22 : decode cX2_readWord 22 = .ok (.ifCond .eq 16, 3) := by decide +kernel
theorem dX2_readWord_25 : decode cX2_readWord 25 = .ok (.aload_n 0, 1) := by decide +kernel
theorem dX2_readWord_26 : decode cX2_readWord 26 = .ok (.dup, 1) := by decide +kernel
theorem dX2_readWord_27 : decode cX2_readWord 27 = .ok (.getfield 17, 3) := by decide +kernel
theorem dX2_readWord_30 : decode cX2_readWord 30 = .ok (.iconst 1, 1) := by decide +kernel
theorem dX2_readWord_31 : decode cX2_readWord 31 = .ok (.iadd, 1) := by decide +kernel
theorem dX2_readWord_32 : decode cX2_readWord 32 = .ok (.putfield 17, 3) := by decide +kernel
theorem dX2_readWord_35 : decode cX2_readWord 35 = .ok (.goto (-35), 3) := by decide +kernel
theorem dX2_readWord_38 : decode cX2_readWord 38 = .ok (.aload_n 0, 1) := by decide +kernel
theorem dX2_readWord_39 : decode cX2_readWord 39 = .ok (.aload_n 0, 1) := by decide +kernel
theorem dX2_readWord_40 : decode cX2_readWord 40 = .ok (.getfield 23, 3) := by decide +kernel
theorem dX2_readWord_43 : decode cX2_readWord 43 = .ok (.aload_n 0, 1) := by decide +kernel
theorem dX2_readWord_44 : decode cX2_readWord 44 = .ok (.getfield 17, 3) := by decide +kernel
theorem dX2_readWord_47 : decode cX2_readWord 47 = .ok (.aload_n 0, 1) := by decide +kernel
theorem dX2_readWord_48 : decode cX2_readWord 48 = .ok (.getfield 23, 3) := by decide +kernel
theorem dX2_readWord_51 : decode cX2_readWord 51 = .ok (.isub, 1) := by decide +kernel
theorem dX2_readWord_52 : decode cX2_readWord 52 = .ok (.invokevirtual 92, 3) := by decide +kernel
theorem dX2_readWord_55 : decode cX2_readWord 55 = .ok (.istore_n 1, 1) := by decide +kernel
theorem dX2_readWord_56 : decode cX2_readWord 56 = .ok (.aload_n 0, 1) := by decide +kernel
theorem dX2_readWord_57 : decode cX2_readWord 57 = .ok (.iload_n 1, 1) := by decide +kernel
theorem dX2_readWord_58 : decode cX2_readWord 58 = .ok (.ifCond .ge 9, 3) := by decide +kernel
theorem dX2_readWord_61 : decode cX2_readWord 61 = .ok (.sipush 257, 3) := by decide +kernel
theorem dX2_readWord_64 : decode cX2_readWord 64 = .ok (.goto 8, 3) := by decide +kernel
theorem dX2_readWord_67 : decode cX2_readWord 67 = .ok (.sipush 300, 3) := by decide +kernel
theorem dX2_readWord_70 : decode cX2_readWord 70 = .ok (.iload_n 1, 1) := by decide +kernel
theorem dX2_readWord_71 : decode cX2_readWord 71 = .ok (.iadd, 1) := by decide +kernel
theorem dX2_readWord_72 : decode cX2_readWord 72 = .ok (.putfield 20, 3) := by decide +kernel
theorem dX2_readWord_75 : decode cX2_readWord 75 = .ok (.return_, 1) := by decide +kernel
theorem dX2_readNumber_0 : decode cX2_readNumber 0 = .ok (.aload_n 0, 1) := by decide +kernel
theorem dX2_readNumber_1 : decode cX2_readNumber 1 = .ok (.iconst 0, 1) := by decide +kernel
theorem dX2_readNumber_2 : decode cX2_readNumber 2 = .ok (.putfield 26, 3) := by decide +kernel
theorem dX2_readNumber_5 : decode cX2_readNumber 5 = .ok (.aload_n 0, 1) := by decide +kernel
theorem dX2_readNumber_6 : decode cX2_readNumber 6 = .ok (.getfield 17, 3) := by decide +kernel
theorem dX2_readNumber_9 : decode cX2_readNumber 9 = .ok (.aload_n 0, 1) := by decide +kernel
theorem dX2_readNumber_10 : decode cX2_readNumber 10 = .ok (.getfield 7, 3) := by decide +kernel
theorem dX2_readNumber_13 : decode cX2_readNumber 13 = .ok (.if_icmp .ge 53, 3) := by decide +kernel
theorem dX2_readNumber_16 : decode cX2_readNumber 16 = .ok (.aload_n 0, 1) := by decide +kernel
theorem dX2_readNumber_17 : decode cX2_readNumber 17 = .ok (.aload_n 0, 1) := by decide +kernel
theorem dX2_readNumber_18 : decode cX2_readNumber 18 = .ok (.getfield 17, 3) := by decide +kernel
theorem dX2_readNumber_21 : decode cX2_readNumber 21 = .ok (.invokevirtual 72, 3) := by decide +kernel
theorem dX2_readNumber_24 : decode cX2_readNumber 24 = .ok (.invokestatic 83, 3) := by decide +kernel
theorem dX2_readNumber_27 : decode cX2_readNumber 27 = .ok (.ifCond .eq 39, 3) := by decide +kernel
theorem dX2_readNumber_30 : decode cX2_readNumber 30 = .ok (.aload_n 0, 1) := by decide +kernel
theorem dX2_readNumber_31 : decode cX2_readNumber 31 = .ok (.aload_n 0, 1) := by decide +kernel
theorem dX2_readNumber_32 : decode cX2_readNumber 32 = .ok (.getfield 26, 3) := by decide +kernel
theorem dX2_readNumber_35 : decode cX2_readNumber 35 = .ok (.bipush 10, 2) := by decide +kernel
theorem dX2_readNumber_37 : decode cX2_readNumber 37 = .ok (.imul, 1) := by decide +kernel
theorem dX2_readNumber_38 : decode cX2_readNumber 38 = .ok (.aload_n 0, 1) := by decide +kernel
theorem dX2_readNumber_39 : decode cX2_readNumber 39 = .ok (.aload_n 0, 1) := by decide +kernel
theorem dX2_readNumber_40 : decode cX2_readNumber 40 = .ok (.getfield 17, 3) := by decide +kernel
theorem dX2_readNumber_43 : decode cX2_readNumber 43 = .ok (.invokevirtual 72, 3) := by decide +kernel
theorem dX2_readNumber_46 : decode cX2_readNumber 46 = .ok (.iadd, 1) := by decide +kernel
theorem dX2_readNumber_47 : decode cX2_readNumber 47 = .ok (.bipush 48, 2) := by decide +kernel
theorem dX2_readNumber_49 : decode cX2_readNumber 49 = .ok (.isub, 1) := by decide +kernel
theorem dX2_readNumber_50 : decode cX2_readNumber 50 = .ok (.putfield 26, 3) := by decide +kernel
theorem dX2_readNumber_53 : decode cX2_readNumber 53 = .ok (.aload_n 0, 1) := by decide +kernel
theorem dX2_readNumber_54 : decode cX2_readNumber 54 = .ok (.dup, 1) := by decide +kernel
theorem dX2_readNumber_55 : decode cX2_readNumber 55 = .ok (.getfield 17, 3) := by decide +kernel
theorem dX2_readNumber_58 : decode cX2_readNumber 58 = .ok (.iconst 1, 1) := by decide +kernel
theorem dX2_readNumber_59 : decode cX2_readNumber 59 = .ok (.iadd, 1) := by decide +kernel
theorem dX2_readNumber_60 : decode cX2_readNumber 60 = .ok (.putfield 17, 3) := by decide +kernel
theorem dX2_readNumber_63 : decode cX2_readNumber 63 = .ok (.goto (-58), 3) := by decide +kernel
theorem dX2_readNumber_66 : decode cX2_readNumber 66 = .ok (.aload_n 0, 1) := by decide +kernel
theorem dX2_readNumber_67 : decode cX2_readNumber 67 = .ok (.aload_n 0, 1) := by decide +kernel
theorem dX2_readNumber_68 : decode cX2_readNumber 68 = .ok (.getfield 17, 3) := by decide +kernel
theorem dX2_readNumber_71 : decode cX2_readNumber 71 = .ok (.aload_n 0, 1) := by decide +kernel
theorem dX2_readNumber_72 : decode cX2_readNumber 72 = .ok (.getfield 23, 3) := by decide +kernel
theorem dX2_readNumber_75 : decode cX2_readNumber 75 = .ok (.isub, 1) := by decide +kernel
theorem dX2_readNumber_76 : decode cX2_readNumber 76 = .ok (.iconst 4, 1) := by decide +kernel
theorem dX2_readNumber_77 : decode cX2_readNumber 77 = .ok (.if_icmp .le 9, 3) := by decide +kernel
theorem dX2_readNumber_80 : decode cX2_readNumber 80 = .ok (.sipush 257, 3) := by decide +kernel
theorem dX2_readNumber_83 : decode cX2_readNumber 83 = .ok (.goto 6, 3) := by decide +kernel
theorem dX2_readNumber_86 : decode cX2_readNumber 86 = .ok (.sipush 258, 3) := by decide +kernel
theorem dX2_readNumber_89 : decode cX2_readNumber 89 = .ok (.putfield 20, 3) := by decide +kernel
theorem dX2_readNumber_92 : decode cX2_readNumber 92 = .ok (.return_, 1) := by decide +kernel
theorem dX2_wordNumber_0 : decode cX2_wordNumber 0 = .ok (.iconst 0, 1) := by decide +kernel
theorem dX2_wordNumber_1 : decode cX2_wordNumber 1 = .ok (.istore_n 3, 1) := by decide +kernel
theorem dX2_wordNumber_2 : decode cX2_wordNumber 2 = .ok (.iconst 0, 1) := by decide +kernel
theorem dX2_wordNumber_3 : decode cX2_wordNumber 3 = .ok (.istore 4, 2) := by decide +kernel
theorem dX2_wordNumber_5 : decode cX2_wordNumber 5 = .ok (.iconst 1, 1) := by decide +kernel
theorem dX2_wordNumber_6 : decode cX2_wordNumber 6 = .ok (.istore 5, 2) := by decide +kernel
theorem dX2_wordNumber_8 : decode cX2_wordNumber 8 = .ok (.iconst 0, 1) := by decide +kernel
theorem dX2_wordNumber_9 : decode cX2_wordNumber 9 = .ok (.istore 6, 2) := by decide +kernel
theorem dX2_wordNumber_11 : decode cX2_wordNumber 11 = .ok (.iload 6, 2) := by decide +kernel
theorem dX2_wordNumber_13 : decode cX2_wordNumber 13 = .ok (.ldc 96, 2) := by decide +kernel
theorem dX2_wordNumber_15 : decode cX2_wordNumber 15 = .ok (.invokevirtual 98, 3) := by decide +kernel
theorem dX2_wordNumber_18 : decode cX2_wordNumber 18 = .ok (.if_icmp .ge 84, 3) := by decide +kernel
theorem dX2_wordNumber_21 : decode cX2_wordNumber 21 = .ok (.ldc 96, 2) := by decide +kernel
theorem dX2_wordNumber_23 : decode cX2_wordNumber 23 = .ok (.iload 6, 2) := by decide +kernel
theorem dX2_wordNumber_25 : decode cX2_wordNumber 25 = .ok (.invokevirtual 104, 3) := by decide +kernel
theorem dX2_wordNumber_28 : decode cX2_wordNumber 28 = .ok (.istore 7, 2) := by decide +kernel
theorem dX2_wordNumber_30 : decode cX2_wordNumber 30 = .ok (.iload 7, 2) := by decide +kernel
theorem dX2_wordNumber_32 : decode cX2_wordNumber 32 = .ok (.bipush 32, 2) := by decide +kernel
theorem dX2_wordNumber_34 : decode cX2_wordNumber 34 = .ok (.if_icmp .ne 28, 3) := by decide +kernel
theorem dX2_wordNumber_37 : decode cX2_wordNumber 37 = .ok (.iload 5, 2) := by decide +kernel
theorem dX2_wordNumber_39 : decode cX2_wordNumber 39 = .ok (.ifCond .eq 11, 3) := by decide +kernel
theorem dX2_wordNumber_42 : decode cX2_wordNumber 42 = .ok (.iload 4, 2) := by decide +kernel
theorem dX2_wordNumber_44 : decode cX2_wordNumber 44 = .ok (.iload_n 2, 1) := by decide +kernel
theorem dX2_wordNumber_45 : decode cX2_wordNumber 45 = .ok (.if_icmp .ne 5, 3) := by decide +kernel
theorem dX2_wordNumber_48 : decode cX2_wordNumber 48 = .ok (.iload_n 3, 1) := by decide +kernel
theorem dX2_wordNumber_49 : decode cX2_wordNumber 49 = .ok (.ireturn, 1) := by decide +kernel
theorem dX2_wordNumber_50 : decode cX2_wordNumber 50 = .ok (.iinc 3 1, 3) := by decide +kernel
theorem dX2_wordNumber_53 : decode cX2_wordNumber 53 = .ok (.iconst 0, 1) := by decide +kernel
theorem dX2_wordNumber_54 : decode cX2_wordNumber 54 = .ok (.istore 4, 2) := by decide +kernel
theorem dX2_wordNumber_56 : decode cX2_wordNumber 56 = .ok (.iconst 1, 1) := by decide +kernel
theorem dX2_wordNumber_57 : decode cX2_wordNumber 57 = .ok (.istore 5, 2) := by decide +kernel
theorem dX2_wordNumber_59 : decode cX2_wordNumber 59 = .ok (.goto 37, 3) := by decide +kernel
theorem dX2_wordNumber_62 : decode cX2_wordNumber 62 = .ok (.iload 5, 2) := by decide +kernel
theorem dX2_wordNumber_64 : decode cX2_wordNumber 64 = .ok (.ifCond .eq 26, 3) := by decide +kernel
theorem dX2_wordNumber_67 : decode cX2_wordNumber 67 = .ok (.iload 4, 2) := by decide +kernel
theorem dX2_wordNumber_69 : decode cX2_wordNumber 69 = .ok (.iload_n 2, 1) := by decide +kernel
theorem dX2_wordNumber_70 : decode cX2_wordNumber 70 = .ok (.if_icmp .ge 20, 3) := by decide +kernel
theorem dX2_wordNumber_73 : decode cX2_wordNumber 73 = .ok (.aload_n 0, 1) := by decide +kernel
theorem dX2_wordNumber_74 : decode cX2_wordNumber 74 = .ok (.iload_n 1, 1) := by decide +kernel
theorem dX2_wordNumber_75 : decode cX2_wordNumber 75 = .ok (.iload 4, 2) := by decide +kernel
theorem dX2_wordNumber_77 : decode cX2_wordNumber 77 = .ok (.iadd, 1) := by decide +kernel
theorem dX2_wordNumber_78 : decode cX2_wordNumber 78 = .ok (.invokevirtual 72, 3) := by decide +kernel
theorem dX2_wordNumber_81 : decode cX2_wordNumber 81 = .ok (.iload 7, 2) := by decide +kernel
theorem dX2_wordNumber_83 : decode cX2_wordNumber 83 = .ok (.if_icmp .ne 7, 3) := by decide +kernel
theorem dX2_wordNumber_86 : decode cX2_wordNumber 86 = .ok (.iconst 1, 1) := by decide +kernel
theorem dX2_wordNumber_87 : decode cX2_wordNumber 87 = .ok (.goto 4, 3) := by decide +kernel
theorem dX2_wordNumber_90 : decode cX2_wordNumber 90 = .ok (.iconst 0, 1) := by decide +kernel
theorem dX2_wordNumber_91 : decode cX2_wordNumber 91 = .ok (.istore 5, 2) := by decide +kernel
theorem dX2_wordNumber_93 : decode cX2_wordNumber 93 = .ok (.iinc 4 1, 3) := by decide +kernel
theorem dX2_wordNumber_96 : decode cX2_wordNumber 96 = .ok (.iinc 6 1, 3) := by decide +kernel
theorem dX2_wordNumber_99 : decode cX2_wordNumber 99 = .ok (.goto (-88), 3) := by decide +kernel
theorem dX2_wordNumber_102 : decode cX2_wordNumber 102 = .ok (.iconst (-1), 1) := by decide +kernel
theorem dX2_wordNumber_103 : decode cX2_wordNumber 103 = .ok (.ireturn, 1) := by decide +kernel
theorem dX2_isLetter_0 : decode cX2_isLetter 0 = .ok (.iload_n 0, 1) := by decide +kernel
theorem dX2_isLetter_1 : decode cX2_isLetter 1 = .ok (.bipush 97, 2) := by decide +kernel
theorem dX2_isLetter_3 : decode cX2_isLetter 3 = .ok (.if_icmp .lt 13, 3) := by decide +kernel
theorem dX2_isLetter_6 : decode cX2_isLetter 6 = .ok (.iload_n 0, 1) := by decide +kernel
theorem dX2_isLetter_7 : decode cX2_isLetter 7 = .ok (.bipush 122, 2) := by decide +kernel
theorem dX2_isLetter_9 : decode cX2_isLetter 9 = .ok (.if_icmp .gt 7, 3) := by decide +kernel
theorem dX2_isLetter_12 : decode cX2_isLetter 12 = .ok (.iconst 1, 1) := by decide +kernel
theorem dX2_isLetter_13 : decode cX2_isLetter 13 = .ok (.goto 4, 3) := by decide +kernel
theorem dX2_isLetter_16 : decode cX2_isLetter 16 = .ok (.iconst 0, 1) := by decide +kernel
theorem dX2_isLetter_17 : decode cX2_isLetter 17 = .ok (.ireturn, 1) := by decide +kernel
theorem dX2_isDigit_0 : decode cX2_isDigit 0 = .ok (.iload_n 0, 1) := by decide +kernel
theorem dX2_isDigit_1 : decode cX2_isDigit 1 = .ok (.bipush 48, 2) := by decide +kernel
theorem dX2_isDigit_3 : decode cX2_isDigit 3 = .ok (.if_icmp .lt 13, 3) := by decide +kernel
theorem dX2_isDigit_6 : decode cX2_isDigit 6 = .ok (.iload_n 0, 1) := by decide +kernel
theorem dX2_isDigit_7 : decode cX2_isDigit 7 = .ok (.bipush 57, 2) := by decide +kernel
theorem dX2_isDigit_9 : decode cX2_isDigit 9 = .ok (.if_icmp .gt 7, 3) := by decide +kernel
theorem dX2_isDigit_12 : decode cX2_isDigit 12 = .ok (.iconst 1, 1) := by decide +kernel
theorem dX2_isDigit_13 : decode cX2_isDigit 13 = .ok (.goto 4, 3) := by decide +kernel
theorem dX2_isDigit_16 : decode cX2_isDigit 16 = .ok (.iconst 0, 1) := by decide +kernel
theorem dX2_isDigit_17 : decode cX2_isDigit 17 = .ok (.ireturn, 1) := by decide +kernel
theorem dX2_isSign_0 : decode cX2_isSign 0 = .ok (.iload_n 0, 1) := by decide +kernel
theorem dX2_isSign_1 : decode cX2_isSign 1 = .ok (.sipush 128, 3) := by decide +kernel
theorem dX2_isSign_4 : decode cX2_isSign 4 = .ok (.if_icmp .ge 17, 3) := by decide +kernel
theorem dX2_isSign_7 : decode cX2_isSign 7 = .ok (.ldc 108, 2) := by decide +kernel
theorem dX2_isSign_9 : decode cX2_isSign 9 = .ok (.iload_n 0, 1) := by decide +kernel
theorem dX2_isSign_10 : decode cX2_isSign 10 = .ok (.i2c, 1) := by decide +kernel
theorem dX2_isSign_11 : decode cX2_isSign 11 = .ok (.invokevirtual 110, 3) := by decide +kernel
theorem dX2_isSign_14 : decode cX2_isSign 14 = .ok (.ifCond .lt 7, 3) := by decide +kernel
theorem dX2_isSign_17 : decode cX2_isSign 17 = .ok (.iconst 1, 1) := by decide +kernel
theorem dX2_isSign_18 : decode cX2_isSign 18 = .ok (.goto 4, 3) := by decide +kernel
theorem dX2_isSign_21 : decode cX2_isSign 21 = .ok (.iconst 0, 1) := by decide +kernel
theorem dX2_isSign_22 : decode cX2_isSign 22 = .ok (.ireturn, 1) := by decide +kernel
theorem dX3_init_0 : decode cX3_init 0 = .ok (.aload_n 0, 1) := by decide +kernel
theorem dX3_init_1 : decode cX3_init 1 = .ok (.invokespecial 5, 3) := by decide +kernel
theorem dX3_init_4 : decode cX3_init 4 = .ok (.aload_n 0, 1) := by decide +kernel
theorem dX3_init_5 : decode cX3_init 5 = .ok (.iconst 0, 1) := by decide +kernel
theorem dX3_init_6 : decode cX3_init 6 = .ok (.putfield 11, 3) := by decide +kernel
theorem dX3_init_9 : decode cX3_init 9 = .ok (.aload_n 0, 1) := by decide +kernel
theorem dX3_init_10 : decode cX3_init 10 = .ok (.sipush 6144, 3) := by decide +kernel
theorem dX3_init_13 : decode cX3_init 13 = .ok (.newarray .int, 2) := by decide +kernel
theorem dX3_init_15 : decode cX3_init 15 = .ok (.putfield 17, 3) := by decide +kernel
theorem dX3_init_18 : decode cX3_init 18 = .ok (.aload_n 0, 1) := by decide +kernel
theorem dX3_init_19 : decode cX3_init 19 = .ok (.bipush 96, 2) := by decide +kernel
theorem dX3_init_21 : decode cX3_init 21 = .ok (.newarray .long, 2) := by decide +kernel
theorem dX3_init_23 : decode cX3_init 23 = .ok (.putfield 21, 3) := by decide +kernel
theorem dX3_init_26 : decode cX3_init 26 = .ok (.return_, 1) := by decide +kernel
theorem dX3_from_0 : decode cX3_from 0 = .ok (.aload_n 0, 1) := by decide +kernel
theorem dX3_from_1 : decode cX3_from 1 = .ok (.getfield 21, 3) := by decide +kernel
theorem dX3_from_4 : decode cX3_from 4 = .ok (.lconst 0, 1) := by decide +kernel
theorem dX3_from_5 : decode cX3_from 5 = .ok (.invokestatic 25, 3) := by decide +kernel
theorem dX3_from_8 : decode cX3_from 8 = .ok (.aload_n 0, 1) := by decide +kernel
theorem dX3_from_9 : decode cX3_from 9 = .ok (.iconst 0, 1) := by decide +kernel
theorem dX3_from_10 : decode cX3_from 10 = .ok (.putfield 11, 3) := by decide +kernel
theorem dX3_from_13 : decode cX3_from 13 = .ok (.aload_n 0, 1) := by decide +kernel
theorem dX3_from_14 : decode cX3_from 14 = .ok (.iload_n 2, 1) := by decide +kernel
theorem dX3_from_15 : decode cX3_from 15 = .ok (.iconst 0, 1) := by decide +kernel
theorem dX3_from_16 : decode cX3_from 16 = .ok (.invokevirtual 31, 3) := by decide +kernel
theorem dX3_from_19 : decode cX3_from 19 = .ok (.iconst 0, 1) := by decide +kernel
theorem dX3_from_20 : decode cX3_from 20 = .ok (.istore_n 3, 1) := by decide +kernel
theorem dX3_from_21 : decode cX3_from 21 = .ok (.iload_n 3, 1) := by decide +kernel
theorem dX3_from_22 : decode cX3_from 22 = .ok (.aload_n 0, 1) := by decide +kernel
theorem dX3_from_23 : decode cX3_from 23 = .ok (.getfield 11, 3) := by decide +kernel
theorem dX3_from_26 : decode cX3_from 26 = .ok (.if_icmp .ge 66, 3) := by decide +kernel
theorem dX3_from_29 : decode cX3_from 29 = .ok (.iload_n 3, 1) := by decide +kernel
theorem dX3_from_30 : decode cX3_from 30 = .ok (.aload_n 0, 1) := by decide +kernel
theorem dX3_from_31 : decode cX3_from 31 = .ok (.getfield 17, 3) := by decide +kernel
theorem dX3_from_34 : decode cX3_from 34 = .ok (.arraylength, 1) := by decide +kernel
theorem dX3_from_35 : decode cX3_from 35 = .ok (.if_icmp .ge 57, 3) := by decide +kernel
theorem dX3_from_38 : decode cX3_from 38 = .ok (.aload_n 0, 1) := by decide +kernel
theorem dX3_from_39 : decode cX3_from 39 = .ok (.iload_n 3, 1) := by decide +kernel
theorem dX3_from_40 : decode cX3_from 40 = .ok (.invokevirtual 35, 3) := by decide +kernel
theorem dX3_from_43 : decode cX3_from 43 = .ok (.istore 4, 2) := by decide +kernel
theorem dX3_from_45 : decode cX3_from 45 = .ok (.iconst 0, 1) := by decide +kernel
theorem dX3_from_46 : decode cX3_from 46 = .ok (.istore 5, 2) := by decide +kernel
theorem dX3_from_48 : decode cX3_from 48 = .ok (.iload 5, 2) := by decide +kernel
theorem dX3_from_50 : decode cX3_from 50 = .ok (.aload_n 1, 1) := by decide +kernel
theorem dX3_from_51 : decode cX3_from 51 = .ok (.getfield 39, 3) := by decide +kernel
theorem dX3_from_54 : decode cX3_from 54 = .ok (.if_icmp .ge 32, 3) := by decide +kernel
theorem dX3_from_57 : decode cX3_from 57 = .ok (.aload_n 1, 1) := by decide +kernel
theorem dX3_from_58 : decode cX3_from 58 = .ok (.iload 4, 2) := by decide +kernel
theorem dX3_from_60 : decode cX3_from 60 = .ok (.iload 5, 2) := by decide +kernel
theorem dX3_from_62 : decode cX3_from 62 = .ok (.invokevirtual 44, 3) := by decide +kernel
theorem dX3_from_65 : decode cX3_from 65 = .ok (.istore 6, 2) := by decide +kernel
theorem dX3_from_67 : decode cX3_from 67 = .ok (.iload 6, 2) := by decide +kernel
theorem dX3_from_69 : decode cX3_from 69 = .ok (.iconst (-1), 1) := by decide +kernel
theorem dX3_from_70 : decode cX3_from 70 = .ok (.if_icmp .eq 10, 3) := by decide +kernel
theorem dX3_from_73 : decode cX3_from 73 = .ok (.aload_n 0, 1) := by decide +kernel
theorem dX3_from_74 : decode cX3_from 74 = .ok (.iload 6, 2) := by decide +kernel
theorem dX3_from_76 : decode cX3_from 76 = .ok (.iload_n 3, 1) := by decide +kernel
theorem dX3_from_77 : decode cX3_from 77 = .ok (.invokevirtual 31, 3) := by decide +kernel
theorem dX3_from_80 : decode cX3_from 80 = .ok (.iinc 5 1, 3) := by decide +kernel
theorem dX3_from_83 : decode cX3_from 83 = .ok (.goto (-35), 3) := by decide +kernel
theorem dX3_from_86 : decode cX3_from 86 = .ok (.iinc 3 1, 3) := by decide +kernel
theorem dX3_from_89 : decode cX3_from 89 = .ok (.goto (-68), 3) := by decide +kernel
theorem dX3_from_92 : decode cX3_from 92 = .ok (.return_, 1) := by decide +kernel
theorem dX3_add_0 : decode cX3_add 0 = .ok (.aload_n 0, 1) := by decide +kernel
theorem dX3_add_1 : decode cX3_add 1 = .ok (.getfield 11, 3) := by decide +kernel
theorem dX3_add_4 : decode cX3_add 4 = .ok (.aload_n 0, 1) := by decide +kernel
theorem dX3_add_5 : decode cX3_add 5 = .ok (.getfield 17, 3) := by decide +kernel
theorem dX3_add_8 : decode cX3_add 8 = .ok (.arraylength, 1) := by decide +kernel
theorem dX3_add_9 : decode cX3_add 9 = .ok (.if_icmp .ge 11, 3) := by decide +kernel
theorem dX3_add_12 : decode cX3_add 12 = .ok (.aload_n 0, 1) := by decide +kernel
theorem dX3_add_13 : decode cX3_add 13 = .ok (.iload_n 1, 1) := by decide +kernel
theorem dX3_add_14 : decode cX3_add 14 = .ok (.invokevirtual 48, 3) := by decide +kernel
theorem dX3_add_17 : decode cX3_add 17 = .ok (.ifCond .eq 4, 3) := by decide +kernel
theorem dX3_add_20 : decode cX3_add 20 = .ok (.return_, 1) := by decide +kernel
theorem dX3_add_21 : decode cX3_add 21 = .ok (.aload_n 0, 1) := by decide +kernel
theorem dX3_add_22 : decode cX3_add 22 = .ok (.iload_n 1, 1) := by decide +kernel
theorem dX3_add_23 : decode cX3_add 23 = .ok (.invokevirtual 52, 3) := by decide +kernel
theorem dX3_add_26 : decode cX3_add 26 = .ok (.aload_n 0, 1) := by decide +kernel
theorem dX3_add_27 : decode cX3_add 27 = .ok (.getfield 17, 3) := by decide +kernel
theorem dX3_add_30 : decode cX3_add 30 = .ok (.aload_n 0, 1) := by decide +kernel
theorem dX3_add_31 : decode cX3_add 31 = .ok (.getfield 11, 3) := by decide +kernel
theorem dX3_add_34 : decode cX3_add 34 = .ok (.iload_n 1, 1) := by decide +kernel
theorem dX3_add_35 : decode cX3_add 35 = .ok (.bipush 13, 2) := by decide +kernel
theorem dX3_add_37 : decode cX3_add 37 = .ok (.ishl, 1) := by decide +kernel
theorem dX3_add_38 : decode cX3_add 38 = .ok (.iload_n 2, 1) := by decide +kernel
theorem dX3_add_39 : decode cX3_add 39 = .ok (.ior, 1) := by decide +kernel
theorem dX3_add_40 : decode cX3_add 40 = .ok (.iastore, 1) := by decide +kernel
theorem dX3_add_41 : decode cX3_add 41 = .ok (.aload_n 0, 1) := by decide +kernel
theorem dX3_add_42 : decode cX3_add 42 = .ok (.dup, 1) := by decide +kernel
theorem dX3_add_43 : decode cX3_add 43 = .ok (.getfield 11, 3) := by decide +kernel
theorem dX3_add_46 : decode cX3_add 46 = .ok (.iconst 1, 1) := by decide +kernel
theorem dX3_add_47 : decode cX3_add 47 = .ok (.iadd, 1) := by decide +kernel
theorem dX3_add_48 : decode cX3_add 48 = .ok (.putfield 11, 3) := by decide +kernel
theorem dX3_add_51 : decode cX3_add 51 = .ok (.return_, 1) := by decide +kernel
theorem dX3_isMarked_0 : decode cX3_isMarked 0 = .ok (.iload_n 1, 1) := by decide +kernel
theorem dX3_isMarked_1 : decode cX3_isMarked 1 = .ok (.bipush 6, 2) := by decide +kernel
theorem dX3_isMarked_3 : decode cX3_isMarked 3 = .ok (.ishr, 1) := by decide +kernel
theorem dX3_isMarked_4 : decode cX3_isMarked 4 = .ok (.istore_n 2, 1) := by decide +kernel
theorem dX3_isMarked_5 : decode cX3_isMarked 5 = .ok (.iload_n 2, 1) := by decide +kernel
theorem dX3_isMarked_6 : decode cX3_isMarked 6 = .ok (.ifCond .lt 34, 3) := by decide +kernel
theorem dX3_isMarked_9 : decode cX3_isMarked 9 = .ok (.iload_n 2, 1) := by decide +kernel
theorem dX3_isMarked_10 : decode cX3_isMarked 10 = .ok (.aload_n 0, 1) := by decide +kernel
theorem dX3_isMarked_11 : decode cX3_isMarked 11 = .ok (.getfield 21, 3) := by decide +kernel
theorem dX3_isMarked_14 : decode cX3_isMarked 14 = .ok (.arraylength, 1) := by decide +kernel
theorem dX3_isMarked_15 : decode cX3_isMarked 15 = .ok (.if_icmp .ge 25, 3) := by decide +kernel
theorem dX3_isMarked_18 : decode cX3_isMarked 18 = .ok (.aload_n 0, 1) := by decide +kernel
theorem dX3_isMarked_19 : decode cX3_isMarked 19 = .ok (.getfield 21, 3) := by decide +kernel
theorem dX3_isMarked_22 : decode cX3_isMarked 22 = .ok (.iload_n 2, 1) := by decide +kernel
theorem dX3_isMarked_23 : decode cX3_isMarked 23 = .ok (.laload, 1) := by decide +kernel
theorem dX3_isMarked_24 : decode cX3_isMarked 24 = .ok (.iload_n 1, 1) := by decide +kernel
theorem dX3_isMarked_25 : decode cX3_isMarked 25 = .ok (.bipush 63, 2) := by decide +kernel
theorem dX3_isMarked_27 : decode cX3_isMarked 27 = .ok (.iand, 1) := by decide +kernel
theorem dX3_isMarked_28 : decode cX3_isMarked 28 = .ok (.lshr, 1) := by decide +kernel
theorem dX3_isMarked_29 : decode cX3_isMarked 29 = .ok (.lconst 1, 1) := by decide +kernel
theorem dX3_isMarked_30 : decode cX3_isMarked 30 = .ok (.land, 1) := by decide +kernel
theorem dX3_isMarked_31 : decode cX3_isMarked 31 = .ok (.lconst 0, 1) := by decide +kernel
theorem dX3_isMarked_32 : decode cX3_isMarked 32 = .ok (.lcmp, 1) := by decide +kernel
theorem dX3_isMarked_33 : decode cX3_isMarked 33 = .ok (.ifCond .eq 7, 3) := by decide +kernel
theorem dX3_isMarked_36 : decode cX3_isMarked 36 = .ok (.iconst 1, 1) := by decide +kernel
theorem dX3_isMarked_37 : decode cX3_isMarked 37 = .ok (.goto 4, 3) := by decide +kernel
theorem dX3_isMarked_40 : decode cX3_isMarked 40 = .ok (.iconst 0, 1) := by decide +kernel
theorem dX3_isMarked_41 : decode cX3_isMarked 41 = .ok (.ireturn, 1) := by decide +kernel
theorem dX3_mark_0 : decode cX3_mark 0 = .ok (.iload_n 1, 1) := by decide +kernel
theorem dX3_mark_1 : decode cX3_mark 1 = .ok (.bipush 6, 2) := by decide +kernel
theorem dX3_mark_3 : decode cX3_mark 3 = .ok (.ishr, 1) := by decide +kernel
theorem dX3_mark_4 : decode cX3_mark 4 = .ok (.istore_n 2, 1) := by decide +kernel
theorem dX3_mark_5 : decode cX3_mark 5 = .ok (.iload_n 2, 1) := by decide +kernel
theorem dX3_mark_6 : decode cX3_mark 6 = .ok (.ifCond .lt 27, 3) := by decide +kernel
theorem dX3_mark_9 : decode cX3_mark 9 = .ok (.iload_n 2, 1) := by decide +kernel
theorem dX3_mark_10 : decode cX3_mark 10 = .ok (.aload_n 0, 1) := by decide +kernel
theorem dX3_mark_11 : decode cX3_mark 11 = .ok (.getfield 21, 3) := by decide +kernel
theorem dX3_mark_14 : decode cX3_mark 14 = .ok (.arraylength, 1) := by decide +kernel
theorem dX3_mark_15 : decode cX3_mark 15 = .ok (.if_icmp .ge 18, 3) := by decide +kernel
theorem dX3_mark_18 : decode cX3_mark 18 = .ok (.aload_n 0, 1) := by decide +kernel
theorem dX3_mark_19 : decode cX3_mark 19 = .ok (.getfield 21, 3) := by decide +kernel
theorem dX3_mark_22 : decode cX3_mark 22 = .ok (.iload_n 2, 1) := by decide +kernel
theorem dX3_mark_23 : decode cX3_mark 23 = .ok (.dup2, 1) := by decide +kernel
theorem dX3_mark_24 : decode cX3_mark 24 = .ok (.laload, 1) := by decide +kernel
theorem dX3_mark_25 : decode cX3_mark 25 = .ok (.lconst 1, 1) := by decide +kernel
theorem dX3_mark_26 : decode cX3_mark 26 = .ok (.iload_n 1, 1) := by decide +kernel
theorem dX3_mark_27 : decode cX3_mark 27 = .ok (.bipush 63, 2) := by decide +kernel
theorem dX3_mark_29 : decode cX3_mark 29 = .ok (.iand, 1) := by decide +kernel
theorem dX3_mark_30 : decode cX3_mark 30 = .ok (.lshl, 1) := by decide +kernel
theorem dX3_mark_31 : decode cX3_mark 31 = .ok (.lor, 1) := by decide +kernel
theorem dX3_mark_32 : decode cX3_mark 32 = .ok (.lastore, 1) := by decide +kernel
theorem dX3_mark_33 : decode cX3_mark 33 = .ok (.return_, 1) := by decide +kernel
theorem dX3_situationAt_0 : decode cX3_situationAt 0 = .ok (.iload_n 1, 1) := by decide +kernel
theorem dX3_situationAt_1 : decode cX3_situationAt 1 = .ok (.ifCond .lt 32, 3) := by decide +kernel
theorem dX3_situationAt_4 : decode cX3_situationAt 4 = .ok (.iload_n 1, 1) := by decide +kernel
theorem dX3_situationAt_5 : decode cX3_situationAt 5 = .ok (.aload_n 0, 1) := by decide +kernel
theorem dX3_situationAt_6 : decode cX3_situationAt 6 = .ok (.getfield 11, 3) := by decide +kernel
theorem dX3_situationAt_9 : decode cX3_situationAt 9 = .ok (.if_icmp .ge 24, 3) := by decide +kernel
theorem dX3_situationAt_12 : decode cX3_situationAt 12 = .ok (.iload_n 1, 1) := by decide +kernel
theorem dX3_situationAt_13 : decode cX3_situationAt 13 = .ok (.aload_n 0, 1) := by decide +kernel
theorem dX3_situationAt_14 : decode cX3_situationAt 14 = .ok (.getfield 17, 3) := by decide +kernel
theorem dX3_situationAt_17 : decode cX3_situationAt 17 = .ok (.arraylength, 1) := by decide +kernel
theorem dX3_situationAt_18 : decode cX3_situationAt 18 = .ok (.if_icmp .ge 15, 3) := by decide +kernel
theorem dX3_situationAt_21 : decode cX3_situationAt 21 = .ok (.aload_n 0, 1) := by decide +kernel
theorem dX3_situationAt_22 : decode cX3_situationAt 22 = .ok (.getfield 17, 3) := by decide +kernel
theorem dX3_situationAt_25 : decode cX3_situationAt 25 = .ok (.iload_n 1, 1) := by decide +kernel
theorem dX3_situationAt_26 : decode cX3_situationAt 26 = .ok (.iaload, 1) := by decide +kernel
theorem dX3_situationAt_27 : decode cX3_situationAt 27 = .ok (.bipush 13, 2) := by decide +kernel
theorem dX3_situationAt_29 : decode cX3_situationAt 29 = .ok (.ishr, 1) := by decide +kernel
theorem dX3_situationAt_30 : decode cX3_situationAt 30 = .ok (.goto 4, 3) := by decide +kernel
theorem dX3_situationAt_33 : decode cX3_situationAt 33 = .ok (.iconst 0, 1) := by decide +kernel
theorem dX3_situationAt_34 : decode cX3_situationAt 34 = .ok (.ireturn, 1) := by decide +kernel
theorem dX3_placeAhead_0 : decode cX3_placeAhead 0 = .ok (.iload_n 1, 1) := by decide +kernel
theorem dX3_placeAhead_1 : decode cX3_placeAhead 1 = .ok (.ifCond .lt 33, 3) := by decide +kernel
theorem dX3_placeAhead_4 : decode cX3_placeAhead 4 = .ok (.iload_n 1, 1) := by decide +kernel
theorem dX3_placeAhead_5 : decode cX3_placeAhead 5 = .ok (.aload_n 0, 1) := by decide +kernel
theorem dX3_placeAhead_6 : decode cX3_placeAhead 6 = .ok (.getfield 11, 3) := by decide +kernel
theorem dX3_placeAhead_9 : decode cX3_placeAhead 9 = .ok (.if_icmp .ge 25, 3) := by decide +kernel
theorem dX3_placeAhead_12 : decode cX3_placeAhead 12 = .ok (.iload_n 1, 1) := by decide +kernel
theorem dX3_placeAhead_13 : decode cX3_placeAhead 13 = .ok (.aload_n 0, 1) := by decide +kernel
theorem dX3_placeAhead_14 : decode cX3_placeAhead 14 = .ok (.getfield 17, 3) := by decide +kernel
theorem dX3_placeAhead_17 : decode cX3_placeAhead 17 = .ok (.arraylength, 1) := by decide +kernel
theorem dX3_placeAhead_18 : decode cX3_placeAhead 18 = .ok (.if_icmp .ge 16, 3) := by decide +kernel
theorem dX3_placeAhead_21 : decode cX3_placeAhead 21 = .ok (.aload_n 0, 1) := by decide +kernel
theorem dX3_placeAhead_22 : decode cX3_placeAhead 22 = .ok (.getfield 17, 3) := by decide +kernel
theorem dX3_placeAhead_25 : decode cX3_placeAhead 25 = .ok (.iload_n 1, 1) := by decide +kernel
theorem dX3_placeAhead_26 : decode cX3_placeAhead 26 = .ok (.iaload, 1) := by decide +kernel
theorem dX3_placeAhead_27 : decode cX3_placeAhead 27 = .ok (.sipush 8191, 3) := by decide +kernel
theorem dX3_placeAhead_30 : decode cX3_placeAhead 30 = .ok (.iand, 1) := by decide +kernel
theorem dX3_placeAhead_31 : decode cX3_placeAhead 31 = .ok (.goto 4, 3) := by decide +kernel
theorem dX3_placeAhead_34 : decode cX3_placeAhead 34 = .ok (.iconst 0, 1) := by decide +kernel
theorem dX3_placeAhead_35 : decode cX3_placeAhead 35 = .ok (.ireturn, 1) := by decide +kernel
theorem dX3_rooms_0 : decode cX3_rooms 0 = .ok (.iconst 0, 1) := by decide +kernel
theorem dX3_rooms_1 : decode cX3_rooms 1 = .ok (.istore_n 1, 1) := by decide +kernel
theorem dX3_rooms_2 : decode cX3_rooms 2 = .ok (.iconst 0, 1) := by decide +kernel
theorem dX3_rooms_3 : decode cX3_rooms 3 = .ok (.istore_n 2, 1) := by decide +kernel
theorem dX3_rooms_4 : decode cX3_rooms 4 = .ok (.iload_n 2, 1) := by decide +kernel
theorem dX3_rooms_5 : decode cX3_rooms 5 = .ok (.aload_n 0, 1) := by decide +kernel
theorem dX3_rooms_6 : decode cX3_rooms 6 = .ok (.getfield 11, 3) := by decide +kernel
theorem dX3_rooms_9 : decode cX3_rooms 9 = .ok (.if_icmp .ge 22, 3) := by decide +kernel
theorem dX3_rooms_12 : decode cX3_rooms 12 = .ok (.iload_n 1, 1) := by decide +kernel
theorem dX3_rooms_13 : decode cX3_rooms 13 = .ok (.iconst 1, 1) := by decide +kernel
theorem dX3_rooms_14 : decode cX3_rooms 14 = .ok (.aload_n 0, 1) := by decide +kernel
theorem dX3_rooms_15 : decode cX3_rooms 15 = .ok (.iload_n 2, 1) := by decide +kernel
theorem dX3_rooms_16 : decode cX3_rooms 16 = .ok (.invokevirtual 35, 3) := by decide +kernel
theorem dX3_rooms_19 : decode cX3_rooms 19 = .ok (.invokestatic 56, 3) := by decide +kernel
theorem dX3_rooms_22 : decode cX3_rooms 22 = .ok (.ishl, 1) := by decide +kernel
theorem dX3_rooms_23 : decode cX3_rooms 23 = .ok (.ior, 1) := by decide +kernel
theorem dX3_rooms_24 : decode cX3_rooms 24 = .ok (.istore_n 1, 1) := by decide +kernel
theorem dX3_rooms_25 : decode cX3_rooms 25 = .ok (.iinc 2 1, 3) := by decide +kernel
theorem dX3_rooms_28 : decode cX3_rooms 28 = .ok (.goto (-24), 3) := by decide +kernel
theorem dX3_rooms_31 : decode cX3_rooms 31 = .ok (.iload_n 1, 1) := by decide +kernel
theorem dX3_rooms_32 : decode cX3_rooms 32 = .ok (.ireturn, 1) := by decide +kernel
theorem dX3_farthest_0 : decode cX3_farthest 0 = .ok (.aload_n 0, 1) := by decide +kernel
theorem dX3_farthest_1 : decode cX3_farthest 1 = .ok (.aload_n 0, 1) := by decide +kernel
theorem dX3_farthest_2 : decode cX3_farthest 2 = .ok (.getfield 11, 3) := by decide +kernel
theorem dX3_farthest_5 : decode cX3_farthest 5 = .ok (.iconst 1, 1) := by decide +kernel
theorem dX3_farthest_6 : decode cX3_farthest 6 = .ok (.isub, 1) := by decide +kernel
theorem dX3_farthest_7 : decode cX3_farthest 7 = .ok (.invokevirtual 59, 3) := by decide +kernel
theorem dX3_farthest_10 : decode cX3_farthest 10 = .ok (.ireturn, 1) := by decide +kernel
theorem dX3_lastOnes_0 : decode cX3_lastOnes 0 = .ok (.iconst 0, 1) := by decide +kernel
theorem dX3_lastOnes_1 : decode cX3_lastOnes 1 = .ok (.istore_n 2, 1) := by decide +kernel
theorem dX3_lastOnes_2 : decode cX3_lastOnes 2 = .ok (.iconst 0, 1) := by decide +kernel
theorem dX3_lastOnes_3 : decode cX3_lastOnes 3 = .ok (.istore_n 3, 1) := by decide +kernel
theorem dX3_lastOnes_4 : decode cX3_lastOnes 4 = .ok (.iload_n 3, 1) := by decide +kernel
theorem dX3_lastOnes_5 : decode cX3_lastOnes 5 = .ok (.aload_n 0, 1) := by decide +kernel
theorem dX3_lastOnes_6 : decode cX3_lastOnes 6 = .ok (.getfield 11, 3) := by decide +kernel
theorem dX3_lastOnes_9 : decode cX3_lastOnes 9 = .ok (.if_icmp .ge 24, 3) := by decide +kernel
theorem dX3_lastOnes_12 : decode cX3_lastOnes 12 = .ok (.aload_n 1, 1) := by decide +kernel
theorem dX3_lastOnes_13 : decode cX3_lastOnes 13 = .ok (.aload_n 0, 1) := by decide +kernel
theorem dX3_lastOnes_14 : decode cX3_lastOnes 14 = .ok (.iload_n 3, 1) := by decide +kernel
theorem dX3_lastOnes_15 : decode cX3_lastOnes 15 = .ok (.invokevirtual 35, 3) := by decide +kernel
theorem dX3_lastOnes_18 : decode cX3_lastOnes 18 = .ok (.invokevirtual 62, 3) := by decide +kernel
theorem dX3_lastOnes_21 : decode cX3_lastOnes 21 = .ok (.ifCond .ne 6, 3) := by decide +kernel
theorem dX3_lastOnes_24 : decode cX3_lastOnes 24 = .ok (.iinc 2 1, 3) := by decide +kernel
theorem dX3_lastOnes_27 : decode cX3_lastOnes 27 = .ok (.iinc 3 1, 3) := by decide +kernel
theorem dX3_lastOnes_30 : decode cX3_lastOnes 30 = .ok (.goto (-26), 3) := by decide +kernel
theorem dX3_lastOnes_33 : decode cX3_lastOnes 33 = .ok (.iload_n 2, 1) := by decide +kernel
theorem dX3_lastOnes_34 : decode cX3_lastOnes 34 = .ok (.ireturn, 1) := by decide +kernel
theorem dX3_placeOfRoom_0 : decode cX3_placeOfRoom 0 = .ok (.iconst 0, 1) := by decide +kernel
theorem dX3_placeOfRoom_1 : decode cX3_placeOfRoom 1 = .ok (.istore_n 2, 1) := by decide +kernel
theorem dX3_placeOfRoom_2 : decode cX3_placeOfRoom 2 = .ok (.iload_n 2, 1) := by decide +kernel
theorem dX3_placeOfRoom_3 : decode cX3_placeOfRoom 3 = .ok (.aload_n 0, 1) := by decide +kernel
theorem dX3_placeOfRoom_4 : decode cX3_placeOfRoom 4 = .ok (.getfield 11, 3) := by decide +kernel
theorem dX3_placeOfRoom_7 : decode cX3_placeOfRoom 7 = .ok (.if_icmp .ge 23, 3) := by decide +kernel
theorem dX3_placeOfRoom_10 : decode cX3_placeOfRoom 10 = .ok (.aload_n 0, 1) := by decide +kernel
theorem dX3_placeOfRoom_11 : decode cX3_placeOfRoom 11 = .ok (.iload_n 2, 1) := by decide +kernel
theorem dX3_placeOfRoom_12 : decode cX3_placeOfRoom 12 = .ok (.invokevirtual 35, 3) := by decide +kernel
theorem dX3_placeOfRoom_15 : decode cX3_placeOfRoom 15 = .ok (.invokestatic 56, 3) := by decide +kernel
theorem dX3_placeOfRoom_18 : decode cX3_placeOfRoom 18 = .ok (.iload_n 1, 1) := by decide +kernel
theorem dX3_placeOfRoom_19 : decode cX3_placeOfRoom 19 = .ok (.if_icmp .ne 5, 3) := by decide +kernel
theorem dX3_placeOfRoom_22 : decode cX3_placeOfRoom 22 = .ok (.iload_n 2, 1) := by decide +kernel
theorem dX3_placeOfRoom_23 : decode cX3_placeOfRoom 23 = .ok (.ireturn, 1) := by decide +kernel
theorem dX3_placeOfRoom_24 : decode cX3_placeOfRoom 24 = .ok (.iinc 2 1, 3) := by decide +kernel
theorem dX3_placeOfRoom_27 : decode cX3_placeOfRoom 27 = .ok (.goto (-25), 3) := by decide +kernel
theorem dX3_placeOfRoom_30 : decode cX3_placeOfRoom 30 = .ok (.iconst (-1), 1) := by decide +kernel
theorem dX3_placeOfRoom_31 : decode cX3_placeOfRoom 31 = .ok (.ireturn, 1) := by decide +kernel
theorem dX3_placeOfWell_0 : decode cX3_placeOfWell 0 = .ok (.iconst 0, 1) := by decide +kernel
theorem dX3_placeOfWell_1 : decode cX3_placeOfWell 1 = .ok (.istore_n 2, 1) := by decide +kernel
theorem dX3_placeOfWell_2 : decode cX3_placeOfWell 2 = .ok (.iload_n 2, 1) := by decide +kernel
theorem dX3_placeOfWell_3 : decode cX3_placeOfWell 3 = .ok (.aload_n 0, 1) := by decide +kernel
theorem dX3_placeOfWell_4 : decode cX3_placeOfWell 4 = .ok (.getfield 11, 3) := by decide +kernel
theorem dX3_placeOfWell_7 : decode cX3_placeOfWell 7 = .ok (.if_icmp .ge 23, 3) := by decide +kernel
theorem dX3_placeOfWell_10 : decode cX3_placeOfWell 10 = .ok (.aload_n 1, 1) := by decide +kernel
theorem dX3_placeOfWell_11 : decode cX3_placeOfWell 11 = .ok (.aload_n 0, 1) := by decide +kernel
theorem dX3_placeOfWell_12 : decode cX3_placeOfWell 12 = .ok (.iload_n 2, 1) := by decide +kernel
theorem dX3_placeOfWell_13 : decode cX3_placeOfWell 13 = .ok (.invokevirtual 35, 3) := by decide +kernel
theorem dX3_placeOfWell_16 : decode cX3_placeOfWell 16 = .ok (.invokevirtual 65, 3) := by decide +kernel
theorem dX3_placeOfWell_19 : decode cX3_placeOfWell 19 = .ok (.ifCond .eq 5, 3) := by decide +kernel
theorem dX3_placeOfWell_22 : decode cX3_placeOfWell 22 = .ok (.iload_n 2, 1) := by decide +kernel
theorem dX3_placeOfWell_23 : decode cX3_placeOfWell 23 = .ok (.ireturn, 1) := by decide +kernel
theorem dX3_placeOfWell_24 : decode cX3_placeOfWell 24 = .ok (.iinc 2 1, 3) := by decide +kernel
theorem dX3_placeOfWell_27 : decode cX3_placeOfWell 27 = .ok (.goto (-25), 3) := by decide +kernel
theorem dX3_placeOfWell_30 : decode cX3_placeOfWell 30 = .ok (.iconst (-1), 1) := by decide +kernel
theorem dX3_placeOfWell_31 : decode cX3_placeOfWell 31 = .ok (.ireturn, 1) := by decide +kernel
theorem dX3_doorsTo_0 : decode cX3_doorsTo 0 = .ok (.iload_n 1, 1) := by decide +kernel
theorem dX3_doorsTo_1 : decode cX3_doorsTo 1 = .ok (.ifCond .ge 5, 3) := by decide +kernel
theorem dX3_doorsTo_4 : decode cX3_doorsTo 4 = .ok (.iconst (-1), 1) := by decide +kernel
theorem dX3_doorsTo_5 : decode cX3_doorsTo 5 = .ok (.ireturn, 1) := by decide +kernel
theorem dX3_doorsTo_6 : decode cX3_doorsTo 6 = .ok (.iload_n 1, 1) := by decide +kernel
theorem dX3_doorsTo_7 : decode cX3_doorsTo 7 = .ok (.istore_n 2, 1) := by decide +kernel
theorem dX3_doorsTo_8 : decode cX3_doorsTo 8 = .ok (.iconst 0, 1) := by decide +kernel
theorem dX3_doorsTo_9 : decode cX3_doorsTo 9 = .ok (.istore_n 3, 1) := by decide +kernel
theorem dX3_doorsTo_10 : decode cX3_doorsTo 10 = .ok (.iload_n 2, 1) := by decide +kernel
theorem dX3_doorsTo_11 : decode cX3_doorsTo 11 = .ok (.ifCond .le 23, 3) := by decide +kernel
theorem dX3_doorsTo_14 : decode cX3_doorsTo 14 = .ok (.iload_n 3, 1) := by decide +kernel
theorem dX3_doorsTo_15 : decode cX3_doorsTo 15 = .ok (.aload_n 0, 1) := by decide +kernel
theorem dX3_doorsTo_16 : decode cX3_doorsTo 16 = .ok (.getfield 11, 3) := by decide +kernel
theorem dX3_doorsTo_19 : decode cX3_doorsTo 19 = .ok (.if_icmp .ge 15, 3) := by decide +kernel
theorem dX3_doorsTo_22 : decode cX3_doorsTo 22 = .ok (.aload_n 0, 1) := by decide +kernel
theorem dX3_doorsTo_23 : decode cX3_doorsTo 23 = .ok (.iload_n 2, 1) := by decide +kernel
theorem dX3_doorsTo_24 : decode cX3_doorsTo 24 = .ok (.invokevirtual 68, 3) := by decide +kernel
theorem dX3_doorsTo_27 : decode cX3_doorsTo 27 = .ok (.istore_n 2, 1) := by decide +kernel
theorem dX3_doorsTo_28 : decode cX3_doorsTo 28 = .ok (.iinc 3 1, 3) := by decide +kernel
theorem dX3_doorsTo_31 : decode cX3_doorsTo 31 = .ok (.goto (-21), 3) := by decide +kernel
theorem dX3_doorsTo_34 : decode cX3_doorsTo 34 = .ok (.iload_n 3, 1) := by decide +kernel
theorem dX3_doorsTo_35 : decode cX3_doorsTo 35 = .ok (.ireturn, 1) := by decide +kernel
theorem dX3_doorOnTheWay_0 : decode cX3_doorOnTheWay 0 = .ok (.aload_n 0, 1) := by decide +kernel
theorem dX3_doorOnTheWay_1 : decode cX3_doorOnTheWay 1 = .ok (.iload_n 2, 1) := by decide +kernel
theorem dX3_doorOnTheWay_2 : decode cX3_doorOnTheWay 2 = .ok (.invokevirtual 59, 3) := by decide +kernel
theorem dX3_doorOnTheWay_5 : decode cX3_doorOnTheWay 5 = .ok (.istore 4, 2) := by decide +kernel
theorem dX3_doorOnTheWay_7 : decode cX3_doorOnTheWay 7 = .ok (.iload_n 3, 1) := by decide +kernel
theorem dX3_doorOnTheWay_8 : decode cX3_doorOnTheWay 8 = .ok (.ifCond .lt 9, 3) := by decide +kernel
theorem dX3_doorOnTheWay_11 : decode cX3_doorOnTheWay 11 = .ok (.iload_n 3, 1) := by decide +kernel
theorem dX3_doorOnTheWay_12 : decode cX3_doorOnTheWay 12 = .ok (.iload 4, 2) := by decide +kernel
theorem dX3_doorOnTheWay_14 : decode cX3_doorOnTheWay 14 = .ok (.if_icmp .lt 5, 3) := by decide +kernel
theorem dX3_doorOnTheWay_17 : decode cX3_doorOnTheWay 17 = .ok (.iconst (-1), 1) := by decide +kernel
theorem dX3_doorOnTheWay_18 : decode cX3_doorOnTheWay 18 = .ok (.ireturn, 1) := by decide +kernel
theorem dX3_doorOnTheWay_19 : decode cX3_doorOnTheWay 19 = .ok (.iload_n 2, 1) := by decide +kernel
theorem dX3_doorOnTheWay_20 : decode cX3_doorOnTheWay 20 = .ok (.istore 5, 2) := by decide +kernel
theorem dX3_doorOnTheWay_22 : decode cX3_doorOnTheWay 22 = .ok (.iload 4, 2) := by decide +kernel
theorem dX3_doorOnTheWay_24 : decode cX3_doorOnTheWay 24 = .ok (.iconst 1, 1) := by decide +kernel
theorem dX3_doorOnTheWay_25 : decode cX3_doorOnTheWay 25 = .ok (.isub, 1) := by decide +kernel
theorem dX3_doorOnTheWay_26 : decode cX3_doorOnTheWay 26 = .ok (.istore 6, 2) := by decide +kernel
theorem dX3_doorOnTheWay_28 : decode cX3_doorOnTheWay 28 = .ok (.iload 6, 2) := by decide +kernel
theorem dX3_doorOnTheWay_30 : decode cX3_doorOnTheWay 30 = .ok (.iload_n 3, 1) := by decide +kernel
theorem dX3_doorOnTheWay_31 : decode cX3_doorOnTheWay 31 = .ok (.if_icmp .le 17, 3) := by decide +kernel
theorem dX3_doorOnTheWay_34 : decode cX3_doorOnTheWay 34 = .ok (.aload_n 0, 1) := by decide +kernel
theorem dX3_doorOnTheWay_35 : decode cX3_doorOnTheWay 35 = .ok (.iload 5, 2) := by decide +kernel
theorem dX3_doorOnTheWay_37 : decode cX3_doorOnTheWay 37 = .ok (.invokevirtual 68, 3) := by decide +kernel
theorem dX3_doorOnTheWay_40 : decode cX3_doorOnTheWay 40 = .ok (.istore 5, 2) := by decide +kernel
theorem dX3_doorOnTheWay_42 : decode cX3_doorOnTheWay 42 = .ok (.iinc 6 (-1), 3) := by decide +kernel
theorem dX3_doorOnTheWay_45 : decode cX3_doorOnTheWay 45 = .ok (.goto (-17), 3) := by decide +kernel
theorem dX3_doorOnTheWay_48 : decode cX3_doorOnTheWay 48 = .ok (.aload_n 0, 1) := by decide +kernel
theorem dX3_doorOnTheWay_49 : decode cX3_doorOnTheWay 49 = .ok (.aload_n 0, 1) := by decide +kernel
theorem dX3_doorOnTheWay_50 : decode cX3_doorOnTheWay 50 = .ok (.iload 5, 2) := by decide +kernel
theorem dX3_doorOnTheWay_52 : decode cX3_doorOnTheWay 52 = .ok (.invokevirtual 68, 3) := by decide +kernel
theorem dX3_doorOnTheWay_55 : decode cX3_doorOnTheWay 55 = .ok (.invokevirtual 35, 3) := by decide +kernel
theorem dX3_doorOnTheWay_58 : decode cX3_doorOnTheWay 58 = .ok (.istore 6, 2) := by decide +kernel
theorem dX3_doorOnTheWay_60 : decode cX3_doorOnTheWay 60 = .ok (.iconst 0, 1) := by decide +kernel
theorem dX3_doorOnTheWay_61 : decode cX3_doorOnTheWay 61 = .ok (.istore 7, 2) := by decide +kernel
theorem dX3_doorOnTheWay_63 : decode cX3_doorOnTheWay 63 = .ok (.iload 7, 2) := by decide +kernel
theorem dX3_doorOnTheWay_65 : decode cX3_doorOnTheWay 65 = .ok (.aload_n 1, 1) := by decide +kernel
theorem dX3_doorOnTheWay_66 : decode cX3_doorOnTheWay 66 = .ok (.getfield 39, 3) := by decide +kernel
theorem dX3_doorOnTheWay_69 : decode cX3_doorOnTheWay 69 = .ok (.if_icmp .ge 29, 3) := by decide +kernel
theorem dX3_doorOnTheWay_72 : decode cX3_doorOnTheWay 72 = .ok (.aload_n 1, 1) := by decide +kernel
theorem dX3_doorOnTheWay_73 : decode cX3_doorOnTheWay 73 = .ok (.iload 6, 2) := by decide +kernel
theorem dX3_doorOnTheWay_75 : decode cX3_doorOnTheWay 75 = .ok (.iload 7, 2) := by decide +kernel
theorem dX3_doorOnTheWay_77 : decode cX3_doorOnTheWay 77 = .ok (.invokevirtual 44, 3) := by decide +kernel
theorem dX3_doorOnTheWay_80 : decode cX3_doorOnTheWay 80 = .ok (.aload_n 0, 1) := by decide +kernel
theorem dX3_doorOnTheWay_81 : decode cX3_doorOnTheWay 81 = .ok (.iload 5, 2) := by decide +kernel
theorem dX3_doorOnTheWay_83 : decode cX3_doorOnTheWay 83 = .ok (.invokevirtual 35, 3) := by decide +kernel
theorem dX3_doorOnTheWay_86 : decode cX3_doorOnTheWay 86 = .ok (.if_icmp .ne 6, 3) := by decide +kernel
theorem dX3_doorOnTheWay_89 : decode cX3_doorOnTheWay 89 = .ok (.iload 7, 2) := by decide +kernel
theorem dX3_doorOnTheWay_91 : decode cX3_doorOnTheWay 91 = .ok (.ireturn, 1) := by decide +kernel
theorem dX3_doorOnTheWay_92 : decode cX3_doorOnTheWay 92 = .ok (.iinc 7 1, 3) := by decide +kernel
theorem dX3_doorOnTheWay_95 : decode cX3_doorOnTheWay 95 = .ok (.goto (-32), 3) := by decide +kernel
theorem dX3_doorOnTheWay_98 : decode cX3_doorOnTheWay 98 = .ok (.iconst (-1), 1) := by decide +kernel
theorem dX3_doorOnTheWay_99 : decode cX3_doorOnTheWay 99 = .ok (.ireturn, 1) := by decide +kernel
theorem dX3_doorsAround_0 : decode cX3_doorsAround 0 = .ok (.iconst 0, 1) := by decide +kernel
theorem dX3_doorsAround_1 : decode cX3_doorsAround 1 = .ok (.istore_n 3, 1) := by decide +kernel
theorem dX3_doorsAround_2 : decode cX3_doorsAround 2 = .ok (.iload_n 3, 1) := by decide +kernel
theorem dX3_doorsAround_3 : decode cX3_doorsAround 3 = .ok (.aload_n 0, 1) := by decide +kernel
theorem dX3_doorsAround_4 : decode cX3_doorsAround 4 = .ok (.getfield 11, 3) := by decide +kernel
theorem dX3_doorsAround_7 : decode cX3_doorsAround 7 = .ok (.if_icmp .ge 50, 3) := by decide +kernel
theorem dX3_doorsAround_10 : decode cX3_doorsAround 10 = .ok (.iconst 0, 1) := by decide +kernel
theorem dX3_doorsAround_11 : decode cX3_doorsAround 11 = .ok (.istore 4, 2) := by decide +kernel
theorem dX3_doorsAround_13 : decode cX3_doorsAround 13 = .ok (.iload 4, 2) := by decide +kernel
theorem dX3_doorsAround_15 : decode cX3_doorsAround 15 = .ok (.aload_n 1, 1) := by decide +kernel
theorem dX3_doorsAround_16 : decode cX3_doorsAround 16 = .ok (.getfield 39, 3) := by decide +kernel
theorem dX3_doorsAround_19 : decode cX3_doorsAround 19 = .ok (.if_icmp .ge 32, 3) := by decide +kernel
theorem dX3_doorsAround_22 : decode cX3_doorsAround 22 = .ok (.aload_n 1, 1) := by decide +kernel
theorem dX3_doorsAround_23 : decode cX3_doorsAround 23 = .ok (.aload_n 0, 1) := by decide +kernel
theorem dX3_doorsAround_24 : decode cX3_doorsAround 24 = .ok (.iload_n 3, 1) := by decide +kernel
theorem dX3_doorsAround_25 : decode cX3_doorsAround 25 = .ok (.invokevirtual 35, 3) := by decide +kernel
theorem dX3_doorsAround_28 : decode cX3_doorsAround 28 = .ok (.iload 4, 2) := by decide +kernel
theorem dX3_doorsAround_30 : decode cX3_doorsAround 30 = .ok (.invokevirtual 44, 3) := by decide +kernel
theorem dX3_doorsAround_33 : decode cX3_doorsAround 33 = .ok (.iload_n 2, 1) := by decide +kernel
theorem dX3_doorsAround_34 : decode cX3_doorsAround 34 = .ok (.if_icmp .ne 11, 3) := by decide +kernel
theorem dX3_doorsAround_37 : decode cX3_doorsAround 37 = .ok (.aload_n 0, 1) := by decide +kernel
theorem dX3_doorsAround_38 : decode cX3_doorsAround 38 = .ok (.iload_n 3, 1) := by decide +kernel
theorem dX3_doorsAround_39 : decode cX3_doorsAround 39 = .ok (.invokevirtual 59, 3) := by decide +kernel
theorem dX3_doorsAround_42 : decode cX3_doorsAround 42 = .ok (.iconst 1, 1) := by decide +kernel
theorem dX3_doorsAround_43 : decode cX3_doorsAround 43 = .ok (.iadd, 1) := by decide +kernel
theorem dX3_doorsAround_44 : decode cX3_doorsAround 44 = .ok (.ireturn, 1) := by decide +kernel
theorem dX3_doorsAround_45 : decode cX3_doorsAround 45 = .ok (.iinc 4 1, 3) := by decide +kernel
theorem dX3_doorsAround_48 : decode cX3_doorsAround 48 = .ok (.goto (-35), 3) := by decide +kernel
theorem dX3_doorsAround_51 : decode cX3_doorsAround 51 = .ok (.iinc 3 1, 3) := by decide +kernel
theorem dX3_doorsAround_54 : decode cX3_doorsAround 54 = .ok (.goto (-52), 3) := by decide +kernel
theorem dX3_doorsAround_57 : decode cX3_doorsAround 57 = .ok (.iconst (-1), 1) := by decide +kernel
theorem dX3_doorsAround_58 : decode cX3_doorsAround 58 = .ok (.ireturn, 1) := by decide +kernel
theorem dX3_roomsCutOffFrom_0 : decode cX3_roomsCutOffFrom 0 = .ok (.aload_n 0, 1) := by decide +kernel
theorem dX3_roomsCutOffFrom_1 : decode cX3_roomsCutOffFrom 1 = .ok (.getfield 21, 3) := by decide +kernel
theorem dX3_roomsCutOffFrom_4 : decode cX3_roomsCutOffFrom 4 = .ok (.lconst 0, 1) := by decide +kernel
theorem dX3_roomsCutOffFrom_5 : decode cX3_roomsCutOffFrom 5 = .ok (.invokestatic 25, 3) := by decide +kernel
theorem dX3_roomsCutOffFrom_8 : decode cX3_roomsCutOffFrom 8 = .ok (.iconst 1, 1) := by decide +kernel
theorem dX3_roomsCutOffFrom_9 : decode cX3_roomsCutOffFrom 9 = .ok (.istore_n 3, 1) := by decide +kernel
theorem dX3_roomsCutOffFrom_10 : decode cX3_roomsCutOffFrom 10 = .ok (.iconst 0, 1) := by decide +kernel
theorem dX3_roomsCutOffFrom_11 : decode cX3_roomsCutOffFrom 11 = .ok (.istore 4, 2) := by decide +kernel
theorem dX3_roomsCutOffFrom_13 : decode cX3_roomsCutOffFrom 13 = .ok (.iload_n 3, 1) := by decide +kernel
theorem dX3_roomsCutOffFrom_14 : decode cX3_roomsCutOffFrom 14 = .ok (.ifCond .eq 78, 3) := by decide +kernel
theorem dX3_roomsCutOffFrom_17 : decode cX3_roomsCutOffFrom 17 = .ok (.iload 4, 2) := by decide +kernel
theorem dX3_roomsCutOffFrom_19 : decode cX3_roomsCutOffFrom 19 = .ok (.aload_n 0, 1) := by decide +kernel
theorem dX3_roomsCutOffFrom_20 : decode cX3_roomsCutOffFrom 20 = .ok (.getfield 11, 3) := by decide +kernel
theorem dX3_roomsCutOffFrom_23 : decode cX3_roomsCutOffFrom 23 = .ok (.if_icmp .gt 69, 3) := by decide +kernel
theorem dX3_roomsCutOffFrom_26 : decode cX3_roomsCutOffFrom 26 = .ok (.iconst 0, 1) := by decide +kernel
theorem dX3_roomsCutOffFrom_27 : decode cX3_roomsCutOffFrom 27 = .ok (.istore_n 3, 1) := by decide +kernel
theorem dX3_roomsCutOffFrom_28 : decode cX3_roomsCutOffFrom 28 = .ok (.aload_n 0, 1) := by decide +kernel
theorem dX3_roomsCutOffFrom_29 : decode cX3_roomsCutOffFrom 29 = .ok (.getfield 11, 3) := by decide +kernel
theorem dX3_roomsCutOffFrom_32 : decode cX3_roomsCutOffFrom 32 = .ok (.iconst 1, 1) := by decide +kernel
theorem dX3_roomsCutOffFrom_33 : decode cX3_roomsCutOffFrom 33 = .ok (.isub, 1) := by decide +kernel
theorem dX3_roomsCutOffFrom_34 : decode cX3_roomsCutOffFrom 34 = .ok (.istore 5, 2) := by decide +kernel
theorem dX3_roomsCutOffFrom_36 : decode cX3_roomsCutOffFrom 36 = .ok (.iload 5, 2) := by decide +kernel
theorem dX3_roomsCutOffFrom_38 : decode cX3_roomsCutOffFrom 38 = .ok (.ifCond .lt 48, 3) := by decide +kernel
theorem dX3_roomsCutOffFrom_41 : decode cX3_roomsCutOffFrom 41 = .ok (.aload_n 0, 1) := by decide +kernel
theorem dX3_roomsCutOffFrom_42 : decode cX3_roomsCutOffFrom 42 = .ok (.iload 5, 2) := by decide +kernel
theorem dX3_roomsCutOffFrom_44 : decode cX3_roomsCutOffFrom 44 = .ok (.invokevirtual 35, 3) := by decide +kernel
theorem dX3_roomsCutOffFrom_47 : decode cX3_roomsCutOffFrom 47 = .ok (.istore 6, 2) := by decide +kernel
theorem dX3_roomsCutOffFrom_49 : decode cX3_roomsCutOffFrom 49 = .ok (.aload_n 0, 1) := by decide +kernel
theorem dX3_roomsCutOffFrom_50 : decode cX3_roomsCutOffFrom 50 = .ok (.iload 6, 2) := by decide +kernel
theorem dX3_roomsCutOffFrom_52 : decode cX3_roomsCutOffFrom 52 = .ok (.invokevirtual 48, 3) := by decide +kernel
theorem dX3_roomsCutOffFrom_55 : decode cX3_roomsCutOffFrom 55 = .ok (.ifCond .ne 25, 3) := by decide +kernel
theorem dX3_roomsCutOffFrom_58 : decode cX3_roomsCutOffFrom 58 = .ok (.aload_n 0, 1) := by decide +kernel
theorem dX3_roomsCutOffFrom_59 : decode cX3_roomsCutOffFrom 59 = .ok (.aload_n 1, 1) := by decide +kernel
theorem dX3_roomsCutOffFrom_60 : decode cX3_roomsCutOffFrom 60 = .ok (.iload 6, 2) := by decide +kernel
theorem dX3_roomsCutOffFrom_62 : decode cX3_roomsCutOffFrom 62 = .ok (.iload_n 2, 1) := by decide +kernel
theorem dX3_roomsCutOffFrom_63 : decode cX3_roomsCutOffFrom 63 = .ok (.invokevirtual 71, 3) := by decide +kernel
theorem dX3_roomsCutOffFrom_66 : decode cX3_roomsCutOffFrom 66 = .ok (.ifCond .ne 6, 3) := by decide +kernel
theorem dX3_roomsCutOffFrom_69 : decode cX3_roomsCutOffFrom 69 = .ok (.goto 11, 3) := by decide +kernel
theorem dX3_roomsCutOffFrom_72 : decode cX3_roomsCutOffFrom 72 = .ok (.aload_n 0, 1) := by decide +kernel
theorem dX3_roomsCutOffFrom_73 : decode cX3_roomsCutOffFrom 73 = .ok (.iload 6, 2) := by decide +kernel
theorem dX3_roomsCutOffFrom_75 : decode cX3_roomsCutOffFrom 75 = .ok (.invokevirtual 52, 3) := by decide +kernel
theorem dX3_roomsCutOffFrom_78 : decode cX3_roomsCutOffFrom 78 = .ok (.iconst 1, 1) := by decide +kernel
theorem dX3_roomsCutOffFrom_79 : decode cX3_roomsCutOffFrom 79 = .ok (.istore_n 3, 1) := by decide +kernel
theorem dX3_roomsCutOffFrom_80 : decode cX3_roomsCutOffFrom 80 = .ok (.iinc 5 (-1), 3) := by decide +kernel
theorem dX3_roomsCutOffFrom_83 : decode cX3_roomsCutOffFrom 83 = .ok (.goto (-47), 3) := by decide +kernel
theorem dX3_roomsCutOffFrom_86 : decode cX3_roomsCutOffFrom 86 = .ok (.iinc 4 1, 3) := by decide +kernel
theorem dX3_roomsCutOffFrom_89 : decode cX3_roomsCutOffFrom 89 = .ok (.goto (-76), 3) := by decide +kernel
theorem dX3_roomsCutOffFrom_92 : decode cX3_roomsCutOffFrom 92 = .ok (.iconst 0, 1) := by decide +kernel
theorem dX3_roomsCutOffFrom_93 : decode cX3_roomsCutOffFrom 93 = .ok (.istore 4, 2) := by decide +kernel
theorem dX3_roomsCutOffFrom_95 : decode cX3_roomsCutOffFrom 95 = .ok (.iconst 0, 1) := by decide +kernel
theorem dX3_roomsCutOffFrom_96 : decode cX3_roomsCutOffFrom 96 = .ok (.istore 5, 2) := by decide +kernel
theorem dX3_roomsCutOffFrom_98 : decode cX3_roomsCutOffFrom 98 = .ok (.iload 5, 2) := by decide +kernel
theorem dX3_roomsCutOffFrom_100 : decode cX3_roomsCutOffFrom 100 = .ok (.aload_n 0, 1) := by decide +kernel
theorem dX3_roomsCutOffFrom_101 : decode cX3_roomsCutOffFrom 101 = .ok (.getfield 11, 3) := by decide +kernel
theorem dX3_roomsCutOffFrom_104 : decode cX3_roomsCutOffFrom 104 = .ok (.if_icmp .ge 38, 3) := by decide +kernel
theorem dX3_roomsCutOffFrom_107 : decode cX3_roomsCutOffFrom 107 = .ok (.aload_n 0, 1) := by decide +kernel
theorem dX3_roomsCutOffFrom_108 : decode cX3_roomsCutOffFrom 108 = .ok (.aload_n 0, 1) := by decide +kernel
theorem dX3_roomsCutOffFrom_109 : decode cX3_roomsCutOffFrom 109 = .ok (.iload 5, 2) := by decide +kernel
theorem dX3_roomsCutOffFrom_111 : decode cX3_roomsCutOffFrom 111 = .ok (.invokevirtual 35, 3) := by decide +kernel
theorem dX3_roomsCutOffFrom_114 : decode cX3_roomsCutOffFrom 114 = .ok (.invokevirtual 48, 3) := by decide +kernel
theorem dX3_roomsCutOffFrom_117 : decode cX3_roomsCutOffFrom 117 = .ok (.ifCond .ne 19, 3) := by decide +kernel
theorem dX3_roomsCutOffFrom_120 : decode cX3_roomsCutOffFrom 120 = .ok (.iload 4, 2) := by decide +kernel
theorem dX3_roomsCutOffFrom_122 : decode cX3_roomsCutOffFrom 122 = .ok (.iconst 1, 1) := by decide +kernel
theorem dX3_roomsCutOffFrom_123 : decode cX3_roomsCutOffFrom 123 = .ok (.aload_n 0, 1) := by decide +kernel
theorem dX3_roomsCutOffFrom_124 : decode cX3_roomsCutOffFrom 124 = .ok (.iload 5, 2) := by decide +kernel
theorem dX3_roomsCutOffFrom_126 : decode cX3_roomsCutOffFrom 126 = .ok (.invokevirtual 35, 3) := by decide +kernel
theorem dX3_roomsCutOffFrom_129 : decode cX3_roomsCutOffFrom 129 = .ok (.invokestatic 56, 3) := by decide +kernel
theorem dX3_roomsCutOffFrom_132 : decode cX3_roomsCutOffFrom 132 = .ok (.ishl, 1) := by decide +kernel
theorem dX3_roomsCutOffFrom_133 : decode cX3_roomsCutOffFrom 133 = .ok (.ior, 1) := by decide +kernel
theorem dX3_roomsCutOffFrom_134 : decode cX3_roomsCutOffFrom 134 = .ok (.istore 4, 2) := by decide +kernel
theorem dX3_roomsCutOffFrom_136 : decode cX3_roomsCutOffFrom 136 = .ok (.iinc 5 1, 3) := by decide +kernel
theorem dX3_roomsCutOffFrom_139 : decode cX3_roomsCutOffFrom 139 = .ok (.goto (-41), 3) := by decide +kernel
theorem dX3_roomsCutOffFrom_142 : decode cX3_roomsCutOffFrom 142 = .ok (.iload 4, 2) := by decide +kernel
theorem dX3_roomsCutOffFrom_144 : decode cX3_roomsCutOffFrom 144 = .ok (.ireturn, 1) := by decide +kernel
theorem dX3_leadsTo_0 : decode cX3_leadsTo 0 = .ok (.iload_n 2, 1) := by decide +kernel
theorem dX3_leadsTo_1 : decode cX3_leadsTo 1 = .ok (.invokestatic 56, 3) := by decide +kernel
theorem dX3_leadsTo_4 : decode cX3_leadsTo 4 = .ok (.iload_n 3, 1) := by decide +kernel
theorem dX3_leadsTo_5 : decode cX3_leadsTo 5 = .ok (.if_icmp .ne 5, 3) := by decide +kernel
theorem dX3_leadsTo_8 : decode cX3_leadsTo 8 = .ok (.iconst 1, 1) := by decide +kernel
theorem dX3_leadsTo_9 : decode cX3_leadsTo 9 = .ok (.ireturn, 1) := by decide +kernel
theorem dX3_leadsTo_10 : decode cX3_leadsTo 10 = .ok (.iconst 0, 1) := by decide +kernel
theorem dX3_leadsTo_11 : decode cX3_leadsTo 11 = .ok (.istore 4, 2) := by decide +kernel
theorem dX3_leadsTo_13 : decode cX3_leadsTo 13 = .ok (.iload 4, 2) := by decide +kernel
theorem dX3_leadsTo_15 : decode cX3_leadsTo 15 = .ok (.aload_n 1, 1) := by decide +kernel
theorem dX3_leadsTo_16 : decode cX3_leadsTo 16 = .ok (.getfield 39, 3) := by decide +kernel
theorem dX3_leadsTo_19 : decode cX3_leadsTo 19 = .ok (.if_icmp .ge 35, 3) := by decide +kernel
theorem dX3_leadsTo_22 : decode cX3_leadsTo 22 = .ok (.aload_n 1, 1) := by decide +kernel
theorem dX3_leadsTo_23 : decode cX3_leadsTo 23 = .ok (.iload_n 2, 1) := by decide +kernel
theorem dX3_leadsTo_24 : decode cX3_leadsTo 24 = .ok (.iload 4, 2) := by decide +kernel
theorem dX3_leadsTo_26 : decode cX3_leadsTo 26 = .ok (.invokevirtual 44, 3) := by decide +kernel
theorem dX3_leadsTo_29 : decode cX3_leadsTo 29 = .ok (.istore 5, 2) := by decide +kernel
theorem dX3_leadsTo_31 : decode cX3_leadsTo 31 = .ok (.iload 5, 2) := by decide +kernel
theorem dX3_leadsTo_33 : decode cX3_leadsTo 33 = .ok (.iconst (-1), 1) := by decide +kernel
theorem dX3_leadsTo_34 : decode cX3_leadsTo 34 = .ok (.if_icmp .eq 14, 3) := by decide +kernel
theorem dX3_leadsTo_37 : decode cX3_leadsTo 37 = .ok (.aload_n 0, 1) := by decide +kernel
theorem dX3_leadsTo_38 : decode cX3_leadsTo 38 = .ok (.iload 5, 2) := by decide +kernel
theorem dX3_leadsTo_40 : decode cX3_leadsTo 40 = .ok (.invokevirtual 48, 3) := by decide +kernel
theorem dX3_leadsTo_43 : decode cX3_leadsTo 43 = .ok (.ifCond .eq 5, 3) := by decide +kernel
theorem dX3_leadsTo_46 : decode cX3_leadsTo 46 = .ok (.iconst 1, 1) := by decide +kernel
theorem dX3_leadsTo_47 : decode cX3_leadsTo 47 = .ok (.ireturn, 1) := by decide +kernel
theorem dX3_leadsTo_48 : decode cX3_leadsTo 48 = .ok (.iinc 4 1, 3) := by decide +kernel
theorem dX3_leadsTo_51 : decode cX3_leadsTo 51 = .ok (.goto (-38), 3) := by decide +kernel
theorem dX3_leadsTo_54 : decode cX3_leadsTo 54 = .ok (.iconst 0, 1) := by decide +kernel
theorem dX3_leadsTo_55 : decode cX3_leadsTo 55 = .ok (.ireturn, 1) := by decide +kernel
theorem dX4_init_0 : decode cX4_init 0 = .ok (.aload_n 0, 1) := by decide +kernel
theorem dX4_init_1 : decode cX4_init 1 = .ok (.invokespecial 1, 3) := by decide +kernel
theorem dX4_init_4 : decode cX4_init 4 = .ok (.aload_n 0, 1) := by decide +kernel
theorem dX4_init_5 : decode cX4_init 5 = .ok (.iconst (-1), 1) := by decide +kernel
theorem dX4_init_6 : decode cX4_init 6 = .ok (.putfield 9, 3) := by decide +kernel
theorem dX4_init_9 : decode cX4_init 9 = .ok (.aload_n 0, 1) := by decide +kernel
theorem dX4_init_10 : decode cX4_init 10 = .ok (.iconst 0, 1) := by decide +kernel
theorem dX4_init_11 : decode cX4_init 11 = .ok (.putfield 13, 3) := by decide +kernel
theorem dX4_init_14 : decode cX4_init 14 = .ok (.aload_n 0, 1) := by decide +kernel
theorem dX4_init_15 : decode cX4_init 15 = .ok (.bipush 40, 2) := by decide +kernel
theorem dX4_init_17 : decode cX4_init 17 = .ok (.newarray .int, 2) := by decide +kernel
theorem dX4_init_19 : decode cX4_init 19 = .ok (.putfield 16, 3) := by decide +kernel
theorem dX4_init_22 : decode cX4_init 22 = .ok (.return_, 1) := by decide +kernel
theorem dX4_isMissing_0 : decode cX4_isMissing 0 = .ok (.aload_n 0, 1) := by decide +kernel
theorem dX4_isMissing_1 : decode cX4_isMissing 1 = .ok (.getfield 9, 3) := by decide +kernel
theorem dX4_isMissing_4 : decode cX4_isMissing 4 = .ok (.iconst (-1), 1) := by decide +kernel
theorem dX4_isMissing_5 : decode cX4_isMissing 5 = .ok (.if_icmp .ne 7, 3) := by decide +kernel
theorem dX4_isMissing_8 : decode cX4_isMissing 8 = .ok (.iconst 1, 1) := by decide +kernel
theorem dX4_isMissing_9 : decode cX4_isMissing 9 = .ok (.goto 4, 3) := by decide +kernel
theorem dX4_isMissing_12 : decode cX4_isMissing 12 = .ok (.iconst 0, 1) := by decide +kernel
theorem dX4_isMissing_13 : decode cX4_isMissing 13 = .ok (.ireturn, 1) := by decide +kernel
theorem dX4_begin_0 : decode cX4_begin 0 = .ok (.aload_n 0, 1) := by decide +kernel
theorem dX4_begin_1 : decode cX4_begin 1 = .ok (.iload_n 1, 1) := by decide +kernel
theorem dX4_begin_2 : decode cX4_begin 2 = .ok (.putfield 9, 3) := by decide +kernel
theorem dX4_begin_5 : decode cX4_begin 5 = .ok (.aload_n 0, 1) := by decide +kernel
theorem dX4_begin_6 : decode cX4_begin 6 = .ok (.iconst 0, 1) := by decide +kernel
theorem dX4_begin_7 : decode cX4_begin 7 = .ok (.iload_n 2, 1) := by decide +kernel
theorem dX4_begin_8 : decode cX4_begin 8 = .ok (.bipush 40, 2) := by decide +kernel
theorem dX4_begin_10 : decode cX4_begin 10 = .ok (.invokestatic 20, 3) := by decide +kernel
theorem dX4_begin_13 : decode cX4_begin 13 = .ok (.invokestatic 26, 3) := by decide +kernel
theorem dX4_begin_16 : decode cX4_begin 16 = .ok (.putfield 13, 3) := by decide +kernel
theorem dX4_begin_19 : decode cX4_begin 19 = .ok (.aload_n 0, 1) := by decide +kernel
theorem dX4_begin_20 : decode cX4_begin 20 = .ok (.getfield 16, 3) := by decide +kernel
theorem dX4_begin_23 : decode cX4_begin 23 = .ok (.iconst 0, 1) := by decide +kernel
theorem dX4_begin_24 : decode cX4_begin 24 = .ok (.invokestatic 29, 3) := by decide +kernel
theorem dX4_begin_27 : decode cX4_begin 27 = .ok (.return_, 1) := by decide +kernel
theorem dX4_has_0 : decode cX4_has 0 = .ok (.iload_n 1, 1) := by decide +kernel
theorem dX4_has_1 : decode cX4_has 1 = .ok (.ifCond .lt 15, 3) := by decide +kernel
theorem dX4_has_4 : decode cX4_has 4 = .ok (.iload_n 1, 1) := by decide +kernel
theorem dX4_has_5 : decode cX4_has 5 = .ok (.aload_n 0, 1) := by decide +kernel
theorem dX4_has_6 : decode cX4_has 6 = .ok (.getfield 13, 3) := by decide +kernel
theorem dX4_has_9 : decode cX4_has 9 = .ok (.if_icmp .ge 7, 3) := by decide +kernel
theorem dX4_has_12 : decode cX4_has 12 = .ok (.iconst 1, 1) := by decide +kernel
theorem dX4_has_13 : decode cX4_has 13 = .ok (.goto 4, 3) := by decide +kernel
theorem dX4_has_16 : decode cX4_has 16 = .ok (.iconst 0, 1) := by decide +kernel
theorem dX4_has_17 : decode cX4_has 17 = .ok (.ireturn, 1) := by decide +kernel
theorem dX4_hasAll_0 : decode cX4_hasAll 0 = .ok (.iload_n 2, 1) := by decide +kernel
theorem dX4_hasAll_1 : decode cX4_hasAll 1 = .ok (.ifCond .lt 29, 3) := by decide +kernel
theorem dX4_hasAll_4 : decode cX4_hasAll 4 = .ok (.iload_n 1, 1) := by decide +kernel
theorem dX4_hasAll_5 : decode cX4_hasAll 5 = .ok (.ifCond .lt 25, 3) := by decide +kernel
theorem dX4_hasAll_8 : decode cX4_hasAll 8 = .ok (.iload_n 1, 1) := by decide +kernel
theorem dX4_hasAll_9 : decode cX4_hasAll 9 = .ok (.aload_n 0, 1) := by decide +kernel
theorem dX4_hasAll_10 : decode cX4_hasAll 10 = .ok (.getfield 13, 3) := by decide +kernel
theorem dX4_hasAll_13 : decode cX4_hasAll 13 = .ok (.if_icmp .gt 17, 3) := by decide +kernel
theorem dX4_hasAll_16 : decode cX4_hasAll 16 = .ok (.iload_n 2, 1) := by decide +kernel
theorem dX4_hasAll_17 : decode cX4_hasAll 17 = .ok (.aload_n 0, 1) := by decide +kernel
theorem dX4_hasAll_18 : decode cX4_hasAll 18 = .ok (.getfield 13, 3) := by decide +kernel
theorem dX4_hasAll_21 : decode cX4_hasAll 21 = .ok (.iload_n 1, 1) := by decide +kernel
theorem dX4_hasAll_22 : decode cX4_hasAll 22 = .ok (.isub, 1) := by decide +kernel
theorem dX4_hasAll_23 : decode cX4_hasAll 23 = .ok (.if_icmp .gt 7, 3) := by decide +kernel
theorem dX4_hasAll_26 : decode cX4_hasAll 26 = .ok (.iconst 1, 1) := by decide +kernel
theorem dX4_hasAll_27 : decode cX4_hasAll 27 = .ok (.goto 4, 3) := by decide +kernel
theorem dX4_hasAll_30 : decode cX4_hasAll 30 = .ok (.iconst 0, 1) := by decide +kernel
theorem dX4_hasAll_31 : decode cX4_hasAll 31 = .ok (.ireturn, 1) := by decide +kernel
theorem dX4_item_0 : decode cX4_item 0 = .ok (.aload_n 0, 1) := by decide +kernel
theorem dX4_item_1 : decode cX4_item 1 = .ok (.iload_n 1, 1) := by decide +kernel
theorem dX4_item_2 : decode cX4_item 2 = .ok (.invokevirtual 35, 3) := by decide +kernel
theorem dX4_item_5 : decode cX4_item 5 = .ok (.ifCond .eq 12, 3) := by decide +kernel
theorem dX4_item_8 : decode cX4_item 8 = .ok (.aload_n 0, 1) := by decide +kernel
theorem dX4_item_9 : decode cX4_item 9 = .ok (.getfield 16, 3) := by decide +kernel
theorem dX4_item_12 : decode cX4_item 12 = .ok (.iload_n 1, 1) := by decide +kernel
theorem dX4_item_13 : decode cX4_item 13 = .ok (.iaload, 1) := by decide +kernel
theorem dX4_item_14 : decode cX4_item 14 = .ok (.goto 4, 3) := by decide +kernel
theorem dX4_item_17 : decode cX4_item 17 = .ok (.iconst 0, 1) := by decide +kernel
theorem dX4_item_18 : decode cX4_item 18 = .ok (.ireturn, 1) := by decide +kernel
theorem dX4_put_0 : decode cX4_put 0 = .ok (.aload_n 0, 1) := by decide +kernel
theorem dX4_put_1 : decode cX4_put 1 = .ok (.iload_n 1, 1) := by decide +kernel
theorem dX4_put_2 : decode cX4_put 2 = .ok (.invokevirtual 35, 3) := by decide +kernel
theorem dX4_put_5 : decode cX4_put 5 = .ok (.ifCond .ne 4, 3) := by decide +kernel
theorem dX4_put_8 : decode cX4_put 8 = .ok (.return_, 1) := by decide +kernel
theorem dX4_put_9 : decode cX4_put 9 = .ok (.aload_n 0, 1) := by decide +kernel
theorem dX4_put_10 : decode cX4_put 10 = .ok (.getfield 9, 3) := by decide +kernel
theorem dX4_put_13 : decode cX4_put 13 = .ok (.ifCond .ne 14, 3) := by decide +kernel
theorem dX4_put_16 : decode cX4_put 16 = .ok (.aload_n 0, 1) := by decide +kernel
theorem dX4_put_17 : decode cX4_put 17 = .ok (.getfield 16, 3) := by decide +kernel
theorem dX4_put_20 : decode cX4_put 20 = .ok (.iload_n 1, 1) := by decide +kernel
theorem dX4_put_21 : decode cX4_put 21 = .ok (.iload_n 2, 1) := by decide +kernel
theorem dX4_put_22 : decode cX4_put 22 = .ok (.i2b, 1) := by decide +kernel
theorem dX4_put_23 : decode cX4_put 23 = .ok (.iastore, 1) := by decide +kernel
theorem dX4_put_24 : decode cX4_put 24 = .ok (.goto 29, 3) := by decide +kernel
theorem dX4_put_27 : decode cX4_put 27 = .ok (.aload_n 0, 1) := by decide +kernel
theorem dX4_put_28 : decode cX4_put 28 = .ok (.getfield 9, 3) := by decide +kernel
theorem dX4_put_31 : decode cX4_put 31 = .ok (.iconst 1, 1) := by decide +kernel
theorem dX4_put_32 : decode cX4_put 32 = .ok (.if_icmp .ne 14, 3) := by decide +kernel
theorem dX4_put_35 : decode cX4_put 35 = .ok (.aload_n 0, 1) := by decide +kernel
theorem dX4_put_36 : decode cX4_put 36 = .ok (.getfield 16, 3) := by decide +kernel
theorem dX4_put_39 : decode cX4_put 39 = .ok (.iload_n 1, 1) := by decide +kernel
theorem dX4_put_40 : decode cX4_put 40 = .ok (.iload_n 2, 1) := by decide +kernel
theorem dX4_put_41 : decode cX4_put 41 = .ok (.i2s, 1) := by decide +kernel
theorem dX4_put_42 : decode cX4_put 42 = .ok (.iastore, 1) := by decide +kernel
theorem dX4_put_43 : decode cX4_put 43 = .ok (.goto 10, 3) := by decide +kernel
theorem dX4_put_46 : decode cX4_put 46 = .ok (.aload_n 0, 1) := by decide +kernel
theorem dX4_put_47 : decode cX4_put 47 = .ok (.getfield 16, 3) := by decide +kernel
theorem dX4_put_50 : decode cX4_put 50 = .ok (.iload_n 1, 1) := by decide +kernel
theorem dX4_put_51 : decode cX4_put 51 = .ok (.iload_n 2, 1) := by decide +kernel
theorem dX4_put_52 : decode cX4_put 52 = .ok (.iastore, 1) := by decide +kernel
theorem dX4_put_53 : decode cX4_put 53 = .ok (.return_, 1) := by decide +kernel
theorem dX5_of_0 : decode cX5_of 0 = .ok (.iload_n 0, 1) := by decide +kernel
theorem dX5_of_1 : decode cX5_of 1 = .ok (.bipush 10, 2) := by decide +kernel
theorem dX5_of_3 : decode cX5_of 3 = .ok (.ishl, 1) := by decide +kernel
theorem dX5_of_4 : decode cX5_of 4 = .ok (.iload_n 1, 1) := by decide +kernel
theorem dX5_of_5 : decode cX5_of 5 = .ok (.bipush 8, 2) := by decide +kernel
theorem dX5_of_7 : decode cX5_of 7 = .ok (.ishl, 1) := by decide +kernel
theorem dX5_of_8 : decode cX5_of 8 = .ok (.ior, 1) := by decide +kernel
theorem dX5_of_9 : decode cX5_of 9 = .ok (.iload_n 2, 1) := by decide +kernel
theorem dX5_of_10 : decode cX5_of 10 = .ok (.ior, 1) := by decide +kernel
theorem dX5_of_11 : decode cX5_of 11 = .ok (.ireturn, 1) := by decide +kernel
theorem dX5_roomOf_0 : decode cX5_roomOf 0 = .ok (.iload_n 0, 1) := by decide +kernel
theorem dX5_roomOf_1 : decode cX5_roomOf 1 = .ok (.bipush 10, 2) := by decide +kernel
theorem dX5_roomOf_3 : decode cX5_roomOf 3 = .ok (.ishr, 1) := by decide +kernel
theorem dX5_roomOf_4 : decode cX5_roomOf 4 = .ok (.ireturn, 1) := by decide +kernel
theorem dX5_turnOf_0 : decode cX5_turnOf 0 = .ok (.iload_n 0, 1) := by decide +kernel
theorem dX5_turnOf_1 : decode cX5_turnOf 1 = .ok (.bipush 8, 2) := by decide +kernel
theorem dX5_turnOf_3 : decode cX5_turnOf 3 = .ok (.ishr, 1) := by decide +kernel
theorem dX5_turnOf_4 : decode cX5_turnOf 4 = .ok (.iconst 3, 1) := by decide +kernel
theorem dX5_turnOf_5 : decode cX5_turnOf 5 = .ok (.iand, 1) := by decide +kernel
theorem dX5_turnOf_6 : decode cX5_turnOf 6 = .ok (.ireturn, 1) := by decide +kernel
theorem dX5_stateOf_0 : decode cX5_stateOf 0 = .ok (.iload_n 0, 1) := by decide +kernel
theorem dX5_stateOf_1 : decode cX5_stateOf 1 = .ok (.iconst 2, 1) := by decide +kernel
theorem dX5_stateOf_2 : decode cX5_stateOf 2 = .ok (.iload_n 1, 1) := by decide +kernel
theorem dX5_stateOf_3 : decode cX5_stateOf 3 = .ok (.imul, 1) := by decide +kernel
theorem dX5_stateOf_4 : decode cX5_stateOf 4 = .ok (.ishr, 1) := by decide +kernel
theorem dX5_stateOf_5 : decode cX5_stateOf 5 = .ok (.iconst 3, 1) := by decide +kernel
theorem dX5_stateOf_6 : decode cX5_stateOf 6 = .ok (.iand, 1) := by decide +kernel
theorem dX5_stateOf_7 : decode cX5_stateOf 7 = .ok (.ireturn, 1) := by decide +kernel
theorem dX5_withRoom_0 : decode cX5_withRoom 0 = .ok (.iload_n 0, 1) := by decide +kernel
theorem dX5_withRoom_1 : decode cX5_withRoom 1 = .ok (.sipush 1023, 3) := by decide +kernel
theorem dX5_withRoom_4 : decode cX5_withRoom 4 = .ok (.iand, 1) := by decide +kernel
theorem dX5_withRoom_5 : decode cX5_withRoom 5 = .ok (.iload_n 1, 1) := by decide +kernel
theorem dX5_withRoom_6 : decode cX5_withRoom 6 = .ok (.bipush 10, 2) := by decide +kernel
theorem dX5_withRoom_8 : decode cX5_withRoom 8 = .ok (.ishl, 1) := by decide +kernel
theorem dX5_withRoom_9 : decode cX5_withRoom 9 = .ok (.ior, 1) := by decide +kernel
theorem dX5_withRoom_10 : decode cX5_withRoom 10 = .ok (.ireturn, 1) := by decide +kernel
theorem dX5_withTurn_0 : decode cX5_withTurn 0 = .ok (.iload_n 0, 1) := by decide +kernel
theorem dX5_withTurn_1 : decode cX5_withTurn 1 = .ok (.sipush (-769), 3) := by decide +kernel
theorem dX5_withTurn_4 : decode cX5_withTurn 4 = .ok (.iand, 1) := by decide +kernel
theorem dX5_withTurn_5 : decode cX5_withTurn 5 = .ok (.iload_n 1, 1) := by decide +kernel
theorem dX5_withTurn_6 : decode cX5_withTurn 6 = .ok (.bipush 8, 2) := by decide +kernel
theorem dX5_withTurn_8 : decode cX5_withTurn 8 = .ok (.ishl, 1) := by decide +kernel
theorem dX5_withTurn_9 : decode cX5_withTurn 9 = .ok (.ior, 1) := by decide +kernel
theorem dX5_withTurn_10 : decode cX5_withTurn 10 = .ok (.ireturn, 1) := by decide +kernel
theorem dX5_withState_0 : decode cX5_withState 0 = .ok (.iload_n 0, 1) := by decide +kernel
theorem dX5_withState_1 : decode cX5_withState 1 = .ok (.iconst 3, 1) := by decide +kernel
theorem dX5_withState_2 : decode cX5_withState 2 = .ok (.iconst 2, 1) := by decide +kernel
theorem dX5_withState_3 : decode cX5_withState 3 = .ok (.iload_n 1, 1) := by decide +kernel
theorem dX5_withState_4 : decode cX5_withState 4 = .ok (.imul, 1) := by decide +kernel
theorem dX5_withState_5 : decode cX5_withState 5 = .ok (.ishl, 1) := by decide +kernel
theorem dX5_withState_6 : decode cX5_withState 6 = .ok (.iconst (-1), 1) := by decide +kernel
theorem dX5_withState_7 : decode cX5_withState 7 = .ok (.ixor, 1) := by decide +kernel
theorem dX5_withState_8 : decode cX5_withState 8 = .ok (.iand, 1) := by decide +kernel
theorem dX5_withState_9 : decode cX5_withState 9 = .ok (.iload_n 2, 1) := by decide +kernel
theorem dX5_withState_10 : decode cX5_withState 10 = .ok (.iconst 2, 1) := by decide +kernel
theorem dX5_withState_11 : decode cX5_withState 11 = .ok (.iload_n 1, 1) := by decide +kernel
theorem dX5_withState_12 : decode cX5_withState 12 = .ok (.imul, 1) := by decide +kernel
theorem dX5_withState_13 : decode cX5_withState 13 = .ok (.ishl, 1) := by decide +kernel
theorem dX5_withState_14 : decode cX5_withState 14 = .ok (.ior, 1) := by decide +kernel
theorem dX5_withState_15 : decode cX5_withState 15 = .ok (.ireturn, 1) := by decide +kernel
theorem dX5_statesTogether_0 : decode cX5_statesTogether 0 = .ok (.iconst 0, 1) := by decide +kernel
theorem dX5_statesTogether_1 : decode cX5_statesTogether 1 = .ok (.istore_n 1, 1) := by decide +kernel
theorem dX5_statesTogether_2 : decode cX5_statesTogether 2 = .ok (.iconst 0, 1) := by decide +kernel
theorem dX5_statesTogether_3 : decode cX5_statesTogether 3 = .ok (.istore_n 2, 1) := by decide +kernel
theorem dX5_statesTogether_4 : decode cX5_statesTogether 4 = .ok (.iload_n 2, 1) := by decide +kernel
theorem dX5_statesTogether_5 : decode cX5_statesTogether 5 = .ok (.iconst 4, 1) := by decide +kernel
theorem dX5_statesTogether_6 : decode cX5_statesTogether 6 = .ok (.if_icmp .ge 17, 3) := by decide +kernel
theorem dX5_statesTogether_9 : decode cX5_statesTogether 9 = .ok (.iload_n 1, 1) := by decide +kernel
theorem dX5_statesTogether_10 : decode cX5_statesTogether 10 = .ok (.iload_n 0, 1) := by decide +kernel
theorem dX5_statesTogether_11 : decode cX5_statesTogether 11 = .ok (.iload_n 2, 1) := by decide +kernel
theorem dX5_statesTogether_12 : decode cX5_statesTogether 12 = .ok (.invokestatic 9, 3) := by decide +kernel
theorem dX5_statesTogether_15 : decode cX5_statesTogether 15 = .ok (.iadd, 1) := by decide +kernel
theorem dX5_statesTogether_16 : decode cX5_statesTogether 16 = .ok (.istore_n 1, 1) := by decide +kernel
theorem dX5_statesTogether_17 : decode cX5_statesTogether 17 = .ok (.iinc 2 1, 3) := by decide +kernel
theorem dX5_statesTogether_20 : decode cX5_statesTogether 20 = .ok (.goto (-16), 3) := by decide +kernel
theorem dX5_statesTogether_23 : decode cX5_statesTogether 23 = .ok (.iload_n 1, 1) := by decide +kernel
theorem dX5_statesTogether_24 : decode cX5_statesTogether 24 = .ok (.ireturn, 1) := by decide +kernel
theorem dX6_init_0 : decode cX6_init 0 = .ok (.aload_n 0, 1) := by decide +kernel
theorem dX6_init_1 : decode cX6_init 1 = .ok (.invokespecial 1, 3) := by decide +kernel
theorem dX6_init_4 : decode cX6_init 4 = .ok (.aload_n 0, 1) := by decide +kernel
theorem dX6_init_5 : decode cX6_init 5 = .ok (.sipush 160, 3) := by decide +kernel
theorem dX6_init_8 : decode cX6_init 8 = .ok (.newarray .int, 2) := by decide +kernel
theorem dX6_init_10 : decode cX6_init 10 = .ok (.putfield 9, 3) := by decide +kernel
theorem dX6_init_13 : decode cX6_init 13 = .ok (.aload_n 0, 1) := by decide +kernel
theorem dX6_init_14 : decode cX6_init 14 = .ok (.iconst 3, 1) := by decide +kernel
theorem dX6_init_15 : decode cX6_init 15 = .ok (.newarray .int, 2) := by decide +kernel
theorem dX6_init_17 : decode cX6_init 17 = .ok (.putfield 15, 3) := by decide +kernel
theorem dX6_init_20 : decode cX6_init 20 = .ok (.aload_n 0, 1) := by decide +kernel
theorem dX6_init_21 : decode cX6_init 21 = .ok (.bipush 40, 2) := by decide +kernel
theorem dX6_init_23 : decode cX6_init 23 = .ok (.newarray .int, 2) := by decide +kernel
theorem dX6_init_25 : decode cX6_init 25 = .ok (.putfield 18, 3) := by decide +kernel
theorem dX6_init_28 : decode cX6_init 28 = .ok (.aload_n 0, 1) := by decide +kernel
theorem dX6_init_29 : decode cX6_init 29 = .ok (.iconst 0, 1) := by decide +kernel
theorem dX6_init_30 : decode cX6_init 30 = .ok (.putfield 21, 3) := by decide +kernel
theorem dX6_init_33 : decode cX6_init 33 = .ok (.aload_n 0, 1) := by decide +kernel
theorem dX6_init_34 : decode cX6_init 34 = .ok (.iconst 0, 1) := by decide +kernel
theorem dX6_init_35 : decode cX6_init 35 = .ok (.putfield 25, 3) := by decide +kernel
theorem dX6_init_38 : decode cX6_init 38 = .ok (.return_, 1) := by decide +kernel
theorem dX6_clear_0 : decode cX6_clear 0 = .ok (.aload_n 0, 1) := by decide +kernel
theorem dX6_clear_1 : decode cX6_clear 1 = .ok (.iconst 0, 1) := by decide +kernel
theorem dX6_clear_2 : decode cX6_clear 2 = .ok (.putfield 21, 3) := by decide +kernel
theorem dX6_clear_5 : decode cX6_clear 5 = .ok (.aload_n 0, 1) := by decide +kernel
theorem dX6_clear_6 : decode cX6_clear 6 = .ok (.getfield 15, 3) := by decide +kernel
theorem dX6_clear_9 : decode cX6_clear 9 = .ok (.iconst 0, 1) := by decide +kernel
theorem dX6_clear_10 : decode cX6_clear 10 = .ok (.invokestatic 28, 3) := by decide +kernel
theorem dX6_clear_13 : decode cX6_clear 13 = .ok (.return_, 1) := by decide +kernel
theorem dX6_emit_0 : decode cX6_emit 0 = .ok (.aload_n 0, 1) := by decide +kernel
theorem dX6_emit_1 : decode cX6_emit 1 = .ok (.getfield 21, 3) := by decide +kernel
theorem dX6_emit_4 : decode cX6_emit 4 = .ok (.aload_n 0, 1) := by decide +kernel
theorem dX6_emit_5 : decode cX6_emit 5 = .ok (.getfield 9, 3) := by decide +kernel
theorem dX6_emit_8 : decode cX6_emit 8 = .ok (.arraylength, 1) := by decide +kernel
theorem dX6_emit_9 : decode cX6_emit 9 = .ok (.if_icmp .lt 4, 3) := by decide +kernel
theorem dX6_emit_12 : decode cX6_emit 12 = .ok (.return_, 1) := by decide +kernel
theorem dX6_emit_13 : decode cX6_emit 13 = .ok (.aload_n 0, 1) := by decide +kernel
theorem dX6_emit_14 : decode cX6_emit 14 = .ok (.getfield 9, 3) := by decide +kernel
theorem dX6_emit_17 : decode cX6_emit 17 = .ok (.aload_n 0, 1) := by decide +kernel
theorem dX6_emit_18 : decode cX6_emit 18 = .ok (.getfield 21, 3) := by decide +kernel
theorem dX6_emit_21 : decode cX6_emit 21 = .ok (.iload_n 1, 1) := by decide +kernel
theorem dX6_emit_22 : decode cX6_emit 22 = .ok (.iastore, 1) := by decide +kernel
theorem dX6_emit_23 : decode cX6_emit 23 = .ok (.aload_n 0, 1) := by decide +kernel
theorem dX6_emit_24 : decode cX6_emit 24 = .ok (.dup, 1) := by decide +kernel
theorem dX6_emit_25 : decode cX6_emit 25 = .ok (.getfield 21, 3) := by decide +kernel
theorem dX6_emit_28 : decode cX6_emit 28 = .ok (.iconst 1, 1) := by decide +kernel
theorem dX6_emit_29 : decode cX6_emit 29 = .ok (.iadd, 1) := by decide +kernel
theorem dX6_emit_30 : decode cX6_emit 30 = .ok (.putfield 21, 3) := by decide +kernel
theorem dX6_emit_33 : decode cX6_emit 33 = .ok (.return_, 1) := by decide +kernel
theorem dX6_endPart_0 : decode cX6_endPart 0 = .ok (.iload_n 1, 1) := by decide +kernel
theorem dX6_endPart_1 : decode cX6_endPart 1 = .ok (.ifCond .lt 18, 3) := by decide +kernel
theorem dX6_endPart_4 : decode cX6_endPart 4 = .ok (.iload_n 1, 1) := by decide +kernel
theorem dX6_endPart_5 : decode cX6_endPart 5 = .ok (.iconst 3, 1) := by decide +kernel
theorem dX6_endPart_6 : decode cX6_endPart 6 = .ok (.if_icmp .ge 13, 3) := by decide +kernel
theorem dX6_endPart_9 : decode cX6_endPart 9 = .ok (.aload_n 0, 1) := by decide +kernel
theorem dX6_endPart_10 : decode cX6_endPart 10 = .ok (.getfield 15, 3) := by decide +kernel
theorem dX6_endPart_13 : decode cX6_endPart 13 = .ok (.iload_n 1, 1) := by decide +kernel
theorem dX6_endPart_14 : decode cX6_endPart 14 = .ok (.aload_n 0, 1) := by decide +kernel
theorem dX6_endPart_15 : decode cX6_endPart 15 = .ok (.getfield 21, 3) := by decide +kernel
theorem dX6_endPart_18 : decode cX6_endPart 18 = .ok (.iastore, 1) := by decide +kernel
theorem dX6_endPart_19 : decode cX6_endPart 19 = .ok (.return_, 1) := by decide +kernel
theorem dX6_answer_0 : decode cX6_answer 0 = .ok (.iload_n 1, 1) := by decide +kernel
theorem dX6_answer_1 : decode cX6_answer 1 = .ok (.ifCond .lt 8, 3) := by decide +kernel
theorem dX6_answer_4 : decode cX6_answer 4 = .ok (.iload_n 1, 1) := by decide +kernel
theorem dX6_answer_5 : decode cX6_answer 5 = .ok (.iconst 3, 1) := by decide +kernel
theorem dX6_answer_6 : decode cX6_answer 6 = .ok (.if_icmp .lt 5, 3) := by decide +kernel
theorem dX6_answer_9 : decode cX6_answer 9 = .ok (.iconst 0, 1) := by decide +kernel
theorem dX6_answer_10 : decode cX6_answer 10 = .ok (.ireturn, 1) := by decide +kernel
theorem dX6_answer_11 : decode cX6_answer 11 = .ok (.aload_n 0, 1) := by decide +kernel
theorem dX6_answer_12 : decode cX6_answer 12 = .ok (.iconst 0, 1) := by decide +kernel
theorem dX6_answer_13 : decode cX6_answer 13 = .ok (.putfield 25, 3) := by decide +kernel
theorem dX6_answer_16 : decode cX6_answer 16 = .ok (.iload_n 1, 1) := by decide +kernel
theorem dX6_answer_17 : decode cX6_answer 17 = .ok (.ifCond .ne 7, 3) := by decide +kernel
theorem dX6_answer_20 : decode cX6_answer 20 = .ok (.iconst 0, 1) := by decide +kernel
theorem dX6_answer_21 : decode cX6_answer 21 = .ok (.goto 11, 3) := by decide +kernel
theorem dX6_answer_24 : decode cX6_answer 24 = .ok (.aload_n 0, 1) := by decide +kernel
theorem dX6_answer_25 : decode cX6_answer 25 = .ok (.getfield 15, 3) := by decide +kernel
theorem dX6_answer_28 : decode cX6_answer 28 = .ok (.iload_n 1, 1) := by decide +kernel
theorem dX6_answer_29 : decode cX6_answer 29 = .ok (.iconst 1, 1) := by decide +kernel
theorem dX6_answer_30 : decode cX6_answer 30 = .ok (.isub, 1) := by decide +kernel
theorem dX6_answer_31 : decode cX6_answer 31 = .ok (.iaload, 1) := by decide +kernel
theorem dX6_answer_32 : decode cX6_answer 32 = .ok (.istore_n 3, 1) := by decide +kernel
theorem dX6_answer_33 : decode cX6_answer 33 = .ok (.iload_n 3, 1) := by decide +kernel
theorem dX6_answer_34 : decode cX6_answer 34 = .ok (.istore 4, 2) := by decide +kernel
theorem dX6_answer_36 : decode cX6_answer 36 = .ok (.iload 4, 2) := by decide +kernel
theorem dX6_answer_38 : decode cX6_answer 38 = .ok (.aload_n 0, 1) := by decide +kernel
theorem dX6_answer_39 : decode cX6_answer 39 = .ok (.getfield 15, 3) := by decide +kernel
theorem dX6_answer_42 : decode cX6_answer 42 = .ok (.iload_n 1, 1) := by decide +kernel
theorem dX6_answer_43 : decode cX6_answer 43 = .ok (.iaload, 1) := by decide +kernel
theorem dX6_answer_44 : decode cX6_answer 44 = .ok (.if_icmp .ge 139, 3) := by decide +kernel
theorem dX6_answer_47 : decode cX6_answer 47 = .ok (.iload 4, 2) := by decide +kernel
theorem dX6_answer_49 : decode cX6_answer 49 = .ok (.aload_n 0, 1) := by decide +kernel
theorem dX6_answer_50 : decode cX6_answer 50 = .ok (.getfield 9, 3) := by decide +kernel
theorem dX6_answer_53 : decode cX6_answer 53 = .ok (.arraylength, 1) := by decide +kernel
theorem dX6_answer_54 : decode cX6_answer 54 = .ok (.if_icmp .ge 129, 3) := by decide +kernel
theorem dX6_answer_57 : decode cX6_answer 57 = .ok (.aload_n 0, 1) := by decide +kernel
theorem dX6_answer_58 : decode cX6_answer 58 = .ok (.getfield 9, 3) := by decide +kernel
theorem dX6_answer_61 : decode cX6_answer 61 = .ok (.iload 4, 2) := by decide +kernel
theorem dX6_answer_63 : decode cX6_answer 63 = .ok (.iaload, 1) := by decide +kernel
theorem dX6_answer_64 : decode cX6_answer 64 = .ok (.istore 5, 2) := by decide +kernel
theorem dX6_answer_66 : decode cX6_answer 66 = .ok (.iload 5, 2) := by decide +kernel
theorem dX6_answer_68 : decode cX6_answer 68 = .ok (.ifCond .lt 12, 3) := by decide +kernel
theorem dX6_answer_71 : decode cX6_answer 71 = .ok (.aload_n 0, 1) := by decide +kernel
theorem dX6_answer_72 : decode cX6_answer 72 = .ok (.iload 5, 2) := by decide +kernel
theorem dX6_answer_74 : decode cX6_answer 74 = .ok (.invokevirtual 34, 3) := by decide +kernel
theorem dX6_answer_77 : decode cX6_answer 77 = .ok (.goto 100, 3) := by decide +kernel
theorem dX6_answer_80 : decode cX6_answer 80 = .ok (.iload 5, 2) := by decide +kernel
theorem dX6_answer_82 : decode cX6_answer 82 = .ok (.bipush (-7), 2) := by decide +kernel
theorem dX6_answer_84 : decode cX6_answer 84 = .ok (.if_icmp .le 31, 3) := by decide +kernel
theorem dX6_answer_87 : decode cX6_answer 87 = .ok (.iconst (-1), 1) := by decide +kernel
theorem dX6_answer_88 : decode cX6_answer 88 = .ok (.iload 5, 2) := by decide +kernel
theorem dX6_answer_90 : decode cX6_answer 90 = .ok (.isub, 1) := by decide +kernel
theorem dX6_answer_91 : decode cX6_answer 91 = .ok (.istore 6, 2) := by decide +kernel
theorem dX6_answer_93 : decode cX6_answer 93 = .ok (.aload_n 0, 1) := by decide +kernel
theorem dX6_answer_94 : decode cX6_answer 94 = .ok (.iload 6, 2) := by decide +kernel
theorem dX6_answer_96 : decode cX6_answer 96 = .ok (.aload_n 2, 1) := by decide +kernel
theorem dX6_answer_97 : decode cX6_answer 97 = .ok (.arraylength, 1) := by decide +kernel
theorem dX6_answer_98 : decode cX6_answer 98 = .ok (.if_icmp .ge 10, 3) := by decide +kernel
theorem dX6_answer_101 : decode cX6_answer 101 = .ok (.aload_n 2, 1) := by decide +kernel
theorem dX6_answer_102 : decode cX6_answer 102 = .ok (.iload 6, 2) := by decide +kernel
theorem dX6_answer_104 : decode cX6_answer 104 = .ok (.iaload, 1) := by decide +kernel
theorem dX6_answer_105 : decode cX6_answer 105 = .ok (.goto 4, 3) := by decide +kernel
theorem dX6_answer_108 : decode cX6_answer 108 = .ok (.iconst 0, 1) := by decide +kernel
theorem dX6_answer_109 : decode cX6_answer 109 = .ok (.invokevirtual 34, 3) := by decide +kernel
theorem dX6_answer_112 : decode cX6_answer 112 = .ok (.goto 65, 3) := by decide +kernel
theorem dX6_answer_115 : decode cX6_answer 115 = .ok (.aload_n 0, 1) := by decide +kernel
theorem dX6_answer_116 : decode cX6_answer 116 = .ok (.invokevirtual 38, 3) := by decide +kernel
theorem dX6_answer_119 : decode cX6_answer 119 = .ok (.istore 6, 2) := by decide +kernel
theorem dX6_answer_121 : decode cX6_answer 121 = .ok (.iload 5, 2) := by decide +kernel
theorem dX6_answer_123 : decode cX6_answer 123 = .ok (.bipush (-7), 2) := by decide +kernel
theorem dX6_answer_125 : decode cX6_answer 125 = .ok (.if_icmp .ne 13, 3) := by decide +kernel
theorem dX6_answer_128 : decode cX6_answer 128 = .ok (.aload_n 0, 1) := by decide +kernel
theorem dX6_answer_129 : decode cX6_answer 129 = .ok (.iload 6, 2) := by decide +kernel
theorem dX6_answer_131 : decode cX6_answer 131 = .ok (.ineg, 1) := by decide +kernel
theorem dX6_answer_132 : decode cX6_answer 132 = .ok (.invokevirtual 34, 3) := by decide +kernel
theorem dX6_answer_135 : decode cX6_answer 135 = .ok (.goto 42, 3) := by decide +kernel
theorem dX6_answer_138 : decode cX6_answer 138 = .ok (.iload 5, 2) := by decide +kernel
theorem dX6_answer_140 : decode cX6_answer 140 = .ok (.bipush (-8), 2) := by decide +kernel
theorem dX6_answer_142 : decode cX6_answer 142 = .ok (.if_icmp .ne 20, 3) := by decide +kernel
theorem dX6_answer_145 : decode cX6_answer 145 = .ok (.aload_n 0, 1) := by decide +kernel
theorem dX6_answer_146 : decode cX6_answer 146 = .ok (.iload 6, 2) := by decide +kernel
theorem dX6_answer_148 : decode cX6_answer 148 = .ok (.ifCond .ne 7, 3) := by decide +kernel
theorem dX6_answer_151 : decode cX6_answer 151 = .ok (.iconst 1, 1) := by decide +kernel
theorem dX6_answer_152 : decode cX6_answer 152 = .ok (.goto 4, 3) := by decide +kernel
theorem dX6_answer_155 : decode cX6_answer 155 = .ok (.iconst 0, 1) := by decide +kernel
theorem dX6_answer_156 : decode cX6_answer 156 = .ok (.invokevirtual 34, 3) := by decide +kernel
theorem dX6_answer_159 : decode cX6_answer 159 = .ok (.goto 18, 3) := by decide +kernel
theorem dX6_answer_162 : decode cX6_answer 162 = .ok (.aload_n 0, 1) := by decide +kernel
theorem dX6_answer_163 : decode cX6_answer 163 = .ok (.iload 5, 2) := by decide +kernel
theorem dX6_answer_165 : decode cX6_answer 165 = .ok (.aload_n 0, 1) := by decide +kernel
theorem dX6_answer_166 : decode cX6_answer 166 = .ok (.invokevirtual 38, 3) := by decide +kernel
theorem dX6_answer_169 : decode cX6_answer 169 = .ok (.iload 6, 2) := by decide +kernel
theorem dX6_answer_171 : decode cX6_answer 171 = .ok (.invokestatic 42, 3) := by decide +kernel
theorem dX6_answer_174 : decode cX6_answer 174 = .ok (.invokevirtual 34, 3) := by decide +kernel
theorem dX6_answer_177 : decode cX6_answer 177 = .ok (.iinc 4 1, 3) := by decide +kernel
theorem dX6_answer_180 : decode cX6_answer 180 = .ok (.goto (-144), 3) := by decide +kernel
theorem dX6_answer_183 : decode cX6_answer 183 = .ok (.aload_n 0, 1) := by decide +kernel
theorem dX6_answer_184 : decode cX6_answer 184 = .ok (.invokevirtual 38, 3) := by decide +kernel
theorem dX6_answer_187 : decode cX6_answer 187 = .ok (.ireturn, 1) := by decide +kernel
theorem dX6_ofTwo_0 : decode cX6_ofTwo 0 = .ok (.iload_n 0, 1) := by decide +kernel
theorem dX6_ofTwo_1 : decode cX6_ofTwo 1 = .ok (.tableswitch 97 (-14) (-9) #[93, 89, 78, 67, 53, 39], 39) := by decide +kernel
theorem dX6_ofTwo_40 : decode cX6_ofTwo 40 = .ok (.iload_n 1, 1) := by decide +kernel
theorem dX6_ofTwo_41 : decode cX6_ofTwo 41 = .ok (.ifCond .ne 7, 3) := by decide +kernel
theorem dX6_ofTwo_44 : decode cX6_ofTwo 44 = .ok (.iload_n 2, 1) := by decide +kernel
theorem dX6_ofTwo_45 : decode cX6_ofTwo 45 = .ok (.ifCond .eq 7, 3) := by decide +kernel
theorem dX6_ofTwo_48 : decode cX6_ofTwo 48 = .ok (.iconst 1, 1) := by decide +kernel
theorem dX6_ofTwo_49 : decode cX6_ofTwo 49 = .ok (.goto 4, 3) := by decide +kernel
theorem dX6_ofTwo_52 : decode cX6_ofTwo 52 = .ok (.iconst 0, 1) := by decide +kernel
theorem dX6_ofTwo_53 : decode cX6_ofTwo 53 = .ok (.ireturn, 1) := by decide +kernel
theorem dX6_ofTwo_54 : decode cX6_ofTwo 54 = .ok (.iload_n 1, 1) := by decide +kernel
theorem dX6_ofTwo_55 : decode cX6_ofTwo 55 = .ok (.ifCond .eq 11, 3) := by decide +kernel
theorem dX6_ofTwo_58 : decode cX6_ofTwo 58 = .ok (.iload_n 2, 1) := by decide +kernel
theorem dX6_ofTwo_59 : decode cX6_ofTwo 59 = .ok (.ifCond .eq 7, 3) := by decide +kernel
theorem dX6_ofTwo_62 : decode cX6_ofTwo 62 = .ok (.iconst 1, 1) := by decide +kernel
theorem dX6_ofTwo_63 : decode cX6_ofTwo 63 = .ok (.goto 4, 3) := by decide +kernel
theorem dX6_ofTwo_66 : decode cX6_ofTwo 66 = .ok (.iconst 0, 1) := by decide +kernel
theorem dX6_ofTwo_67 : decode cX6_ofTwo 67 = .ok (.ireturn, 1) := by decide +kernel
theorem dX6_ofTwo_68 : decode cX6_ofTwo 68 = .ok (.iload_n 1, 1) := by decide +kernel
theorem dX6_ofTwo_69 : decode cX6_ofTwo 69 = .ok (.iload_n 2, 1) := by decide +kernel
theorem dX6_ofTwo_70 : decode cX6_ofTwo 70 = .ok (.if_icmp .ge 7, 3) := by decide +kernel
theorem dX6_ofTwo_73 : decode cX6_ofTwo 73 = .ok (.iconst 1, 1) := by decide +kernel
theorem dX6_ofTwo_74 : decode cX6_ofTwo 74 = .ok (.goto 4, 3) := by decide +kernel
theorem dX6_ofTwo_77 : decode cX6_ofTwo 77 = .ok (.iconst 0, 1) := by decide +kernel
theorem dX6_ofTwo_78 : decode cX6_ofTwo 78 = .ok (.ireturn, 1) := by decide +kernel
theorem dX6_ofTwo_79 : decode cX6_ofTwo 79 = .ok (.iload_n 1, 1) := by decide +kernel
theorem dX6_ofTwo_80 : decode cX6_ofTwo 80 = .ok (.iload_n 2, 1) := by decide +kernel
theorem dX6_ofTwo_81 : decode cX6_ofTwo 81 = .ok (.if_icmp .ne 7, 3) := by decide +kernel
theorem dX6_ofTwo_84 : decode cX6_ofTwo 84 = .ok (.iconst 1, 1) := by decide +kernel
theorem dX6_ofTwo_85 : decode cX6_ofTwo 85 = .ok (.goto 4, 3) := by decide +kernel
theorem dX6_ofTwo_88 : decode cX6_ofTwo 88 = .ok (.iconst 0, 1) := by decide +kernel
theorem dX6_ofTwo_89 : decode cX6_ofTwo 89 = .ok (.ireturn, 1) := by decide +kernel
theorem dX6_ofTwo_90 : decode cX6_ofTwo 90 = .ok (.iload_n 1, 1) := by decide +kernel
theorem dX6_ofTwo_91 : decode cX6_ofTwo 91 = .ok (.iload_n 2, 1) := by decide +kernel
theorem dX6_ofTwo_92 : decode cX6_ofTwo 92 = .ok (.iadd, 1) := by decide +kernel
theorem dX6_ofTwo_93 : decode cX6_ofTwo 93 = .ok (.ireturn, 1) := by decide +kernel
theorem dX6_ofTwo_94 : decode cX6_ofTwo 94 = .ok (.iload_n 1, 1) := by decide +kernel
theorem dX6_ofTwo_95 : decode cX6_ofTwo 95 = .ok (.iload_n 2, 1) := by decide +kernel
theorem dX6_ofTwo_96 : decode cX6_ofTwo 96 = .ok (.isub, 1) := by decide +kernel
theorem dX6_ofTwo_97 : decode cX6_ofTwo 97 = .ok (.ireturn, 1) := by decide +kernel
theorem dX6_ofTwo_98 : decode cX6_ofTwo 98 = .ok (.iload_n 1, 1) := by decide +kernel
theorem dX6_ofTwo_99 : decode cX6_ofTwo 99 = .ok (.iload_n 2, 1) := by decide +kernel
theorem dX6_ofTwo_100 : decode cX6_ofTwo 100 = .ok (.imul, 1) := by decide +kernel
theorem dX6_ofTwo_101 : decode cX6_ofTwo 101 = .ok (.ireturn, 1) := by decide +kernel
theorem dX6_push_0 : decode cX6_push 0 = .ok (.aload_n 0, 1) := by decide +kernel
theorem dX6_push_1 : decode cX6_push 1 = .ok (.getfield 25, 3) := by decide +kernel
theorem dX6_push_4 : decode cX6_push 4 = .ok (.bipush 40, 2) := by decide +kernel
theorem dX6_push_6 : decode cX6_push 6 = .ok (.if_icmp .lt 4, 3) := by decide +kernel
theorem dX6_push_9 : decode cX6_push 9 = .ok (.return_, 1) := by decide +kernel
theorem dX6_push_10 : decode cX6_push 10 = .ok (.aload_n 0, 1) := by decide +kernel
theorem dX6_push_11 : decode cX6_push 11 = .ok (.getfield 18, 3) := by decide +kernel
theorem dX6_push_14 : decode cX6_push 14 = .ok (.aload_n 0, 1) := by decide +kernel
theorem dX6_push_15 : decode cX6_push 15 = .ok (.getfield 25, 3) := by decide +kernel
theorem dX6_push_18 : decode cX6_push 18 = .ok (.iload_n 1, 1) := by decide +kernel
theorem dX6_push_19 : decode cX6_push 19 = .ok (.iastore, 1) := by decide +kernel
theorem dX6_push_20 : decode cX6_push 20 = .ok (.aload_n 0, 1) := by decide +kernel
theorem dX6_push_21 : decode cX6_push 21 = .ok (.dup, 1) := by decide +kernel
theorem dX6_push_22 : decode cX6_push 22 = .ok (.getfield 25, 3) := by decide +kernel
theorem dX6_push_25 : decode cX6_push 25 = .ok (.iconst 1, 1) := by decide +kernel
theorem dX6_push_26 : decode cX6_push 26 = .ok (.iadd, 1) := by decide +kernel
theorem dX6_push_27 : decode cX6_push 27 = .ok (.putfield 25, 3) := by decide +kernel
theorem dX6_push_30 : decode cX6_push 30 = .ok (.return_, 1) := by decide +kernel
theorem dX6_pop_0 : decode cX6_pop 0 = .ok (.aload_n 0, 1) := by decide +kernel
theorem dX6_pop_1 : decode cX6_pop 1 = .ok (.getfield 25, 3) := by decide +kernel
theorem dX6_pop_4 : decode cX6_pop 4 = .ok (.ifCond .le 12, 3) := by decide +kernel
theorem dX6_pop_7 : decode cX6_pop 7 = .ok (.aload_n 0, 1) := by decide +kernel
theorem dX6_pop_8 : decode cX6_pop 8 = .ok (.getfield 25, 3) := by decide +kernel
theorem dX6_pop_11 : decode cX6_pop 11 = .ok (.bipush 40, 2) := by decide +kernel
theorem dX6_pop_13 : decode cX6_pop 13 = .ok (.if_icmp .le 5, 3) := by decide +kernel
theorem dX6_pop_16 : decode cX6_pop 16 = .ok (.iconst 0, 1) := by decide +kernel
theorem dX6_pop_17 : decode cX6_pop 17 = .ok (.ireturn, 1) := by decide +kernel
theorem dX6_pop_18 : decode cX6_pop 18 = .ok (.aload_n 0, 1) := by decide +kernel
theorem dX6_pop_19 : decode cX6_pop 19 = .ok (.dup, 1) := by decide +kernel
theorem dX6_pop_20 : decode cX6_pop 20 = .ok (.getfield 25, 3) := by decide +kernel
theorem dX6_pop_23 : decode cX6_pop 23 = .ok (.iconst 1, 1) := by decide +kernel
theorem dX6_pop_24 : decode cX6_pop 24 = .ok (.isub, 1) := by decide +kernel
theorem dX6_pop_25 : decode cX6_pop 25 = .ok (.putfield 25, 3) := by decide +kernel
theorem dX6_pop_28 : decode cX6_pop 28 = .ok (.aload_n 0, 1) := by decide +kernel
theorem dX6_pop_29 : decode cX6_pop 29 = .ok (.getfield 18, 3) := by decide +kernel
theorem dX6_pop_32 : decode cX6_pop 32 = .ok (.aload_n 0, 1) := by decide +kernel
theorem dX6_pop_33 : decode cX6_pop 33 = .ok (.getfield 25, 3) := by decide +kernel
theorem dX6_pop_36 : decode cX6_pop 36 = .ok (.iaload, 1) := by decide +kernel
theorem dX6_pop_37 : decode cX6_pop 37 = .ok (.ireturn, 1) := by decide +kernel
theorem dX7_init_0 : decode cX7_init 0 = .ok (.aload_n 0, 1) := by decide +kernel
theorem dX7_init_1 : decode cX7_init 1 = .ok (.invokespecial 1, 3) := by decide +kernel
theorem dX7_init_4 : decode cX7_init 4 = .ok (.aload_n 0, 1) := by decide +kernel
theorem dX7_init_5 : decode cX7_init 5 = .ok (.new 7, 3) := by decide +kernel
theorem dX7_init_8 : decode cX7_init 8 = .ok (.dup, 1) := by decide +kernel
theorem dX7_init_9 : decode cX7_init 9 = .ok (.invokespecial 9, 3) := by decide +kernel
theorem dX7_init_12 : decode cX7_init 12 = .ok (.putfield 10, 3) := by decide +kernel
theorem dX7_init_15 : decode cX7_init 15 = .ok (.aload_n 0, 1) := by decide +kernel
theorem dX7_init_16 : decode cX7_init 16 = .ok (.new 16, 3) := by decide +kernel
theorem dX7_init_19 : decode cX7_init 19 = .ok (.dup, 1) := by decide +kernel
theorem dX7_init_20 : decode cX7_init 20 = .ok (.invokespecial 18, 3) := by decide +kernel
theorem dX7_init_23 : decode cX7_init 23 = .ok (.putfield 19, 3) := by decide +kernel
theorem dX7_init_26 : decode cX7_init 26 = .ok (.aload_n 0, 1) := by decide +kernel
theorem dX7_init_27 : decode cX7_init 27 = .ok (.new 23, 3) := by decide +kernel
theorem dX7_init_30 : decode cX7_init 30 = .ok (.dup, 1) := by decide +kernel
theorem dX7_init_31 : decode cX7_init 31 = .ok (.invokespecial 25, 3) := by decide +kernel
theorem dX7_init_34 : decode cX7_init 34 = .ok (.putfield 26, 3) := by decide +kernel
theorem dX7_init_37 : decode cX7_init 37 = .ok (.aload_n 0, 1) := by decide +kernel
theorem dX7_init_38 : decode cX7_init 38 = .ok (.bipush 6, 2) := by decide +kernel
theorem dX7_init_40 : decode cX7_init 40 = .ok (.anewarray 30, 3) := by decide +kernel
theorem dX7_init_43 : decode cX7_init 43 = .ok (.putfield 32, 3) := by decide +kernel
theorem dX7_init_46 : decode cX7_init 46 = .ok (.aload_n 0, 1) := by decide +kernel
theorem dX7_init_47 : decode cX7_init 47 = .ok (.iconst 4, 1) := by decide +kernel
theorem dX7_init_48 : decode cX7_init 48 = .ok (.anewarray 36, 3) := by decide +kernel
theorem dX7_init_51 : decode cX7_init 51 = .ok (.putfield 38, 3) := by decide +kernel
theorem dX7_init_54 : decode cX7_init 54 = .ok (.aload_n 0, 1) := by decide +kernel
theorem dX7_init_55 : decode cX7_init 55 = .ok (.iconst 0, 1) := by decide +kernel
theorem dX7_init_56 : decode cX7_init 56 = .ok (.putfield 42, 3) := by decide +kernel
theorem dX7_init_59 : decode cX7_init 59 = .ok (.aload_n 0, 1) := by decide +kernel
theorem dX7_init_60 : decode cX7_init 60 = .ok (.iconst 0, 1) := by decide +kernel
theorem dX7_init_61 : decode cX7_init 61 = .ok (.putfield 46, 3) := by decide +kernel
theorem dX7_init_64 : decode cX7_init 64 = .ok (.aload_n 0, 1) := by decide +kernel
theorem dX7_init_65 : decode cX7_init 65 = .ok (.iconst 0, 1) := by decide +kernel
theorem dX7_init_66 : decode cX7_init 66 = .ok (.putfield 49, 3) := by decide +kernel
theorem dX7_init_69 : decode cX7_init 69 = .ok (.aload_n 0, 1) := by decide +kernel
theorem dX7_init_70 : decode cX7_init 70 = .ok (.iconst 0, 1) := by decide +kernel
theorem dX7_init_71 : decode cX7_init 71 = .ok (.putfield 52, 3) := by decide +kernel
theorem dX7_init_74 : decode cX7_init 74 = .ok (.aload_n 0, 1) := by decide +kernel
theorem dX7_init_75 : decode cX7_init 75 = .ok (.iconst 0, 1) := by decide +kernel
theorem dX7_init_76 : decode cX7_init 76 = .ok (.putfield 56, 3) := by decide +kernel
theorem dX7_init_79 : decode cX7_init 79 = .ok (.aload_n 0, 1) := by decide +kernel
theorem dX7_init_80 : decode cX7_init 80 = .ok (.iconst 0, 1) := by decide +kernel
theorem dX7_init_81 : decode cX7_init 81 = .ok (.putfield 59, 3) := by decide +kernel
theorem dX7_init_84 : decode cX7_init 84 = .ok (.aload_n 0, 1) := by decide +kernel
theorem dX7_init_85 : decode cX7_init 85 = .ok (.iconst 0, 1) := by decide +kernel
theorem dX7_init_86 : decode cX7_init 86 = .ok (.putfield 62, 3) := by decide +kernel
theorem dX7_init_89 : decode cX7_init 89 = .ok (.iconst 0, 1) := by decide +kernel
theorem dX7_init_90 : decode cX7_init 90 = .ok (.istore_n 1, 1) := by decide +kernel
theorem dX7_init_91 : decode cX7_init 91 = .ok (.iload_n 1, 1) := by decide +kernel
theorem dX7_init_92 : decode cX7_init 92 = .ok (.iconst 4, 1) := by decide +kernel
theorem dX7_init_93 : decode cX7_init 93 = .ok (.if_icmp .ge 22, 3) := by decide +kernel
theorem dX7_init_96 : decode cX7_init 96 = .ok (.aload_n 0, 1) := by decide +kernel
theorem dX7_init_97 : decode cX7_init 97 = .ok (.getfield 38, 3) := by decide +kernel
theorem dX7_init_100 : decode cX7_init 100 = .ok (.iload_n 1, 1) := by decide +kernel
theorem dX7_init_101 : decode cX7_init 101 = .ok (.new 36, 3) := by decide +kernel
theorem dX7_init_104 : decode cX7_init 104 = .ok (.dup, 1) := by decide +kernel
theorem dX7_init_105 : decode cX7_init 105 = .ok (.invokespecial 65, 3) := by decide +kernel
theorem dX7_init_108 : decode cX7_init 108 = .ok (.aastore, 1) := by decide +kernel
theorem dX7_init_109 : decode cX7_init 109 = .ok (.iinc 1 1, 3) := by decide +kernel
theorem dX7_init_112 : decode cX7_init 112 = .ok (.goto (-21), 3) := by decide +kernel
theorem dX7_init_115 : decode cX7_init 115 = .ok (.iconst 0, 1) := by decide +kernel
theorem dX7_init_116 : decode cX7_init 116 = .ok (.istore_n 1, 1) := by decide +kernel
theorem dX7_init_117 : decode cX7_init 117 = .ok (.iload_n 1, 1) := by decide +kernel
theorem dX7_init_118 : decode cX7_init 118 = .ok (.bipush 6, 2) := by decide +kernel
theorem dX7_init_120 : decode cX7_init 120 = .ok (.if_icmp .ge 22, 3) := by decide +kernel
theorem dX7_init_123 : decode cX7_init 123 = .ok (.aload_n 0, 1) := by decide +kernel
theorem dX7_init_124 : decode cX7_init 124 = .ok (.getfield 32, 3) := by decide +kernel
theorem dX7_init_127 : decode cX7_init 127 = .ok (.iload_n 1, 1) := by decide +kernel
theorem dX7_init_128 : decode cX7_init 128 = .ok (.new 30, 3) := by decide +kernel
theorem dX7_init_131 : decode cX7_init 131 = .ok (.dup, 1) := by decide +kernel
theorem dX7_init_132 : decode cX7_init 132 = .ok (.invokespecial 66, 3) := by decide +kernel
theorem dX7_init_135 : decode cX7_init 135 = .ok (.aastore, 1) := by decide +kernel
theorem dX7_init_136 : decode cX7_init 136 = .ok (.iinc 1 1, 3) := by decide +kernel
theorem dX7_init_139 : decode cX7_init 139 = .ok (.goto (-22), 3) := by decide +kernel
theorem dX7_init_142 : decode cX7_init 142 = .ok (.iconst 0, 1) := by decide +kernel
theorem dX7_init_143 : decode cX7_init 143 = .ok (.istore_n 1, 1) := by decide +kernel
theorem dX7_init_144 : decode cX7_init 144 = .ok (.iload_n 1, 1) := by decide +kernel
theorem dX7_init_145 : decode cX7_init 145 = .ok (.ldc 67, 2) := by decide +kernel
theorem dX7_init_147 : decode cX7_init 147 = .ok (.invokevirtual 69, 3) := by decide +kernel
theorem dX7_init_150 : decode cX7_init 150 = .ok (.if_icmp .ge 22, 3) := by decide +kernel
theorem dX7_init_153 : decode cX7_init 153 = .ok (.aload_n 0, 1) := by decide +kernel
theorem dX7_init_154 : decode cX7_init 154 = .ok (.getfield 26, 3) := by decide +kernel
theorem dX7_init_157 : decode cX7_init 157 = .ok (.ldc 67, 2) := by decide +kernel
theorem dX7_init_159 : decode cX7_init 159 = .ok (.iload_n 1, 1) := by decide +kernel
theorem dX7_init_160 : decode cX7_init 160 = .ok (.invokevirtual 75, 3) := by decide +kernel
theorem dX7_init_163 : decode cX7_init 163 = .ok (.invokevirtual 79, 3) := by decide +kernel
theorem dX7_init_166 : decode cX7_init 166 = .ok (.iinc 1 1, 3) := by decide +kernel
theorem dX7_init_169 : decode cX7_init 169 = .ok (.goto (-25), 3) := by decide +kernel
theorem dX7_init_172 : decode cX7_init 172 = .ok (.aload_n 0, 1) := by decide +kernel
theorem dX7_init_173 : decode cX7_init 173 = .ok (.invokevirtual 83, 3) := by decide +kernel
theorem dX7_init_176 : decode cX7_init 176 = .ok (.pop, 1) := by decide +kernel
theorem dX7_init_177 : decode cX7_init 177 = .ok (.aload_n 0, 1) := by decide +kernel
theorem dX7_init_178 : decode cX7_init 178 = .ok (.iconst 0, 1) := by decide +kernel
theorem dX7_init_179 : decode cX7_init 179 = .ok (.invokevirtual 86, 3) := by decide +kernel
theorem dX7_init_182 : decode cX7_init 182 = .ok (.return_, 1) := by decide +kernel
theorem dX7_door_0 : decode cX7_door 0 = .ok (.iload_n 1, 1) := by decide +kernel
theorem dX7_door_1 : decode cX7_door 1 = .ok (.ifCond .lt 23, 3) := by decide +kernel
theorem dX7_door_4 : decode cX7_door 4 = .ok (.iload_n 1, 1) := by decide +kernel
theorem dX7_door_5 : decode cX7_door 5 = .ok (.bipush 6, 2) := by decide +kernel
theorem dX7_door_7 : decode cX7_door 7 = .ok (.if_icmp .ge 17, 3) := by decide +kernel
theorem dX7_door_10 : decode cX7_door 10 = .ok (.iload_n 2, 1) := by decide +kernel
theorem dX7_door_11 : decode cX7_door 11 = .ok (.ifCond .lt 13, 3) := by decide +kernel
theorem dX7_door_14 : decode cX7_door 14 = .ok (.iload_n 3, 1) := by decide +kernel
theorem dX7_door_15 : decode cX7_door 15 = .ok (.ifCond .lt 9, 3) := by decide +kernel
theorem dX7_door_18 : decode cX7_door 18 = .ok (.iload_n 3, 1) := by decide +kernel
theorem dX7_door_19 : decode cX7_door 19 = .ok (.bipush 9, 2) := by decide +kernel
theorem dX7_door_21 : decode cX7_door 21 = .ok (.if_icmp .le 6, 3) := by decide +kernel
theorem dX7_door_24 : decode cX7_door 24 = .ok (.bipush (-2), 2) := by decide +kernel
theorem dX7_door_26 : decode cX7_door 26 = .ok (.ireturn, 1) := by decide +kernel
theorem dX7_door_27 : decode cX7_door 27 = .ok (.iload_n 2, 1) := by decide +kernel
theorem dX7_door_28 : decode cX7_door 28 = .ok (.bipush 100, 2) := by decide +kernel
theorem dX7_door_30 : decode cX7_door 30 = .ok (.idiv, 1) := by decide +kernel
theorem dX7_door_31 : decode cX7_door 31 = .ok (.istore 4, 2) := by decide +kernel
theorem dX7_door_33 : decode cX7_door 33 = .ok (.iload_n 2, 1) := by decide +kernel
theorem dX7_door_34 : decode cX7_door 34 = .ok (.bipush 10, 2) := by decide +kernel
theorem dX7_door_36 : decode cX7_door 36 = .ok (.idiv, 1) := by decide +kernel
theorem dX7_door_37 : decode cX7_door 37 = .ok (.bipush 10, 2) := by decide +kernel
theorem dX7_door_39 : decode cX7_door 39 = .ok (.irem, 1) := by decide +kernel
theorem dX7_door_40 : decode cX7_door 40 = .ok (.istore 5, 2) := by decide +kernel
theorem dX7_door_42 : decode cX7_door 42 = .ok (.iload_n 2, 1) := by decide +kernel
theorem dX7_door_43 : decode cX7_door 43 = .ok (.bipush 10, 2) := by decide +kernel
theorem dX7_door_45 : decode cX7_door 45 = .ok (.irem, 1) := by decide +kernel
theorem dX7_door_46 : decode cX7_door 46 = .ok (.istore 6, 2) := by decide +kernel
theorem dX7_door_48 : decode cX7_door 48 = .ok (.aload_n 0, 1) := by decide +kernel
theorem dX7_door_49 : decode cX7_door 49 = .ok (.getfield 10, 3) := by decide +kernel
theorem dX7_door_52 : decode cX7_door 52 = .ok (.iload 4, 2) := by decide +kernel
theorem dX7_door_54 : decode cX7_door 54 = .ok (.invokevirtual 91, 3) := by decide +kernel
theorem dX7_door_57 : decode cX7_door 57 = .ok (.ifCond .eq 21, 3) := by decide +kernel
theorem dX7_door_60 : decode cX7_door 60 = .ok (.aload_n 0, 1) := by decide +kernel
theorem dX7_door_61 : decode cX7_door 61 = .ok (.getfield 10, 3) := by decide +kernel
theorem dX7_door_64 : decode cX7_door 64 = .ok (.iload 5, 2) := by decide +kernel
theorem dX7_door_66 : decode cX7_door 66 = .ok (.invokevirtual 91, 3) := by decide +kernel
theorem dX7_door_69 : decode cX7_door 69 = .ok (.ifCond .eq 9, 3) := by decide +kernel
theorem dX7_door_72 : decode cX7_door 72 = .ok (.iload 6, 2) := by decide +kernel
theorem dX7_door_74 : decode cX7_door 74 = .ok (.iconst 4, 1) := by decide +kernel
theorem dX7_door_75 : decode cX7_door 75 = .ok (.if_icmp .lt 6, 3) := by decide +kernel
theorem dX7_door_78 : decode cX7_door 78 = .ok (.bipush (-2), 2) := by decide +kernel
theorem dX7_door_80 : decode cX7_door 80 = .ok (.ireturn, 1) := by decide +kernel
theorem dX7_door_81 : decode cX7_door 81 = .ok (.aload_n 0, 1) := by decide +kernel
theorem dX7_door_82 : decode cX7_door 82 = .ok (.getfield 10, 3) := by decide +kernel
theorem dX7_door_85 : decode cX7_door 85 = .ok (.getfield 95, 3) := by decide +kernel
theorem dX7_door_88 : decode cX7_door 88 = .ok (.iconst 4, 1) := by decide +kernel
theorem dX7_door_89 : decode cX7_door 89 = .ok (.if_icmp .lt 6, 3) := by decide +kernel
theorem dX7_door_92 : decode cX7_door 92 = .ok (.bipush (-4), 2) := by decide +kernel
theorem dX7_door_94 : decode cX7_door 94 = .ok (.ireturn, 1) := by decide +kernel
theorem dX7_door_95 : decode cX7_door 95 = .ok (.aload_n 0, 1) := by decide +kernel
theorem dX7_door_96 : decode cX7_door 96 = .ok (.getfield 10, 3) := by decide +kernel
theorem dX7_door_99 : decode cX7_door 99 = .ok (.new 89, 3) := by decide +kernel
theorem dX7_door_102 : decode cX7_door 102 = .ok (.dup, 1) := by decide +kernel
theorem dX7_door_103 : decode cX7_door 103 = .ok (.iload_n 1, 1) := by decide +kernel
theorem dX7_door_104 : decode cX7_door 104 = .ok (.iload 4, 2) := by decide +kernel
theorem dX7_door_106 : decode cX7_door 106 = .ok (.iload 5, 2) := by decide +kernel
theorem dX7_door_108 : decode cX7_door 108 = .ok (.iload 6, 2) := by decide +kernel
theorem dX7_door_110 : decode cX7_door 110 = .ok (.iload_n 3, 1) := by decide +kernel
theorem dX7_door_111 : decode cX7_door 111 = .ok (.invokespecial 98, 3) := by decide +kernel
theorem dX7_door_114 : decode cX7_door 114 = .ok (.invokevirtual 101, 3) := by decide +kernel
theorem dX7_door_117 : decode cX7_door 117 = .ok (.ireturn, 1) := by decide +kernel
theorem dX7_set_0 : decode cX7_set 0 = .ok (.iload_n 1, 1) := by decide +kernel
theorem dX7_set_1 : decode cX7_set 1 = .ok (.tableswitch 56 0 3 #[31, 38, 44, 50], 31) := by decide +kernel
theorem dX7_set_32 : decode cX7_set 32 = .ok (.aload_n 0, 1) := by decide +kernel
theorem dX7_set_33 : decode cX7_set 33 = .ok (.iload_n 2, 1) := by decide +kernel
theorem dX7_set_34 : decode cX7_set 34 = .ok (.iload_n 3, 1) := by decide +kernel
theorem dX7_set_35 : decode cX7_set 35 = .ok (.invokevirtual 105, 3) := by decide +kernel
theorem dX7_set_38 : decode cX7_set 38 = .ok (.ireturn, 1) := by decide +kernel
theorem dX7_set_39 : decode cX7_set 39 = .ok (.aload_n 0, 1) := by decide +kernel
theorem dX7_set_40 : decode cX7_set 40 = .ok (.iload_n 3, 1) := by decide +kernel
theorem dX7_set_41 : decode cX7_set 41 = .ok (.invokevirtual 109, 3) := by decide +kernel
theorem dX7_set_44 : decode cX7_set 44 = .ok (.ireturn, 1) := by decide +kernel
theorem dX7_set_45 : decode cX7_set 45 = .ok (.aload_n 0, 1) := by decide +kernel
theorem dX7_set_46 : decode cX7_set 46 = .ok (.iload_n 3, 1) := by decide +kernel
theorem dX7_set_47 : decode cX7_set 47 = .ok (.invokevirtual 113, 3) := by decide +kernel
theorem dX7_set_50 : decode cX7_set 50 = .ok (.ireturn, 1) := by decide +kernel
theorem dX7_set_51 : decode cX7_set 51 = .ok (.aload_n 0, 1) := by decide +kernel
theorem dX7_set_52 : decode cX7_set 52 = .ok (.iload_n 3, 1) := by decide +kernel
theorem dX7_set_53 : decode cX7_set 53 = .ok (.invokevirtual 116, 3) := by decide +kernel
theorem dX7_set_56 : decode cX7_set 56 = .ok (.ireturn, 1) := by decide +kernel
theorem dX7_set_57 : decode cX7_set 57 = .ok (.bipush (-2), 2) := by decide +kernel
theorem dX7_set_59 : decode cX7_set 59 = .ok (.ireturn, 1) := by decide +kernel
theorem dX7_told_0 : decode cX7_told 0 = .ok (.aload_n 0, 1) := by decide +kernel
theorem dX7_told_1 : decode cX7_told 1 = .ok (.getfield 10, 3) := by decide +kernel
theorem dX7_told_4 : decode cX7_told 4 = .ok (.iload_n 1, 1) := by decide +kernel
theorem dX7_told_5 : decode cX7_told 5 = .ok (.invokevirtual 119, 3) := by decide +kernel
theorem dX7_told_8 : decode cX7_told 8 = .ok (.astore_n 3, 1) := by decide +kernel
theorem dX7_told_9 : decode cX7_told 9 = .ok (.aload_n 3, 1) := by decide +kernel
theorem dX7_told_10 : decode cX7_told 10 = .ok (.ifnonnull 6, 3) := by decide +kernel
theorem dX7_told_13 : decode cX7_told 13 = .ok (.bipush (-2), 2) := by decide +kernel
theorem dX7_told_15 : decode cX7_told 15 = .ok (.ireturn, 1) := by decide +kernel
theorem dX7_told_16 : decode cX7_told 16 = .ok (.iload_n 2, 1) := by decide +kernel
theorem dX7_told_17 : decode cX7_told 17 = .ok (.tableswitch 122 0 7 #[47, 52, 57, 62, 67, 76, 104, 117], 47) := by decide +kernel
theorem dX7_told_64 : decode cX7_told 64 = .ok (.aload_n 3, 1) := by decide +kernel
theorem dX7_told_65 : decode cX7_told 65 = .ok (.getfield 123, 3) := by decide +kernel
theorem dX7_told_68 : decode cX7_told 68 = .ok (.ireturn, 1) := by decide +kernel
theorem dX7_told_69 : decode cX7_told 69 = .ok (.aload_n 3, 1) := by decide +kernel
theorem dX7_told_70 : decode cX7_told 70 = .ok (.getfield 126, 3) := by decide +kernel
theorem dX7_told_73 : decode cX7_told 73 = .ok (.ireturn, 1) := by decide +kernel
theorem dX7_told_74 : decode cX7_told 74 = .ok (.aload_n 3, 1) := by decide +kernel
theorem dX7_told_75 : decode cX7_told 75 = .ok (.getfield 129, 3) := by decide +kernel
theorem dX7_told_78 : decode cX7_told 78 = .ok (.ireturn, 1) := by decide +kernel
theorem dX7_told_79 : decode cX7_told 79 = .ok (.aload_n 3, 1) := by decide +kernel
theorem dX7_told_80 : decode cX7_told 80 = .ok (.getfield 132, 3) := by decide +kernel
theorem dX7_told_83 : decode cX7_told 83 = .ok (.ireturn, 1) := by decide +kernel
theorem dX7_told_84 : decode cX7_told 84 = .ok (.aload_n 0, 1) := by decide +kernel
theorem dX7_told_85 : decode cX7_told 85 = .ok (.getfield 49, 3) := by decide +kernel
theorem dX7_told_88 : decode cX7_told 88 = .ok (.iload_n 1, 1) := by decide +kernel
theorem dX7_told_89 : decode cX7_told 89 = .ok (.invokestatic 135, 3) := by decide +kernel
theorem dX7_told_92 : decode cX7_told 92 = .ok (.ireturn, 1) := by decide +kernel
theorem dX7_told_93 : decode cX7_told 93 = .ok (.aload_n 0, 1) := by decide +kernel
theorem dX7_told_94 : decode cX7_told 94 = .ok (.getfield 10, 3) := by decide +kernel
theorem dX7_told_97 : decode cX7_told 97 = .ok (.aload_n 0, 1) := by decide +kernel
theorem dX7_told_98 : decode cX7_told 98 = .ok (.getfield 49, 3) := by decide +kernel
theorem dX7_told_101 : decode cX7_told 101 = .ok (.aload_n 3, 1) := by decide +kernel
theorem dX7_told_102 : decode cX7_told 102 = .ok (.getfield 126, 3) := by decide +kernel
theorem dX7_told_105 : decode cX7_told 105 = .ok (.invokestatic 140, 3) := by decide +kernel
theorem dX7_told_108 : decode cX7_told 108 = .ok (.iload_n 1, 1) := by decide +kernel
theorem dX7_told_109 : decode cX7_told 109 = .ok (.invokevirtual 143, 3) := by decide +kernel
theorem dX7_told_112 : decode cX7_told 112 = .ok (.ifCond .eq 7, 3) := by decide +kernel
theorem dX7_told_115 : decode cX7_told 115 = .ok (.iconst 1, 1) := by decide +kernel
theorem dX7_told_116 : decode cX7_told 116 = .ok (.goto 4, 3) := by decide +kernel
theorem dX7_told_119 : decode cX7_told 119 = .ok (.iconst 0, 1) := by decide +kernel
theorem dX7_told_120 : decode cX7_told 120 = .ok (.ireturn, 1) := by decide +kernel
theorem dX7_told_121 : decode cX7_told 121 = .ok (.aload_n 3, 1) := by decide +kernel
theorem dX7_told_122 : decode cX7_told 122 = .ok (.aload_n 0, 1) := by decide +kernel
theorem dX7_told_123 : decode cX7_told 123 = .ok (.getfield 49, 3) := by decide +kernel
theorem dX7_told_126 : decode cX7_told 126 = .ok (.iload_n 1, 1) := by decide +kernel
theorem dX7_told_127 : decode cX7_told 127 = .ok (.invokestatic 135, 3) := by decide +kernel
theorem dX7_told_130 : decode cX7_told 130 = .ok (.invokevirtual 147, 3) := by decide +kernel
theorem dX7_told_133 : decode cX7_told 133 = .ok (.ireturn, 1) := by decide +kernel
theorem dX7_told_134 : decode cX7_told 134 = .ok (.aload_n 3, 1) := by decide +kernel
theorem dX7_told_135 : decode cX7_told 135 = .ok (.getfield 150, 3) := by decide +kernel
theorem dX7_told_138 : decode cX7_told 138 = .ok (.ireturn, 1) := by decide +kernel
theorem dX7_told_139 : decode cX7_told 139 = .ok (.bipush (-2), 2) := by decide +kernel
theorem dX7_told_141 : decode cX7_told 141 = .ok (.ireturn, 1) := by decide +kernel
theorem dX7_open_0 : decode cX7_open 0 = .ok (.aload_n 0, 1) := by decide +kernel
theorem dX7_open_1 : decode cX7_open 1 = .ok (.getfield 10, 3) := by decide +kernel
theorem dX7_open_4 : decode cX7_open 4 = .ok (.aload_n 0, 1) := by decide +kernel
theorem dX7_open_5 : decode cX7_open 5 = .ok (.getfield 49, 3) := by decide +kernel
theorem dX7_open_8 : decode cX7_open 8 = .ok (.invokevirtual 153, 3) := by decide +kernel
theorem dX7_open_11 : decode cX7_open 11 = .ok (.ireturn, 1) := by decide +kernel
theorem dX7_feed_0 : decode cX7_feed 0 = .ok (.iload_n 1, 1) := by decide +kernel
theorem dX7_feed_1 : decode cX7_feed 1 = .ok (.iconst 1, 1) := by decide +kernel
theorem dX7_feed_2 : decode cX7_feed 2 = .ok (.if_icmp .lt 9, 3) := by decide +kernel
theorem dX7_feed_5 : decode cX7_feed 5 = .ok (.iload_n 1, 1) := by decide +kernel
theorem dX7_feed_6 : decode cX7_feed 6 = .ok (.bipush 8, 2) := by decide +kernel
theorem dX7_feed_8 : decode cX7_feed 8 = .ok (.if_icmp .le 6, 3) := by decide +kernel
theorem dX7_feed_11 : decode cX7_feed 11 = .ok (.bipush (-2), 2) := by decide +kernel
theorem dX7_feed_13 : decode cX7_feed 13 = .ok (.ireturn, 1) := by decide +kernel
theorem dX7_feed_14 : decode cX7_feed 14 = .ok (.iload_n 1, 1) := by decide +kernel
theorem dX7_feed_15 : decode cX7_feed 15 = .ok (.sipush 160, 3) := by decide +kernel
theorem dX7_feed_18 : decode cX7_feed 18 = .ok (.aload_n 0, 1) := by decide +kernel
theorem dX7_feed_19 : decode cX7_feed 19 = .ok (.getfield 26, 3) := by decide +kernel
theorem dX7_feed_22 : decode cX7_feed 22 = .ok (.getfield 156, 3) := by decide +kernel
theorem dX7_feed_25 : decode cX7_feed 25 = .ok (.isub, 1) := by decide +kernel
theorem dX7_feed_26 : decode cX7_feed 26 = .ok (.if_icmp .le 6, 3) := by decide +kernel
theorem dX7_feed_29 : decode cX7_feed 29 = .ok (.bipush (-4), 2) := by decide +kernel
theorem dX7_feed_31 : decode cX7_feed 31 = .ok (.ireturn, 1) := by decide +kernel
theorem dX7_feed_32 : decode cX7_feed 32 = .ok (.iconst 0, 1) := by decide +kernel
theorem dX7_feed_33 : decode cX7_feed 33 = .ok (.istore 4, 2) := by decide +kernel
theorem dX7_feed_35 : decode cX7_feed 35 = .ok (.iload 4, 2) := by decide +kernel
theorem dX7_feed_37 : decode cX7_feed 37 = .ok (.iload_n 1, 1) := by decide +kernel
theorem dX7_feed_38 : decode cX7_feed 38 = .ok (.if_icmp .ge 28, 3) := by decide +kernel
theorem dX7_feed_41 : decode cX7_feed 41 = .ok (.aload_n 0, 1) := by decide +kernel
theorem dX7_feed_42 : decode cX7_feed 42 = .ok (.getfield 26, 3) := by decide +kernel
theorem dX7_feed_45 : decode cX7_feed 45 = .ok (.lload_n 2, 1) := by decide +kernel
theorem dX7_feed_46 : decode cX7_feed 46 = .ok (.bipush 8, 2) := by decide +kernel
theorem dX7_feed_48 : decode cX7_feed 48 = .ok (.iload 4, 2) := by decide +kernel
theorem dX7_feed_50 : decode cX7_feed 50 = .ok (.imul, 1) := by decide +kernel
theorem dX7_feed_51 : decode cX7_feed 51 = .ok (.lshr, 1) := by decide +kernel
theorem dX7_feed_52 : decode cX7_feed 52 = .ok (.l2i, 1) := by decide +kernel
theorem dX7_feed_53 : decode cX7_feed 53 = .ok (.sipush 255, 3) := by decide +kernel
theorem dX7_feed_56 : decode cX7_feed 56 = .ok (.iand, 1) := by decide +kernel
theorem dX7_feed_57 : decode cX7_feed 57 = .ok (.invokevirtual 79, 3) := by decide +kernel
theorem dX7_feed_60 : decode cX7_feed 60 = .ok (.iinc 4 1, 3) := by decide +kernel
theorem dX7_feed_63 : decode cX7_feed 63 = .ok (.goto (-28), 3) := by decide +kernel
theorem dX7_feed_66 : decode cX7_feed 66 = .ok (.aload_n 0, 1) := by decide +kernel
theorem dX7_feed_67 : decode cX7_feed 67 = .ok (.getfield 26, 3) := by decide +kernel
theorem dX7_feed_70 : decode cX7_feed 70 = .ok (.getfield 156, 3) := by decide +kernel
theorem dX7_feed_73 : decode cX7_feed 73 = .ok (.ireturn, 1) := by decide +kernel
theorem dX7_text_0 : decode cX7_text 0 = .ok (.aload_n 0, 1) := by decide +kernel
theorem dX7_text_1 : decode cX7_text 1 = .ok (.invokevirtual 83, 3) := by decide +kernel
theorem dX7_text_4 : decode cX7_text 4 = .ok (.ireturn, 1) := by decide +kernel
theorem dX7_force_0 : decode cX7_force 0 = .ok (.iload_n 1, 1) := by decide +kernel
theorem dX7_force_1 : decode cX7_force 1 = .ok (.ifCond .lt 11, 3) := by decide +kernel
theorem dX7_force_4 : decode cX7_force 4 = .ok (.iload_n 1, 1) := by decide +kernel
theorem dX7_force_5 : decode cX7_force 5 = .ok (.aload_n 0, 1) := by decide +kernel
theorem dX7_force_6 : decode cX7_force 6 = .ok (.getfield 42, 3) := by decide +kernel
theorem dX7_force_9 : decode cX7_force 9 = .ok (.if_icmp .lt 6, 3) := by decide +kernel
theorem dX7_force_12 : decode cX7_force 12 = .ok (.bipush (-2), 2) := by decide +kernel
theorem dX7_force_14 : decode cX7_force 14 = .ok (.ireturn, 1) := by decide +kernel
theorem dX7_force_15 : decode cX7_force 15 = .ok (.aload_n 0, 1) := by decide +kernel
theorem dX7_force_16 : decode cX7_force 16 = .ok (.getfield 46, 3) := by decide +kernel
theorem dX7_force_19 : decode cX7_force 19 = .ok (.istore_n 2, 1) := by decide +kernel
theorem dX7_force_20 : decode cX7_force 20 = .ok (.aload_n 0, 1) := by decide +kernel
theorem dX7_force_21 : decode cX7_force 21 = .ok (.iload_n 1, 1) := by decide +kernel
theorem dX7_force_22 : decode cX7_force 22 = .ok (.invokevirtual 86, 3) := by decide +kernel
theorem dX7_force_25 : decode cX7_force 25 = .ok (.iload_n 2, 1) := by decide +kernel
theorem dX7_force_26 : decode cX7_force 26 = .ok (.ireturn, 1) := by decide +kernel
theorem dX7_well_0 : decode cX7_well 0 = .ok (.aload_n 0, 1) := by decide +kernel
theorem dX7_well_1 : decode cX7_well 1 = .ok (.getfield 10, 3) := by decide +kernel
theorem dX7_well_4 : decode cX7_well 4 = .ok (.aload_n 0, 1) := by decide +kernel
theorem dX7_well_5 : decode cX7_well 5 = .ok (.getfield 49, 3) := by decide +kernel
theorem dX7_well_8 : decode cX7_well 8 = .ok (.invokevirtual 159, 3) := by decide +kernel
theorem dX7_well_11 : decode cX7_well 11 = .ok (.ifCond .eq 7, 3) := by decide +kernel
theorem dX7_well_14 : decode cX7_well 14 = .ok (.iconst 1, 1) := by decide +kernel
theorem dX7_well_15 : decode cX7_well 15 = .ok (.goto 4, 3) := by decide +kernel
theorem dX7_well_18 : decode cX7_well 18 = .ok (.iconst 0, 1) := by decide +kernel
theorem dX7_well_19 : decode cX7_well 19 = .ok (.ireturn, 1) := by decide +kernel
theorem dX7_go_0 : decode cX7_go 0 = .ok (.aload_n 0, 1) := by decide +kernel
theorem dX7_go_1 : decode cX7_go 1 = .ok (.getfield 10, 3) := by decide +kernel
theorem dX7_go_4 : decode cX7_go 4 = .ok (.iload_n 1, 1) := by decide +kernel
theorem dX7_go_5 : decode cX7_go 5 = .ok (.invokevirtual 119, 3) := by decide +kernel
theorem dX7_go_8 : decode cX7_go 8 = .ok (.ifnonnull 6, 3) := by decide +kernel
theorem dX7_go_11 : decode cX7_go 11 = .ok (.bipush (-2), 2) := by decide +kernel
theorem dX7_go_13 : decode cX7_go 13 = .ok (.ireturn, 1) := by decide +kernel
theorem dX7_go_14 : decode cX7_go 14 = .ok (.aload_n 0, 1) := by decide +kernel
theorem dX7_go_15 : decode cX7_go 15 = .ok (.getfield 10, 3) := by decide +kernel
theorem dX7_go_18 : decode cX7_go 18 = .ok (.aload_n 0, 1) := by decide +kernel
theorem dX7_go_19 : decode cX7_go 19 = .ok (.getfield 49, 3) := by decide +kernel
theorem dX7_go_22 : decode cX7_go 22 = .ok (.iload_n 1, 1) := by decide +kernel
theorem dX7_go_23 : decode cX7_go 23 = .ok (.invokevirtual 162, 3) := by decide +kernel
theorem dX7_go_26 : decode cX7_go 26 = .ok (.istore_n 2, 1) := by decide +kernel
theorem dX7_go_27 : decode cX7_go 27 = .ok (.iload_n 2, 1) := by decide +kernel
theorem dX7_go_28 : decode cX7_go 28 = .ok (.iconst (-1), 1) := by decide +kernel
theorem dX7_go_29 : decode cX7_go 29 = .ok (.if_icmp .ne 6, 3) := by decide +kernel
theorem dX7_go_32 : decode cX7_go 32 = .ok (.bipush (-3), 2) := by decide +kernel
theorem dX7_go_34 : decode cX7_go 34 = .ok (.ireturn, 1) := by decide +kernel
theorem dX7_go_35 : decode cX7_go 35 = .ok (.aload_n 0, 1) := by decide +kernel
theorem dX7_go_36 : decode cX7_go 36 = .ok (.iload_n 2, 1) := by decide +kernel
theorem dX7_go_37 : decode cX7_go 37 = .ok (.putfield 49, 3) := by decide +kernel
theorem dX7_go_40 : decode cX7_go 40 = .ok (.aload_n 0, 1) := by decide +kernel
theorem dX7_go_41 : decode cX7_go 41 = .ok (.getfield 49, 3) := by decide +kernel
theorem dX7_go_44 : decode cX7_go 44 = .ok (.invokestatic 165, 3) := by decide +kernel
theorem dX7_go_47 : decode cX7_go 47 = .ok (.ireturn, 1) := by decide +kernel
theorem dX7_come_0 : decode cX7_come 0 = .ok (.iload_n 1, 1) := by decide +kernel
theorem dX7_come_1 : decode cX7_come 1 = .ok (.ifCond .lt 8, 3) := by decide +kernel
theorem dX7_come_4 : decode cX7_come 4 = .ok (.iload_n 1, 1) := by decide +kernel
theorem dX7_come_5 : decode cX7_come 5 = .ok (.iconst 3, 1) := by decide +kernel
theorem dX7_come_6 : decode cX7_come 6 = .ok (.if_icmp .le 6, 3) := by decide +kernel
theorem dX7_come_9 : decode cX7_come 9 = .ok (.bipush (-2), 2) := by decide +kernel
theorem dX7_come_11 : decode cX7_come 11 = .ok (.ireturn, 1) := by decide +kernel
theorem dX7_come_12 : decode cX7_come 12 = .ok (.aload_n 0, 1) := by decide +kernel
theorem dX7_come_13 : decode cX7_come 13 = .ok (.getfield 19, 3) := by decide +kernel
theorem dX7_come_16 : decode cX7_come 16 = .ok (.aload_n 0, 1) := by decide +kernel
theorem dX7_come_17 : decode cX7_come 17 = .ok (.getfield 10, 3) := by decide +kernel
theorem dX7_come_20 : decode cX7_come 20 = .ok (.aload_n 0, 1) := by decide +kernel
theorem dX7_come_21 : decode cX7_come 21 = .ok (.getfield 49, 3) := by decide +kernel
theorem dX7_come_24 : decode cX7_come 24 = .ok (.invokevirtual 168, 3) := by decide +kernel
theorem dX7_come_27 : decode cX7_come 27 = .ok (.iload_n 1, 1) := by decide +kernel
theorem dX7_come_28 : decode cX7_come 28 = .ok (.tableswitch 52 0 2 #[28, 36, 44], 28) := by decide +kernel
theorem dX7_come_56 : decode cX7_come 56 = .ok (.aload_n 0, 1) := by decide +kernel
theorem dX7_come_57 : decode cX7_come 57 = .ok (.getfield 19, 3) := by decide +kernel
theorem dX7_come_60 : decode cX7_come 60 = .ok (.invokevirtual 172, 3) := by decide +kernel
theorem dX7_come_63 : decode cX7_come 63 = .ok (.ireturn, 1) := by decide +kernel
theorem dX7_come_64 : decode cX7_come 64 = .ok (.aload_n 0, 1) := by decide +kernel
theorem dX7_come_65 : decode cX7_come 65 = .ok (.getfield 19, 3) := by decide +kernel
theorem dX7_come_68 : decode cX7_come 68 = .ok (.getfield 175, 3) := by decide +kernel
theorem dX7_come_71 : decode cX7_come 71 = .ok (.ireturn, 1) := by decide +kernel
theorem dX7_come_72 : decode cX7_come 72 = .ok (.aload_n 0, 1) := by decide +kernel
theorem dX7_come_73 : decode cX7_come 73 = .ok (.getfield 19, 3) := by decide +kernel
theorem dX7_come_76 : decode cX7_come 76 = .ok (.invokevirtual 176, 3) := by decide +kernel
theorem dX7_come_79 : decode cX7_come 79 = .ok (.ireturn, 1) := by decide +kernel
theorem dX7_come_80 : decode cX7_come 80 = .ok (.aload_n 0, 1) := by decide +kernel
theorem dX7_come_81 : decode cX7_come 81 = .ok (.getfield 19, 3) := by decide +kernel
theorem dX7_come_84 : decode cX7_come 84 = .ok (.aload_n 0, 1) := by decide +kernel
theorem dX7_come_85 : decode cX7_come 85 = .ok (.getfield 10, 3) := by decide +kernel
theorem dX7_come_88 : decode cX7_come 88 = .ok (.invokevirtual 179, 3) := by decide +kernel
theorem dX7_come_91 : decode cX7_come 91 = .ok (.ireturn, 1) := by decide +kernel
theorem dX7_shortest_0 : decode cX7_shortest 0 = .ok (.aload_n 0, 1) := by decide +kernel
theorem dX7_shortest_1 : decode cX7_shortest 1 = .ok (.getfield 10, 3) := by decide +kernel
theorem dX7_shortest_4 : decode cX7_shortest 4 = .ok (.iload_n 1, 1) := by decide +kernel
theorem dX7_shortest_5 : decode cX7_shortest 5 = .ok (.invokevirtual 91, 3) := by decide +kernel
theorem dX7_shortest_8 : decode cX7_shortest 8 = .ok (.ifCond .ne 6, 3) := by decide +kernel
theorem dX7_shortest_11 : decode cX7_shortest 11 = .ok (.bipush (-2), 2) := by decide +kernel
theorem dX7_shortest_13 : decode cX7_shortest 13 = .ok (.ireturn, 1) := by decide +kernel
theorem dX7_shortest_14 : decode cX7_shortest 14 = .ok (.aload_n 0, 1) := by decide +kernel
theorem dX7_shortest_15 : decode cX7_shortest 15 = .ok (.getfield 19, 3) := by decide +kernel
theorem dX7_shortest_18 : decode cX7_shortest 18 = .ok (.aload_n 0, 1) := by decide +kernel
theorem dX7_shortest_19 : decode cX7_shortest 19 = .ok (.getfield 10, 3) := by decide +kernel
theorem dX7_shortest_22 : decode cX7_shortest 22 = .ok (.aload_n 0, 1) := by decide +kernel
theorem dX7_shortest_23 : decode cX7_shortest 23 = .ok (.getfield 49, 3) := by decide +kernel
theorem dX7_shortest_26 : decode cX7_shortest 26 = .ok (.invokevirtual 168, 3) := by decide +kernel
theorem dX7_shortest_29 : decode cX7_shortest 29 = .ok (.aload_n 0, 1) := by decide +kernel
theorem dX7_shortest_30 : decode cX7_shortest 30 = .ok (.getfield 19, 3) := by decide +kernel
theorem dX7_shortest_33 : decode cX7_shortest 33 = .ok (.aload_n 0, 1) := by decide +kernel
theorem dX7_shortest_34 : decode cX7_shortest 34 = .ok (.getfield 19, 3) := by decide +kernel
theorem dX7_shortest_37 : decode cX7_shortest 37 = .ok (.iload_n 1, 1) := by decide +kernel
theorem dX7_shortest_38 : decode cX7_shortest 38 = .ok (.invokevirtual 183, 3) := by decide +kernel
theorem dX7_shortest_41 : decode cX7_shortest 41 = .ok (.invokevirtual 186, 3) := by decide +kernel
theorem dX7_shortest_44 : decode cX7_shortest 44 = .ok (.ireturn, 1) := by decide +kernel
theorem dX7_first_0 : decode cX7_first 0 = .ok (.aload_n 0, 1) := by decide +kernel
theorem dX7_first_1 : decode cX7_first 1 = .ok (.getfield 10, 3) := by decide +kernel
theorem dX7_first_4 : decode cX7_first 4 = .ok (.iload_n 1, 1) := by decide +kernel
theorem dX7_first_5 : decode cX7_first 5 = .ok (.invokevirtual 91, 3) := by decide +kernel
theorem dX7_first_8 : decode cX7_first 8 = .ok (.ifCond .ne 6, 3) := by decide +kernel
theorem dX7_first_11 : decode cX7_first 11 = .ok (.bipush (-2), 2) := by decide +kernel
theorem dX7_first_13 : decode cX7_first 13 = .ok (.ireturn, 1) := by decide +kernel
theorem dX7_first_14 : decode cX7_first 14 = .ok (.aload_n 0, 1) := by decide +kernel
theorem dX7_first_15 : decode cX7_first 15 = .ok (.getfield 19, 3) := by decide +kernel
theorem dX7_first_18 : decode cX7_first 18 = .ok (.aload_n 0, 1) := by decide +kernel
theorem dX7_first_19 : decode cX7_first 19 = .ok (.getfield 10, 3) := by decide +kernel
theorem dX7_first_22 : decode cX7_first 22 = .ok (.aload_n 0, 1) := by decide +kernel
theorem dX7_first_23 : decode cX7_first 23 = .ok (.getfield 49, 3) := by decide +kernel
theorem dX7_first_26 : decode cX7_first 26 = .ok (.invokevirtual 168, 3) := by decide +kernel
theorem dX7_first_29 : decode cX7_first 29 = .ok (.aload_n 0, 1) := by decide +kernel
theorem dX7_first_30 : decode cX7_first 30 = .ok (.getfield 19, 3) := by decide +kernel
theorem dX7_first_33 : decode cX7_first 33 = .ok (.aload_n 0, 1) := by decide +kernel
theorem dX7_first_34 : decode cX7_first 34 = .ok (.getfield 10, 3) := by decide +kernel
theorem dX7_first_37 : decode cX7_first 37 = .ok (.aload_n 0, 1) := by decide +kernel
theorem dX7_first_38 : decode cX7_first 38 = .ok (.getfield 19, 3) := by decide +kernel
theorem dX7_first_41 : decode cX7_first 41 = .ok (.iload_n 1, 1) := by decide +kernel
theorem dX7_first_42 : decode cX7_first 42 = .ok (.invokevirtual 183, 3) := by decide +kernel
theorem dX7_first_45 : decode cX7_first 45 = .ok (.iload_n 2, 1) := by decide +kernel
theorem dX7_first_46 : decode cX7_first 46 = .ok (.invokevirtual 189, 3) := by decide +kernel
theorem dX7_first_49 : decode cX7_first 49 = .ok (.ireturn, 1) := by decide +kernel
theorem dX7_shutIn_0 : decode cX7_shutIn 0 = .ok (.aload_n 0, 1) := by decide +kernel
theorem dX7_shutIn_1 : decode cX7_shutIn 1 = .ok (.getfield 10, 3) := by decide +kernel
theorem dX7_shutIn_4 : decode cX7_shutIn 4 = .ok (.iload_n 1, 1) := by decide +kernel
theorem dX7_shutIn_5 : decode cX7_shutIn 5 = .ok (.invokevirtual 91, 3) := by decide +kernel
theorem dX7_shutIn_8 : decode cX7_shutIn 8 = .ok (.ifCond .ne 6, 3) := by decide +kernel
theorem dX7_shutIn_11 : decode cX7_shutIn 11 = .ok (.bipush (-2), 2) := by decide +kernel
theorem dX7_shutIn_13 : decode cX7_shutIn 13 = .ok (.ireturn, 1) := by decide +kernel
theorem dX7_shutIn_14 : decode cX7_shutIn 14 = .ok (.aload_n 0, 1) := by decide +kernel
theorem dX7_shutIn_15 : decode cX7_shutIn 15 = .ok (.getfield 19, 3) := by decide +kernel
theorem dX7_shutIn_18 : decode cX7_shutIn 18 = .ok (.aload_n 0, 1) := by decide +kernel
theorem dX7_shutIn_19 : decode cX7_shutIn 19 = .ok (.getfield 10, 3) := by decide +kernel
theorem dX7_shutIn_22 : decode cX7_shutIn 22 = .ok (.aload_n 0, 1) := by decide +kernel
theorem dX7_shutIn_23 : decode cX7_shutIn 23 = .ok (.getfield 49, 3) := by decide +kernel
theorem dX7_shutIn_26 : decode cX7_shutIn 26 = .ok (.invokevirtual 168, 3) := by decide +kernel
theorem dX7_shutIn_29 : decode cX7_shutIn 29 = .ok (.aload_n 0, 1) := by decide +kernel
theorem dX7_shutIn_30 : decode cX7_shutIn 30 = .ok (.getfield 19, 3) := by decide +kernel
theorem dX7_shutIn_33 : decode cX7_shutIn 33 = .ok (.aload_n 0, 1) := by decide +kernel
theorem dX7_shutIn_34 : decode cX7_shutIn 34 = .ok (.getfield 10, 3) := by decide +kernel
theorem dX7_shutIn_37 : decode cX7_shutIn 37 = .ok (.iload_n 1, 1) := by decide +kernel
theorem dX7_shutIn_38 : decode cX7_shutIn 38 = .ok (.invokevirtual 193, 3) := by decide +kernel
theorem dX7_shutIn_41 : decode cX7_shutIn 41 = .ok (.ireturn, 1) := by decide +kernel
theorem dX7_wished_0 : decode cX7_wished 0 = .ok (.aload_n 0, 1) := by decide +kernel
theorem dX7_wished_1 : decode cX7_wished 1 = .ok (.getfield 19, 3) := by decide +kernel
theorem dX7_wished_4 : decode cX7_wished 4 = .ok (.aload_n 0, 1) := by decide +kernel
theorem dX7_wished_5 : decode cX7_wished 5 = .ok (.getfield 10, 3) := by decide +kernel
theorem dX7_wished_8 : decode cX7_wished 8 = .ok (.aload_n 0, 1) := by decide +kernel
theorem dX7_wished_9 : decode cX7_wished 9 = .ok (.getfield 49, 3) := by decide +kernel
theorem dX7_wished_12 : decode cX7_wished 12 = .ok (.invokevirtual 168, 3) := by decide +kernel
theorem dX7_wished_15 : decode cX7_wished 15 = .ok (.aload_n 0, 1) := by decide +kernel
theorem dX7_wished_16 : decode cX7_wished 16 = .ok (.getfield 19, 3) := by decide +kernel
theorem dX7_wished_19 : decode cX7_wished 19 = .ok (.aload_n 0, 1) := by decide +kernel
theorem dX7_wished_20 : decode cX7_wished 20 = .ok (.getfield 19, 3) := by decide +kernel
theorem dX7_wished_23 : decode cX7_wished 23 = .ok (.aload_n 0, 1) := by decide +kernel
theorem dX7_wished_24 : decode cX7_wished 24 = .ok (.getfield 10, 3) := by decide +kernel
theorem dX7_wished_27 : decode cX7_wished 27 = .ok (.invokevirtual 197, 3) := by decide +kernel
theorem dX7_wished_30 : decode cX7_wished 30 = .ok (.invokevirtual 186, 3) := by decide +kernel
theorem dX7_wished_33 : decode cX7_wished 33 = .ok (.ireturn, 1) := by decide +kernel
theorem dX7_found_0 : decode cX7_found 0 = .ok (.aload_n 0, 1) := by decide +kernel
theorem dX7_found_1 : decode cX7_found 1 = .ok (.getfield 19, 3) := by decide +kernel
theorem dX7_found_4 : decode cX7_found 4 = .ok (.aload_n 0, 1) := by decide +kernel
theorem dX7_found_5 : decode cX7_found 5 = .ok (.getfield 10, 3) := by decide +kernel
theorem dX7_found_8 : decode cX7_found 8 = .ok (.aload_n 0, 1) := by decide +kernel
theorem dX7_found_9 : decode cX7_found 9 = .ok (.getfield 49, 3) := by decide +kernel
theorem dX7_found_12 : decode cX7_found 12 = .ok (.invokevirtual 168, 3) := by decide +kernel
theorem dX7_found_15 : decode cX7_found 15 = .ok (.aload_n 0, 1) := by decide +kernel
theorem dX7_found_16 : decode cX7_found 16 = .ok (.getfield 19, 3) := by decide +kernel
theorem dX7_found_19 : decode cX7_found 19 = .ok (.aload_n 0, 1) := by decide +kernel
theorem dX7_found_20 : decode cX7_found 20 = .ok (.getfield 10, 3) := by decide +kernel
theorem dX7_found_23 : decode cX7_found 23 = .ok (.aload_n 0, 1) := by decide +kernel
theorem dX7_found_24 : decode cX7_found 24 = .ok (.getfield 49, 3) := by decide +kernel
theorem dX7_found_27 : decode cX7_found 27 = .ok (.invokevirtual 200, 3) := by decide +kernel
theorem dX7_found_30 : decode cX7_found 30 = .ok (.ireturn, 1) := by decide +kernel
theorem dX7_judge_0 : decode cX7_judge 0 = .ok (.aload_n 0, 1) := by decide +kernel
theorem dX7_judge_1 : decode cX7_judge 1 = .ok (.iload_n 1, 1) := by decide +kernel
theorem dX7_judge_2 : decode cX7_judge 2 = .ok (.invokevirtual 203, 3) := by decide +kernel
theorem dX7_judge_5 : decode cX7_judge 5 = .ok (.astore_n 2, 1) := by decide +kernel
theorem dX7_judge_6 : decode cX7_judge 6 = .ok (.aload_n 2, 1) := by decide +kernel
theorem dX7_judge_7 : decode cX7_judge 7 = .ok (.ifnonnull 6, 3) := by decide +kernel
theorem dX7_judge_10 : decode cX7_judge 10 = .ok (.bipush (-2), 2) := by decide +kernel
theorem dX7_judge_12 : decode cX7_judge 12 = .ok (.ireturn, 1) := by decide +kernel
theorem dX7_judge_13 : decode cX7_judge 13 = .ok (.aload_n 2, 1) := by decide +kernel
theorem dX7_judge_14 : decode cX7_judge 14 = .ok (.invokevirtual 207, 3) := by decide +kernel
theorem dX7_judge_17 : decode cX7_judge 17 = .ok (.ifCond .eq 6, 3) := by decide +kernel
theorem dX7_judge_20 : decode cX7_judge 20 = .ok (.bipush (-11), 2) := by decide +kernel
theorem dX7_judge_22 : decode cX7_judge 22 = .ok (.ireturn, 1) := by decide +kernel
theorem dX7_judge_23 : decode cX7_judge 23 = .ok (.aload_n 0, 1) := by decide +kernel
theorem dX7_judge_24 : decode cX7_judge 24 = .ok (.getfield 49, 3) := by decide +kernel
theorem dX7_judge_27 : decode cX7_judge 27 = .ok (.istore_n 3, 1) := by decide +kernel
theorem dX7_judge_28 : decode cX7_judge 28 = .ok (.iconst 0, 1) := by decide +kernel
theorem dX7_judge_29 : decode cX7_judge 29 = .ok (.istore 4, 2) := by decide +kernel
theorem dX7_judge_31 : decode cX7_judge 31 = .ok (.iload 4, 2) := by decide +kernel
theorem dX7_judge_33 : decode cX7_judge 33 = .ok (.aload_n 2, 1) := by decide +kernel
theorem dX7_judge_34 : decode cX7_judge 34 = .ok (.getfield 211, 3) := by decide +kernel
theorem dX7_judge_37 : decode cX7_judge 37 = .ok (.if_icmp .ge 32, 3) := by decide +kernel
theorem dX7_judge_40 : decode cX7_judge 40 = .ok (.aload_n 0, 1) := by decide +kernel
theorem dX7_judge_41 : decode cX7_judge 41 = .ok (.getfield 10, 3) := by decide +kernel
theorem dX7_judge_44 : decode cX7_judge 44 = .ok (.iload_n 3, 1) := by decide +kernel
theorem dX7_judge_45 : decode cX7_judge 45 = .ok (.aload_n 2, 1) := by decide +kernel
theorem dX7_judge_46 : decode cX7_judge 46 = .ok (.iload 4, 2) := by decide +kernel
theorem dX7_judge_48 : decode cX7_judge 48 = .ok (.invokevirtual 212, 3) := by decide +kernel
theorem dX7_judge_51 : decode cX7_judge 51 = .ok (.invokevirtual 162, 3) := by decide +kernel
theorem dX7_judge_54 : decode cX7_judge 54 = .ok (.istore_n 3, 1) := by decide +kernel
theorem dX7_judge_55 : decode cX7_judge 55 = .ok (.iload_n 3, 1) := by decide +kernel
theorem dX7_judge_56 : decode cX7_judge 56 = .ok (.iconst (-1), 1) := by decide +kernel
theorem dX7_judge_57 : decode cX7_judge 57 = .ok (.if_icmp .ne 6, 3) := by decide +kernel
theorem dX7_judge_60 : decode cX7_judge 60 = .ok (.iload 4, 2) := by decide +kernel
theorem dX7_judge_62 : decode cX7_judge 62 = .ok (.ireturn, 1) := by decide +kernel
theorem dX7_judge_63 : decode cX7_judge 63 = .ok (.iinc 4 1, 3) := by decide +kernel
theorem dX7_judge_66 : decode cX7_judge 66 = .ok (.goto (-35), 3) := by decide +kernel
theorem dX7_judge_69 : decode cX7_judge 69 = .ok (.iconst (-1), 1) := by decide +kernel
theorem dX7_judge_70 : decode cX7_judge 70 = .ok (.ireturn, 1) := by decide +kernel
theorem dX7_row_0 : decode cX7_row 0 = .ok (.aload_n 0, 1) := by decide +kernel
theorem dX7_row_1 : decode cX7_row 1 = .ok (.iload_n 1, 1) := by decide +kernel
theorem dX7_row_2 : decode cX7_row 2 = .ok (.invokevirtual 203, 3) := by decide +kernel
theorem dX7_row_5 : decode cX7_row 5 = .ok (.astore_n 3, 1) := by decide +kernel
theorem dX7_row_6 : decode cX7_row 6 = .ok (.aload_n 3, 1) := by decide +kernel
theorem dX7_row_7 : decode cX7_row 7 = .ok (.ifnull 12, 3) := by decide +kernel
theorem dX7_row_10 : decode cX7_row 10 = .ok (.iload_n 2, 1) := by decide +kernel
theorem dX7_row_11 : decode cX7_row 11 = .ok (.ifCond .lt 8, 3) := by decide +kernel
theorem dX7_row_14 : decode cX7_row 14 = .ok (.iload_n 2, 1) := by decide +kernel
theorem dX7_row_15 : decode cX7_row 15 = .ok (.iconst 1, 1) := by decide +kernel
theorem dX7_row_16 : decode cX7_row 16 = .ok (.if_icmp .le 6, 3) := by decide +kernel
theorem dX7_row_19 : decode cX7_row 19 = .ok (.bipush (-2), 2) := by decide +kernel
theorem dX7_row_21 : decode cX7_row 21 = .ok (.ireturn, 1) := by decide +kernel
theorem dX7_row_22 : decode cX7_row 22 = .ok (.aload_n 3, 1) := by decide +kernel
theorem dX7_row_23 : decode cX7_row 23 = .ok (.invokevirtual 207, 3) := by decide +kernel
theorem dX7_row_26 : decode cX7_row 26 = .ok (.ifCond .eq 6, 3) := by decide +kernel
theorem dX7_row_29 : decode cX7_row 29 = .ok (.bipush (-11), 2) := by decide +kernel
theorem dX7_row_31 : decode cX7_row 31 = .ok (.ireturn, 1) := by decide +kernel
theorem dX7_row_32 : decode cX7_row 32 = .ok (.iconst 0, 1) := by decide +kernel
theorem dX7_row_33 : decode cX7_row 33 = .ok (.istore 4, 2) := by decide +kernel
theorem dX7_row_35 : decode cX7_row 35 = .ok (.aload_n 0, 1) := by decide +kernel
theorem dX7_row_36 : decode cX7_row 36 = .ok (.getfield 49, 3) := by decide +kernel
theorem dX7_row_39 : decode cX7_row 39 = .ok (.istore 5, 2) := by decide +kernel
theorem dX7_row_41 : decode cX7_row 41 = .ok (.iconst 0, 1) := by decide +kernel
theorem dX7_row_42 : decode cX7_row 42 = .ok (.istore 6, 2) := by decide +kernel
theorem dX7_row_44 : decode cX7_row 44 = .ok (.iload 6, 2) := by decide +kernel
theorem dX7_row_46 : decode cX7_row 46 = .ok (.aload_n 3, 1) := by decide +kernel
theorem dX7_row_47 : decode cX7_row 47 = .ok (.getfield 211, 3) := by decide +kernel
theorem dX7_row_50 : decode cX7_row 50 = .ok (.if_icmp .ge 59, 3) := by decide +kernel
theorem dX7_row_53 : decode cX7_row 53 = .ok (.aload_n 0, 1) := by decide +kernel
theorem dX7_row_54 : decode cX7_row 54 = .ok (.getfield 10, 3) := by decide +kernel
theorem dX7_row_57 : decode cX7_row 57 = .ok (.iload 5, 2) := by decide +kernel
theorem dX7_row_59 : decode cX7_row 59 = .ok (.aload_n 3, 1) := by decide +kernel
theorem dX7_row_60 : decode cX7_row 60 = .ok (.iload 6, 2) := by decide +kernel
theorem dX7_row_62 : decode cX7_row 62 = .ok (.invokevirtual 212, 3) := by decide +kernel
theorem dX7_row_65 : decode cX7_row 65 = .ok (.invokevirtual 162, 3) := by decide +kernel
theorem dX7_row_68 : decode cX7_row 68 = .ok (.istore 7, 2) := by decide +kernel
theorem dX7_row_70 : decode cX7_row 70 = .ok (.iload 7, 2) := by decide +kernel
theorem dX7_row_72 : decode cX7_row 72 = .ok (.iconst (-1), 1) := by decide +kernel
theorem dX7_row_73 : decode cX7_row 73 = .ok (.if_icmp .ne 6, 3) := by decide +kernel
theorem dX7_row_76 : decode cX7_row 76 = .ok (.goto 33, 3) := by decide +kernel
theorem dX7_row_79 : decode cX7_row 79 = .ok (.iload 4, 2) := by decide +kernel
theorem dX7_row_81 : decode cX7_row 81 = .ok (.aload_n 0, 1) := by decide +kernel
theorem dX7_row_82 : decode cX7_row 82 = .ok (.getfield 10, 3) := by decide +kernel
theorem dX7_row_85 : decode cX7_row 85 = .ok (.iload 5, 2) := by decide +kernel
theorem dX7_row_87 : decode cX7_row 87 = .ok (.aload_n 3, 1) := by decide +kernel
theorem dX7_row_88 : decode cX7_row 88 = .ok (.iload 6, 2) := by decide +kernel
theorem dX7_row_90 : decode cX7_row 90 = .ok (.invokevirtual 212, 3) := by decide +kernel
theorem dX7_row_93 : decode cX7_row 93 = .ok (.invokevirtual 215, 3) := by decide +kernel
theorem dX7_row_96 : decode cX7_row 96 = .ok (.iadd, 1) := by decide +kernel
theorem dX7_row_97 : decode cX7_row 97 = .ok (.istore 4, 2) := by decide +kernel
theorem dX7_row_99 : decode cX7_row 99 = .ok (.iload 7, 2) := by decide +kernel
theorem dX7_row_101 : decode cX7_row 101 = .ok (.istore 5, 2) := by decide +kernel
theorem dX7_row_103 : decode cX7_row 103 = .ok (.iinc 6 1, 3) := by decide +kernel
theorem dX7_row_106 : decode cX7_row 106 = .ok (.goto (-62), 3) := by decide +kernel
theorem dX7_row_109 : decode cX7_row 109 = .ok (.iload_n 2, 1) := by decide +kernel
theorem dX7_row_110 : decode cX7_row 110 = .ok (.ifCond .ne 8, 3) := by decide +kernel
theorem dX7_row_113 : decode cX7_row 113 = .ok (.iload 4, 2) := by decide +kernel
theorem dX7_row_115 : decode cX7_row 115 = .ok (.goto 8, 3) := by decide +kernel
theorem dX7_row_118 : decode cX7_row 118 = .ok (.iload 5, 2) := by decide +kernel
theorem dX7_row_120 : decode cX7_row 120 = .ok (.invokestatic 165, 3) := by decide +kernel
theorem dX7_row_123 : decode cX7_row 123 = .ok (.ireturn, 1) := by decide +kernel
theorem dX7_heard_0 : decode cX7_heard 0 = .ok (.aload_n 0, 1) := by decide +kernel
theorem dX7_heard_1 : decode cX7_heard 1 = .ok (.iload_n 1, 1) := by decide +kernel
theorem dX7_heard_2 : decode cX7_heard 2 = .ok (.invokevirtual 203, 3) := by decide +kernel
theorem dX7_heard_5 : decode cX7_heard 5 = .ok (.astore_n 3, 1) := by decide +kernel
theorem dX7_heard_6 : decode cX7_heard 6 = .ok (.aload_n 3, 1) := by decide +kernel
theorem dX7_heard_7 : decode cX7_heard 7 = .ok (.ifnull 12, 3) := by decide +kernel
theorem dX7_heard_10 : decode cX7_heard 10 = .ok (.iload_n 2, 1) := by decide +kernel
theorem dX7_heard_11 : decode cX7_heard 11 = .ok (.ifCond .lt 8, 3) := by decide +kernel
theorem dX7_heard_14 : decode cX7_heard 14 = .ok (.iload_n 2, 1) := by decide +kernel
theorem dX7_heard_15 : decode cX7_heard 15 = .ok (.iconst 1, 1) := by decide +kernel
theorem dX7_heard_16 : decode cX7_heard 16 = .ok (.if_icmp .le 6, 3) := by decide +kernel
theorem dX7_heard_19 : decode cX7_heard 19 = .ok (.bipush (-2), 2) := by decide +kernel
theorem dX7_heard_21 : decode cX7_heard 21 = .ok (.ireturn, 1) := by decide +kernel
theorem dX7_heard_22 : decode cX7_heard 22 = .ok (.aload_n 3, 1) := by decide +kernel
theorem dX7_heard_23 : decode cX7_heard 23 = .ok (.invokevirtual 207, 3) := by decide +kernel
theorem dX7_heard_26 : decode cX7_heard 26 = .ok (.ifCond .eq 6, 3) := by decide +kernel
theorem dX7_heard_29 : decode cX7_heard 29 = .ok (.bipush (-11), 2) := by decide +kernel
theorem dX7_heard_31 : decode cX7_heard 31 = .ok (.ireturn, 1) := by decide +kernel
theorem dX7_heard_32 : decode cX7_heard 32 = .ok (.iload_n 2, 1) := by decide +kernel
theorem dX7_heard_33 : decode cX7_heard 33 = .ok (.ifCond .ne 11, 3) := by decide +kernel
theorem dX7_heard_36 : decode cX7_heard 36 = .ok (.aload_n 0, 1) := by decide +kernel
theorem dX7_heard_37 : decode cX7_heard 37 = .ok (.aload_n 3, 1) := by decide +kernel
theorem dX7_heard_38 : decode cX7_heard 38 = .ok (.invokevirtual 218, 3) := by decide +kernel
theorem dX7_heard_41 : decode cX7_heard 41 = .ok (.goto 8, 3) := by decide +kernel
theorem dX7_heard_44 : decode cX7_heard 44 = .ok (.aload_n 0, 1) := by decide +kernel
theorem dX7_heard_45 : decode cX7_heard 45 = .ok (.aload_n 3, 1) := by decide +kernel
theorem dX7_heard_46 : decode cX7_heard 46 = .ok (.invokevirtual 222, 3) := by decide +kernel
theorem dX7_heard_49 : decode cX7_heard 49 = .ok (.ireturn, 1) := by decide +kernel
theorem dX7_oil_0 : decode cX7_oil 0 = .ok (.iconst (-1), 1) := by decide +kernel
theorem dX7_oil_1 : decode cX7_oil 1 = .ok (.istore_n 1, 1) := by decide +kernel
theorem dX7_oil_2 : decode cX7_oil 2 = .ok (.iconst 0, 1) := by decide +kernel
theorem dX7_oil_3 : decode cX7_oil 3 = .ok (.istore_n 2, 1) := by decide +kernel
theorem dX7_oil_4 : decode cX7_oil 4 = .ok (.iconst 0, 1) := by decide +kernel
theorem dX7_oil_5 : decode cX7_oil 5 = .ok (.istore_n 3, 1) := by decide +kernel
theorem dX7_oil_6 : decode cX7_oil 6 = .ok (.iload_n 3, 1) := by decide +kernel
theorem dX7_oil_7 : decode cX7_oil 7 = .ok (.aload_n 0, 1) := by decide +kernel
theorem dX7_oil_8 : decode cX7_oil 8 = .ok (.getfield 10, 3) := by decide +kernel
theorem dX7_oil_11 : decode cX7_oil 11 = .ok (.getfield 95, 3) := by decide +kernel
theorem dX7_oil_14 : decode cX7_oil 14 = .ok (.if_icmp .ge 27, 3) := by decide +kernel
theorem dX7_oil_17 : decode cX7_oil 17 = .ok (.aload_n 0, 1) := by decide +kernel
theorem dX7_oil_18 : decode cX7_oil 18 = .ok (.iload_n 3, 1) := by decide +kernel
theorem dX7_oil_19 : decode cX7_oil 19 = .ok (.invokevirtual 225, 3) := by decide +kernel
theorem dX7_oil_22 : decode cX7_oil 22 = .ok (.istore 4, 2) := by decide +kernel
theorem dX7_oil_24 : decode cX7_oil 24 = .ok (.iload 4, 2) := by decide +kernel
theorem dX7_oil_26 : decode cX7_oil 26 = .ok (.iload_n 2, 1) := by decide +kernel
theorem dX7_oil_27 : decode cX7_oil 27 = .ok (.if_icmp .le 8, 3) := by decide +kernel
theorem dX7_oil_30 : decode cX7_oil 30 = .ok (.iload 4, 2) := by decide +kernel
theorem dX7_oil_32 : decode cX7_oil 32 = .ok (.istore_n 2, 1) := by decide +kernel
theorem dX7_oil_33 : decode cX7_oil 33 = .ok (.iload_n 3, 1) := by decide +kernel
theorem dX7_oil_34 : decode cX7_oil 34 = .ok (.istore_n 1, 1) := by decide +kernel
theorem dX7_oil_35 : decode cX7_oil 35 = .ok (.iinc 3 1, 3) := by decide +kernel
theorem dX7_oil_38 : decode cX7_oil 38 = .ok (.goto (-32), 3) := by decide +kernel
theorem dX7_oil_41 : decode cX7_oil 41 = .ok (.iload_n 1, 1) := by decide +kernel
theorem dX7_oil_42 : decode cX7_oil 42 = .ok (.ireturn, 1) := by decide +kernel
theorem dX7_thief_0 : decode cX7_thief 0 = .ok (.aload_n 0, 1) := by decide +kernel
theorem dX7_thief_1 : decode cX7_thief 1 = .ok (.getfield 10, 3) := by decide +kernel
theorem dX7_thief_4 : decode cX7_thief 4 = .ok (.iload_n 1, 1) := by decide +kernel
theorem dX7_thief_5 : decode cX7_thief 5 = .ok (.invokevirtual 119, 3) := by decide +kernel
theorem dX7_thief_8 : decode cX7_thief 8 = .ok (.ifnull 12, 3) := by decide +kernel
theorem dX7_thief_11 : decode cX7_thief 11 = .ok (.iload_n 2, 1) := by decide +kernel
theorem dX7_thief_12 : decode cX7_thief 12 = .ok (.ifCond .lt 8, 3) := by decide +kernel
theorem dX7_thief_15 : decode cX7_thief 15 = .ok (.iload_n 2, 1) := by decide +kernel
theorem dX7_thief_16 : decode cX7_thief 16 = .ok (.iconst 3, 1) := by decide +kernel
theorem dX7_thief_17 : decode cX7_thief 17 = .ok (.if_icmp .le 6, 3) := by decide +kernel
theorem dX7_thief_20 : decode cX7_thief 20 = .ok (.bipush (-2), 2) := by decide +kernel
theorem dX7_thief_22 : decode cX7_thief 22 = .ok (.ireturn, 1) := by decide +kernel
theorem dX7_thief_23 : decode cX7_thief 23 = .ok (.aload_n 0, 1) := by decide +kernel
theorem dX7_thief_24 : decode cX7_thief 24 = .ok (.getfield 19, 3) := by decide +kernel
theorem dX7_thief_27 : decode cX7_thief 27 = .ok (.aload_n 0, 1) := by decide +kernel
theorem dX7_thief_28 : decode cX7_thief 28 = .ok (.getfield 10, 3) := by decide +kernel
theorem dX7_thief_31 : decode cX7_thief 31 = .ok (.aload_n 0, 1) := by decide +kernel
theorem dX7_thief_32 : decode cX7_thief 32 = .ok (.getfield 49, 3) := by decide +kernel
theorem dX7_thief_35 : decode cX7_thief 35 = .ok (.iload_n 1, 1) := by decide +kernel
theorem dX7_thief_36 : decode cX7_thief 36 = .ok (.iload_n 2, 1) := by decide +kernel
theorem dX7_thief_37 : decode cX7_thief 37 = .ok (.invokestatic 228, 3) := by decide +kernel
theorem dX7_thief_40 : decode cX7_thief 40 = .ok (.invokevirtual 168, 3) := by decide +kernel
theorem dX7_thief_43 : decode cX7_thief 43 = .ok (.aload_n 0, 1) := by decide +kernel
theorem dX7_thief_44 : decode cX7_thief 44 = .ok (.getfield 19, 3) := by decide +kernel
theorem dX7_thief_47 : decode cX7_thief 47 = .ok (.invokevirtual 172, 3) := by decide +kernel
theorem dX7_thief_50 : decode cX7_thief 50 = .ok (.invokestatic 232, 3) := by decide +kernel
theorem dX7_thief_53 : decode cX7_thief 53 = .ok (.ireturn, 1) := by decide +kernel
theorem dX7_image_0 : decode cX7_image 0 = .ok (.aload_n 0, 1) := by decide +kernel
theorem dX7_image_1 : decode cX7_image 1 = .ok (.iconst 1, 1) := by decide +kernel
theorem dX7_image_2 : decode cX7_image 2 = .ok (.putfield 52, 3) := by decide +kernel
theorem dX7_image_5 : decode cX7_image 5 = .ok (.aload_n 0, 1) := by decide +kernel
theorem dX7_image_6 : decode cX7_image 6 = .ok (.aload_n 0, 1) := by decide +kernel
theorem dX7_image_7 : decode cX7_image 7 = .ok (.getfield 49, 3) := by decide +kernel
theorem dX7_image_10 : decode cX7_image 10 = .ok (.putfield 56, 3) := by decide +kernel
theorem dX7_image_13 : decode cX7_image 13 = .ok (.aload_n 0, 1) := by decide +kernel
theorem dX7_image_14 : decode cX7_image 14 = .ok (.aload_n 0, 1) := by decide +kernel
theorem dX7_image_15 : decode cX7_image 15 = .ok (.getfield 10, 3) := by decide +kernel
theorem dX7_image_18 : decode cX7_image 18 = .ok (.getfield 95, 3) := by decide +kernel
theorem dX7_image_21 : decode cX7_image 21 = .ok (.putfield 59, 3) := by decide +kernel
theorem dX7_image_24 : decode cX7_image 24 = .ok (.aload_n 0, 1) := by decide +kernel
theorem dX7_image_25 : decode cX7_image 25 = .ok (.aload_n 0, 1) := by decide +kernel
theorem dX7_image_26 : decode cX7_image 26 = .ok (.getfield 46, 3) := by decide +kernel
theorem dX7_image_29 : decode cX7_image 29 = .ok (.putfield 62, 3) := by decide +kernel
theorem dX7_image_32 : decode cX7_image 32 = .ok (.aload_n 0, 1) := by decide +kernel
theorem dX7_image_33 : decode cX7_image 33 = .ok (.getfield 49, 3) := by decide +kernel
theorem dX7_image_36 : decode cX7_image 36 = .ok (.invokestatic 165, 3) := by decide +kernel
theorem dX7_image_39 : decode cX7_image 39 = .ok (.ireturn, 1) := by decide +kernel
theorem dX7_back_0 : decode cX7_back 0 = .ok (.aload_n 0, 1) := by decide +kernel
theorem dX7_back_1 : decode cX7_back 1 = .ok (.getfield 52, 3) := by decide +kernel
theorem dX7_back_4 : decode cX7_back 4 = .ok (.ifCond .eq 20, 3) := by decide +kernel
theorem dX7_back_7 : decode cX7_back 7 = .ok (.aload_n 0, 1) := by decide +kernel
theorem dX7_back_8 : decode cX7_back 8 = .ok (.getfield 10, 3) := by decide +kernel
theorem dX7_back_11 : decode cX7_back 11 = .ok (.aload_n 0, 1) := by decide +kernel
theorem dX7_back_12 : decode cX7_back 12 = .ok (.getfield 56, 3) := by decide +kernel
theorem dX7_back_15 : decode cX7_back 15 = .ok (.invokestatic 165, 3) := by decide +kernel
theorem dX7_back_18 : decode cX7_back 18 = .ok (.invokevirtual 91, 3) := by decide +kernel
theorem dX7_back_21 : decode cX7_back 21 = .ok (.ifCond .ne 6, 3) := by decide +kernel
theorem dX7_back_24 : decode cX7_back 24 = .ok (.bipush (-3), 2) := by decide +kernel
theorem dX7_back_26 : decode cX7_back 26 = .ok (.ireturn, 1) := by decide +kernel
theorem dX7_back_27 : decode cX7_back 27 = .ok (.aload_n 0, 1) := by decide +kernel
theorem dX7_back_28 : decode cX7_back 28 = .ok (.getfield 56, 3) := by decide +kernel
theorem dX7_back_31 : decode cX7_back 31 = .ok (.istore_n 1, 1) := by decide +kernel
theorem dX7_back_32 : decode cX7_back 32 = .ok (.aload_n 0, 1) := by decide +kernel
theorem dX7_back_33 : decode cX7_back 33 = .ok (.getfield 59, 3) := by decide +kernel
theorem dX7_back_36 : decode cX7_back 36 = .ok (.istore_n 2, 1) := by decide +kernel
theorem dX7_back_37 : decode cX7_back 37 = .ok (.iload_n 2, 1) := by decide +kernel
theorem dX7_back_38 : decode cX7_back 38 = .ok (.aload_n 0, 1) := by decide +kernel
theorem dX7_back_39 : decode cX7_back 39 = .ok (.getfield 10, 3) := by decide +kernel
theorem dX7_back_42 : decode cX7_back 42 = .ok (.getfield 95, 3) := by decide +kernel
theorem dX7_back_45 : decode cX7_back 45 = .ok (.if_icmp .ge 23, 3) := by decide +kernel
theorem dX7_back_48 : decode cX7_back 48 = .ok (.iload_n 1, 1) := by decide +kernel
theorem dX7_back_49 : decode cX7_back 49 = .ok (.iload_n 2, 1) := by decide +kernel
theorem dX7_back_50 : decode cX7_back 50 = .ok (.aload_n 0, 1) := by decide +kernel
theorem dX7_back_51 : decode cX7_back 51 = .ok (.getfield 49, 3) := by decide +kernel
theorem dX7_back_54 : decode cX7_back 54 = .ok (.iload_n 2, 1) := by decide +kernel
theorem dX7_back_55 : decode cX7_back 55 = .ok (.invokestatic 135, 3) := by decide +kernel
theorem dX7_back_58 : decode cX7_back 58 = .ok (.invokestatic 228, 3) := by decide +kernel
theorem dX7_back_61 : decode cX7_back 61 = .ok (.istore_n 1, 1) := by decide +kernel
theorem dX7_back_62 : decode cX7_back 62 = .ok (.iinc 2 1, 3) := by decide +kernel
theorem dX7_back_65 : decode cX7_back 65 = .ok (.goto (-28), 3) := by decide +kernel
theorem dX7_back_68 : decode cX7_back 68 = .ok (.aload_n 0, 1) := by decide +kernel
theorem dX7_back_69 : decode cX7_back 69 = .ok (.iload_n 1, 1) := by decide +kernel
theorem dX7_back_70 : decode cX7_back 70 = .ok (.putfield 49, 3) := by decide +kernel
theorem dX7_back_73 : decode cX7_back 73 = .ok (.aload_n 0, 1) := by decide +kernel
theorem dX7_back_74 : decode cX7_back 74 = .ok (.aload_n 0, 1) := by decide +kernel
theorem dX7_back_75 : decode cX7_back 75 = .ok (.getfield 62, 3) := by decide +kernel
theorem dX7_back_78 : decode cX7_back 78 = .ok (.invokevirtual 86, 3) := by decide +kernel
theorem dX7_back_81 : decode cX7_back 81 = .ok (.aload_n 0, 1) := by decide +kernel
theorem dX7_back_82 : decode cX7_back 82 = .ok (.getfield 49, 3) := by decide +kernel
theorem dX7_back_85 : decode cX7_back 85 = .ok (.invokestatic 165, 3) := by decide +kernel
theorem dX7_back_88 : decode cX7_back 88 = .ok (.ireturn, 1) := by decide +kernel
theorem dX7_count_0 : decode cX7_count 0 = .ok (.iload_n 1, 1) := by decide +kernel
theorem dX7_count_1 : decode cX7_count 1 = .ok (.tableswitch 105 0 7 #[47, 55, 63, 71, 79, 84, 92, 97], 47) := by decide +kernel
theorem dX7_count_48 : decode cX7_count 48 = .ok (.aload_n 0, 1) := by decide +kernel
theorem dX7_count_49 : decode cX7_count 49 = .ok (.getfield 10, 3) := by decide +kernel
theorem dX7_count_52 : decode cX7_count 52 = .ok (.getfield 237, 3) := by decide +kernel
theorem dX7_count_55 : decode cX7_count 55 = .ok (.ireturn, 1) := by decide +kernel
theorem dX7_count_56 : decode cX7_count 56 = .ok (.aload_n 0, 1) := by decide +kernel
theorem dX7_count_57 : decode cX7_count 57 = .ok (.getfield 10, 3) := by decide +kernel
theorem dX7_count_60 : decode cX7_count 60 = .ok (.getfield 95, 3) := by decide +kernel
theorem dX7_count_63 : decode cX7_count 63 = .ok (.ireturn, 1) := by decide +kernel
theorem dX7_count_64 : decode cX7_count 64 = .ok (.aload_n 0, 1) := by decide +kernel
theorem dX7_count_65 : decode cX7_count 65 = .ok (.getfield 49, 3) := by decide +kernel
theorem dX7_count_68 : decode cX7_count 68 = .ok (.invokestatic 240, 3) := by decide +kernel
theorem dX7_count_71 : decode cX7_count 71 = .ok (.ireturn, 1) := by decide +kernel
theorem dX7_count_72 : decode cX7_count 72 = .ok (.aload_n 0, 1) := by decide +kernel
theorem dX7_count_73 : decode cX7_count 73 = .ok (.getfield 49, 3) := by decide +kernel
theorem dX7_count_76 : decode cX7_count 76 = .ok (.invokestatic 165, 3) := by decide +kernel
theorem dX7_count_79 : decode cX7_count 79 = .ok (.ireturn, 1) := by decide +kernel
theorem dX7_count_80 : decode cX7_count 80 = .ok (.aload_n 0, 1) := by decide +kernel
theorem dX7_count_81 : decode cX7_count 81 = .ok (.getfield 42, 3) := by decide +kernel
theorem dX7_count_84 : decode cX7_count 84 = .ok (.ireturn, 1) := by decide +kernel
theorem dX7_count_85 : decode cX7_count 85 = .ok (.aload_n 0, 1) := by decide +kernel
theorem dX7_count_86 : decode cX7_count 86 = .ok (.getfield 26, 3) := by decide +kernel
theorem dX7_count_89 : decode cX7_count 89 = .ok (.getfield 156, 3) := by decide +kernel
theorem dX7_count_92 : decode cX7_count 92 = .ok (.ireturn, 1) := by decide +kernel
theorem dX7_count_93 : decode cX7_count 93 = .ok (.aload_n 0, 1) := by decide +kernel
theorem dX7_count_94 : decode cX7_count 94 = .ok (.getfield 46, 3) := by decide +kernel
theorem dX7_count_97 : decode cX7_count 97 = .ok (.ireturn, 1) := by decide +kernel
theorem dX7_count_98 : decode cX7_count 98 = .ok (.aload_n 0, 1) := by decide +kernel
theorem dX7_count_99 : decode cX7_count 99 = .ok (.getfield 49, 3) := by decide +kernel
theorem dX7_count_102 : decode cX7_count 102 = .ok (.invokestatic 243, 3) := by decide +kernel
theorem dX7_count_105 : decode cX7_count 105 = .ok (.ireturn, 1) := by decide +kernel
theorem dX7_count_106 : decode cX7_count 106 = .ok (.bipush (-2), 2) := by decide +kernel
theorem dX7_count_108 : decode cX7_count 108 = .ok (.ireturn, 1) := by decide +kernel
theorem dX7_sheet_0 : decode cX7_sheet 0 = .ok (.aload_n 0, 1) := by decide +kernel
theorem dX7_sheet_1 : decode cX7_sheet 1 = .ok (.iload_n 1, 1) := by decide +kernel
theorem dX7_sheet_2 : decode cX7_sheet 2 = .ok (.invokevirtual 203, 3) := by decide +kernel
theorem dX7_sheet_5 : decode cX7_sheet 5 = .ok (.astore 4, 2) := by decide +kernel
theorem dX7_sheet_7 : decode cX7_sheet 7 = .ok (.aload 4, 2) := by decide +kernel
theorem dX7_sheet_9 : decode cX7_sheet 9 = .ok (.ifnull 13, 3) := by decide +kernel
theorem dX7_sheet_12 : decode cX7_sheet 12 = .ok (.iload_n 2, 1) := by decide +kernel
theorem dX7_sheet_13 : decode cX7_sheet 13 = .ok (.iconst (-1), 1) := by decide +kernel
theorem dX7_sheet_14 : decode cX7_sheet 14 = .ok (.if_icmp .lt 8, 3) := by decide +kernel
theorem dX7_sheet_17 : decode cX7_sheet 17 = .ok (.iload_n 2, 1) := by decide +kernel
theorem dX7_sheet_18 : decode cX7_sheet 18 = .ok (.iconst 2, 1) := by decide +kernel
theorem dX7_sheet_19 : decode cX7_sheet 19 = .ok (.if_icmp .le 6, 3) := by decide +kernel
theorem dX7_sheet_22 : decode cX7_sheet 22 = .ok (.bipush (-2), 2) := by decide +kernel
theorem dX7_sheet_24 : decode cX7_sheet 24 = .ok (.ireturn, 1) := by decide +kernel
theorem dX7_sheet_25 : decode cX7_sheet 25 = .ok (.iload_n 2, 1) := by decide +kernel
theorem dX7_sheet_26 : decode cX7_sheet 26 = .ok (.iconst (-1), 1) := by decide +kernel
theorem dX7_sheet_27 : decode cX7_sheet 27 = .ok (.if_icmp .ne 12, 3) := by decide +kernel
theorem dX7_sheet_30 : decode cX7_sheet 30 = .ok (.aload 4, 2) := by decide +kernel
theorem dX7_sheet_32 : decode cX7_sheet 32 = .ok (.iconst (-1), 1) := by decide +kernel
theorem dX7_sheet_33 : decode cX7_sheet 33 = .ok (.iconst 0, 1) := by decide +kernel
theorem dX7_sheet_34 : decode cX7_sheet 34 = .ok (.invokevirtual 246, 3) := by decide +kernel
theorem dX7_sheet_37 : decode cX7_sheet 37 = .ok (.iconst 1, 1) := by decide +kernel
theorem dX7_sheet_38 : decode cX7_sheet 38 = .ok (.ireturn, 1) := by decide +kernel
theorem dX7_sheet_39 : decode cX7_sheet 39 = .ok (.iload_n 3, 1) := by decide +kernel
theorem dX7_sheet_40 : decode cX7_sheet 40 = .ok (.bipush 40, 2) := by decide +kernel
theorem dX7_sheet_42 : decode cX7_sheet 42 = .ok (.if_icmp .le 6, 3) := by decide +kernel
theorem dX7_sheet_45 : decode cX7_sheet 45 = .ok (.bipush (-2), 2) := by decide +kernel
theorem dX7_sheet_47 : decode cX7_sheet 47 = .ok (.ireturn, 1) := by decide +kernel
theorem dX7_sheet_48 : decode cX7_sheet 48 = .ok (.iload_n 3, 1) := by decide +kernel
theorem dX7_sheet_49 : decode cX7_sheet 49 = .ok (.ifCond .ge 6, 3) := by decide +kernel
theorem dX7_sheet_52 : decode cX7_sheet 52 = .ok (.bipush (-14), 2) := by decide +kernel
theorem dX7_sheet_54 : decode cX7_sheet 54 = .ok (.ireturn, 1) := by decide +kernel
theorem dX7_sheet_55 : decode cX7_sheet 55 = .ok (.aload 4, 2) := by decide +kernel
theorem dX7_sheet_57 : decode cX7_sheet 57 = .ok (.iload_n 2, 1) := by decide +kernel
theorem dX7_sheet_58 : decode cX7_sheet 58 = .ok (.iload_n 3, 1) := by decide +kernel
theorem dX7_sheet_59 : decode cX7_sheet 59 = .ok (.invokevirtual 246, 3) := by decide +kernel
theorem dX7_sheet_62 : decode cX7_sheet 62 = .ok (.iconst 1, 1) := by decide +kernel
theorem dX7_sheet_63 : decode cX7_sheet 63 = .ok (.ireturn, 1) := by decide +kernel
theorem dX7_cell_0 : decode cX7_cell 0 = .ok (.aload_n 0, 1) := by decide +kernel
theorem dX7_cell_1 : decode cX7_cell 1 = .ok (.iload_n 1, 1) := by decide +kernel
theorem dX7_cell_2 : decode cX7_cell 2 = .ok (.invokevirtual 203, 3) := by decide +kernel
theorem dX7_cell_5 : decode cX7_cell 5 = .ok (.astore 4, 2) := by decide +kernel
theorem dX7_cell_7 : decode cX7_cell 7 = .ok (.aload 4, 2) := by decide +kernel
theorem dX7_cell_9 : decode cX7_cell 9 = .ok (.ifnonnull 6, 3) := by decide +kernel
theorem dX7_cell_12 : decode cX7_cell 12 = .ok (.bipush (-2), 2) := by decide +kernel
theorem dX7_cell_14 : decode cX7_cell 14 = .ok (.ireturn, 1) := by decide +kernel
theorem dX7_cell_15 : decode cX7_cell 15 = .ok (.aload 4, 2) := by decide +kernel
theorem dX7_cell_17 : decode cX7_cell 17 = .ok (.invokevirtual 207, 3) := by decide +kernel
theorem dX7_cell_20 : decode cX7_cell 20 = .ok (.ifCond .eq 6, 3) := by decide +kernel
theorem dX7_cell_23 : decode cX7_cell 23 = .ok (.bipush (-11), 2) := by decide +kernel
theorem dX7_cell_25 : decode cX7_cell 25 = .ok (.ireturn, 1) := by decide +kernel
theorem dX7_cell_26 : decode cX7_cell 26 = .ok (.aload 4, 2) := by decide +kernel
theorem dX7_cell_28 : decode cX7_cell 28 = .ok (.iload_n 2, 1) := by decide +kernel
theorem dX7_cell_29 : decode cX7_cell 29 = .ok (.invokevirtual 250, 3) := by decide +kernel
theorem dX7_cell_32 : decode cX7_cell 32 = .ok (.ifCond .ne 6, 3) := by decide +kernel
theorem dX7_cell_35 : decode cX7_cell 35 = .ok (.bipush (-12), 2) := by decide +kernel
theorem dX7_cell_37 : decode cX7_cell 37 = .ok (.ireturn, 1) := by decide +kernel
theorem dX7_cell_38 : decode cX7_cell 38 = .ok (.aload 4, 2) := by decide +kernel
theorem dX7_cell_40 : decode cX7_cell 40 = .ok (.iload_n 2, 1) := by decide +kernel
theorem dX7_cell_41 : decode cX7_cell 41 = .ok (.iload_n 3, 1) := by decide +kernel
theorem dX7_cell_42 : decode cX7_cell 42 = .ok (.invokevirtual 253, 3) := by decide +kernel
theorem dX7_cell_45 : decode cX7_cell 45 = .ok (.iconst 1, 1) := by decide +kernel
theorem dX7_cell_46 : decode cX7_cell 46 = .ok (.ireturn, 1) := by decide +kernel
theorem dX7_copy_0 : decode cX7_copy 0 = .ok (.aload_n 0, 1) := by decide +kernel
theorem dX7_copy_1 : decode cX7_copy 1 = .ok (.iload_n 1, 1) := by decide +kernel
theorem dX7_copy_2 : decode cX7_copy 2 = .ok (.invokevirtual 203, 3) := by decide +kernel
theorem dX7_copy_5 : decode cX7_copy 5 = .ok (.astore 6, 2) := by decide +kernel
theorem dX7_copy_7 : decode cX7_copy 7 = .ok (.aload_n 0, 1) := by decide +kernel
theorem dX7_copy_8 : decode cX7_copy 8 = .ok (.iload_n 3, 1) := by decide +kernel
theorem dX7_copy_9 : decode cX7_copy 9 = .ok (.invokevirtual 203, 3) := by decide +kernel
theorem dX7_copy_12 : decode cX7_copy 12 = .ok (.astore 7, 2) := by decide +kernel
theorem dX7_copy_14 : decode cX7_copy 14 = .ok (.aload 6, 2) := by decide +kernel
theorem dX7_copy_16 : decode cX7_copy 16 = .ok (.ifnull 8, 3) := by decide +kernel
theorem dX7_copy_19 : decode cX7_copy 19 = .ok (.aload 7, 2) := by decide +kernel
theorem dX7_copy_21 : decode cX7_copy 21 = .ok (.ifnonnull 6, 3) := by decide +kernel
theorem dX7_copy_24 : decode cX7_copy 24 = .ok (.bipush (-2), 2) := by decide +kernel
theorem dX7_copy_26 : decode cX7_copy 26 = .ok (.ireturn, 1) := by decide +kernel
theorem dX7_copy_27 : decode cX7_copy 27 = .ok (.aload 6, 2) := by decide +kernel
theorem dX7_copy_29 : decode cX7_copy 29 = .ok (.invokevirtual 207, 3) := by decide +kernel
theorem dX7_copy_32 : decode cX7_copy 32 = .ok (.ifCond .ne 11, 3) := by decide +kernel
theorem dX7_copy_35 : decode cX7_copy 35 = .ok (.aload 7, 2) := by decide +kernel
theorem dX7_copy_37 : decode cX7_copy 37 = .ok (.invokevirtual 207, 3) := by decide +kernel
theorem dX7_copy_40 : decode cX7_copy 40 = .ok (.ifCond .eq 6, 3) := by decide +kernel
theorem dX7_copy_43 : decode cX7_copy 43 = .ok (.bipush (-11), 2) := by decide +kernel
theorem dX7_copy_45 : decode cX7_copy 45 = .ok (.ireturn, 1) := by decide +kernel
theorem dX7_copy_46 : decode cX7_copy 46 = .ok (.aload 6, 2) := by decide +kernel
theorem dX7_copy_48 : decode cX7_copy 48 = .ok (.getfield 256, 3) := by decide +kernel
theorem dX7_copy_51 : decode cX7_copy 51 = .ok (.aload 7, 2) := by decide +kernel
theorem dX7_copy_53 : decode cX7_copy 53 = .ok (.getfield 256, 3) := by decide +kernel
theorem dX7_copy_56 : decode cX7_copy 56 = .ok (.if_icmp .eq 6, 3) := by decide +kernel
theorem dX7_copy_59 : decode cX7_copy 59 = .ok (.bipush (-13), 2) := by decide +kernel
theorem dX7_copy_61 : decode cX7_copy 61 = .ok (.ireturn, 1) := by decide +kernel
theorem dX7_copy_62 : decode cX7_copy 62 = .ok (.aload 6, 2) := by decide +kernel
theorem dX7_copy_64 : decode cX7_copy 64 = .ok (.iload_n 2, 1) := by decide +kernel
theorem dX7_copy_65 : decode cX7_copy 65 = .ok (.iload 5, 2) := by decide +kernel
theorem dX7_copy_67 : decode cX7_copy 67 = .ok (.invokevirtual 259, 3) := by decide +kernel
theorem dX7_copy_70 : decode cX7_copy 70 = .ok (.ifCond .eq 15, 3) := by decide +kernel
theorem dX7_copy_73 : decode cX7_copy 73 = .ok (.aload 7, 2) := by decide +kernel
theorem dX7_copy_75 : decode cX7_copy 75 = .ok (.iload 4, 2) := by decide +kernel
theorem dX7_copy_77 : decode cX7_copy 77 = .ok (.iload 5, 2) := by decide +kernel
theorem dX7_copy_79 : decode cX7_copy 79 = .ok (.invokevirtual 259, 3) := by decide +kernel
theorem dX7_copy_82 : decode cX7_copy 82 = .ok (.ifCond .ne 6, 3) := by decide +kernel
theorem dX7_copy_85 : decode cX7_copy 85 = .ok (.bipush (-12), 2) := by decide +kernel
theorem dX7_copy_87 : decode cX7_copy 87 = .ok (.ireturn, 1) := by decide +kernel
theorem dX7_copy_88 : decode cX7_copy 88 = .ok (.aload 6, 2) := by decide +kernel
theorem dX7_copy_90 : decode cX7_copy 90 = .ok (.getfield 262, 3) := by decide +kernel
theorem dX7_copy_93 : decode cX7_copy 93 = .ok (.iload_n 2, 1) := by decide +kernel
theorem dX7_copy_94 : decode cX7_copy 94 = .ok (.aload 7, 2) := by decide +kernel
theorem dX7_copy_96 : decode cX7_copy 96 = .ok (.getfield 262, 3) := by decide +kernel
theorem dX7_copy_99 : decode cX7_copy 99 = .ok (.iload 4, 2) := by decide +kernel
theorem dX7_copy_101 : decode cX7_copy 101 = .ok (.iload 5, 2) := by decide +kernel
theorem dX7_copy_103 : decode cX7_copy 103 = .ok (.invokestatic 266, 3) := by decide +kernel
theorem dX7_copy_106 : decode cX7_copy 106 = .ok (.iload 5, 2) := by decide +kernel
theorem dX7_copy_108 : decode cX7_copy 108 = .ok (.ireturn, 1) := by decide +kernel
theorem dX7_doors_0 : decode cX7_doors 0 = .ok (.aload_n 0, 1) := by decide +kernel
theorem dX7_doors_1 : decode cX7_doors 1 = .ok (.iload_n 1, 1) := by decide +kernel
theorem dX7_doors_2 : decode cX7_doors 2 = .ok (.invokevirtual 203, 3) := by decide +kernel
theorem dX7_doors_5 : decode cX7_doors 5 = .ok (.astore 5, 2) := by decide +kernel
theorem dX7_doors_7 : decode cX7_doors 7 = .ok (.aload 5, 2) := by decide +kernel
theorem dX7_doors_9 : decode cX7_doors 9 = .ok (.ifnull 23, 3) := by decide +kernel
theorem dX7_doors_12 : decode cX7_doors 12 = .ok (.iload_n 2, 1) := by decide +kernel
theorem dX7_doors_13 : decode cX7_doors 13 = .ok (.ifCond .lt 19, 3) := by decide +kernel
theorem dX7_doors_16 : decode cX7_doors 16 = .ok (.iload_n 2, 1) := by decide +kernel
theorem dX7_doors_17 : decode cX7_doors 17 = .ok (.iconst 2, 1) := by decide +kernel
theorem dX7_doors_18 : decode cX7_doors 18 = .ok (.if_icmp .gt 14, 3) := by decide +kernel
theorem dX7_doors_21 : decode cX7_doors 21 = .ok (.iload 4, 2) := by decide +kernel
theorem dX7_doors_23 : decode cX7_doors 23 = .ok (.ifCond .lt 9, 3) := by decide +kernel
theorem dX7_doors_26 : decode cX7_doors 26 = .ok (.iload 4, 2) := by decide +kernel
theorem dX7_doors_28 : decode cX7_doors 28 = .ok (.iconst 4, 1) := by decide +kernel
theorem dX7_doors_29 : decode cX7_doors 29 = .ok (.if_icmp .le 6, 3) := by decide +kernel
theorem dX7_doors_32 : decode cX7_doors 32 = .ok (.bipush (-2), 2) := by decide +kernel
theorem dX7_doors_34 : decode cX7_doors 34 = .ok (.ireturn, 1) := by decide +kernel
theorem dX7_doors_35 : decode cX7_doors 35 = .ok (.aload 5, 2) := by decide +kernel
theorem dX7_doors_37 : decode cX7_doors 37 = .ok (.invokevirtual 207, 3) := by decide +kernel
theorem dX7_doors_40 : decode cX7_doors 40 = .ok (.ifCond .eq 6, 3) := by decide +kernel
theorem dX7_doors_43 : decode cX7_doors 43 = .ok (.bipush (-11), 2) := by decide +kernel
theorem dX7_doors_45 : decode cX7_doors 45 = .ok (.ireturn, 1) := by decide +kernel
theorem dX7_doors_46 : decode cX7_doors 46 = .ok (.aload 5, 2) := by decide +kernel
theorem dX7_doors_48 : decode cX7_doors 48 = .ok (.getfield 256, 3) := by decide +kernel
theorem dX7_doors_51 : decode cX7_doors 51 = .ok (.iload_n 2, 1) := by decide +kernel
theorem dX7_doors_52 : decode cX7_doors 52 = .ok (.if_icmp .eq 6, 3) := by decide +kernel
theorem dX7_doors_55 : decode cX7_doors 55 = .ok (.bipush (-13), 2) := by decide +kernel
theorem dX7_doors_57 : decode cX7_doors 57 = .ok (.ireturn, 1) := by decide +kernel
theorem dX7_doors_58 : decode cX7_doors 58 = .ok (.iconst 0, 1) := by decide +kernel
theorem dX7_doors_59 : decode cX7_doors 59 = .ok (.istore 6, 2) := by decide +kernel
theorem dX7_doors_61 : decode cX7_doors 61 = .ok (.iload_n 3, 1) := by decide +kernel
theorem dX7_doors_62 : decode cX7_doors 62 = .ok (.istore 7, 2) := by decide +kernel
theorem dX7_doors_64 : decode cX7_doors 64 = .ok (.iconst 0, 1) := by decide +kernel
theorem dX7_doors_65 : decode cX7_doors 65 = .ok (.istore 8, 2) := by decide +kernel
theorem dX7_doors_67 : decode cX7_doors 67 = .ok (.iload 8, 2) := by decide +kernel
theorem dX7_doors_69 : decode cX7_doors 69 = .ok (.iload 4, 2) := by decide +kernel
theorem dX7_doors_71 : decode cX7_doors 71 = .ok (.if_icmp .ge 61, 3) := by decide +kernel
theorem dX7_doors_74 : decode cX7_doors 74 = .ok (.aload 5, 2) := by decide +kernel
theorem dX7_doors_76 : decode cX7_doors 76 = .ok (.iload 7, 2) := by decide +kernel
theorem dX7_doors_78 : decode cX7_doors 78 = .ok (.iconst 3, 1) := by decide +kernel
theorem dX7_doors_79 : decode cX7_doors 79 = .ok (.invokevirtual 259, 3) := by decide +kernel
theorem dX7_doors_82 : decode cX7_doors 82 = .ok (.ifCond .ne 6, 3) := by decide +kernel
theorem dX7_doors_85 : decode cX7_doors 85 = .ok (.bipush (-12), 2) := by decide +kernel
theorem dX7_doors_87 : decode cX7_doors 87 = .ok (.ireturn, 1) := by decide +kernel
theorem dX7_doors_88 : decode cX7_doors 88 = .ok (.aload_n 0, 1) := by decide +kernel
theorem dX7_doors_89 : decode cX7_doors 89 = .ok (.aload 5, 2) := by decide +kernel
theorem dX7_doors_91 : decode cX7_doors 91 = .ok (.iload 7, 2) := by decide +kernel
theorem dX7_doors_93 : decode cX7_doors 93 = .ok (.invokevirtual 212, 3) := by decide +kernel
theorem dX7_doors_96 : decode cX7_doors 96 = .ok (.aload 5, 2) := by decide +kernel
theorem dX7_doors_98 : decode cX7_doors 98 = .ok (.iload 7, 2) := by decide +kernel
theorem dX7_doors_100 : decode cX7_doors 100 = .ok (.iconst 1, 1) := by decide +kernel
theorem dX7_doors_101 : decode cX7_doors 101 = .ok (.iadd, 1) := by decide +kernel
theorem dX7_doors_102 : decode cX7_doors 102 = .ok (.invokevirtual 212, 3) := by decide +kernel
theorem dX7_doors_105 : decode cX7_doors 105 = .ok (.aload 5, 2) := by decide +kernel
theorem dX7_doors_107 : decode cX7_doors 107 = .ok (.iload 7, 2) := by decide +kernel
theorem dX7_doors_109 : decode cX7_doors 109 = .ok (.iconst 2, 1) := by decide +kernel
theorem dX7_doors_110 : decode cX7_doors 110 = .ok (.iadd, 1) := by decide +kernel
theorem dX7_doors_111 : decode cX7_doors 111 = .ok (.invokevirtual 212, 3) := by decide +kernel
theorem dX7_doors_114 : decode cX7_doors 114 = .ok (.invokevirtual 272, 3) := by decide +kernel
theorem dX7_doors_117 : decode cX7_doors 117 = .ok (.ifCond .lt 6, 3) := by decide +kernel
theorem dX7_doors_120 : decode cX7_doors 120 = .ok (.iinc 6 1, 3) := by decide +kernel
theorem dX7_doors_123 : decode cX7_doors 123 = .ok (.iinc 7 3, 3) := by decide +kernel
theorem dX7_doors_126 : decode cX7_doors 126 = .ok (.iinc 8 1, 3) := by decide +kernel
theorem dX7_doors_129 : decode cX7_doors 129 = .ok (.goto (-62), 3) := by decide +kernel
theorem dX7_doors_132 : decode cX7_doors 132 = .ok (.iload 6, 2) := by decide +kernel
theorem dX7_doors_134 : decode cX7_doors 134 = .ok (.ireturn, 1) := by decide +kernel
theorem dX7_taken_0 : decode cX7_taken 0 = .ok (.iload_n 2, 1) := by decide +kernel
theorem dX7_taken_1 : decode cX7_taken 1 = .ok (.ifCond .lt 9, 3) := by decide +kernel
theorem dX7_taken_4 : decode cX7_taken 4 = .ok (.iload_n 2, 1) := by decide +kernel
theorem dX7_taken_5 : decode cX7_taken 5 = .ok (.bipush 6, 2) := by decide +kernel
theorem dX7_taken_7 : decode cX7_taken 7 = .ok (.if_icmp .lt 6, 3) := by decide +kernel
theorem dX7_taken_10 : decode cX7_taken 10 = .ok (.bipush (-2), 2) := by decide +kernel
theorem dX7_taken_12 : decode cX7_taken 12 = .ok (.ireturn, 1) := by decide +kernel
theorem dX7_taken_13 : decode cX7_taken 13 = .ok (.aload_n 0, 1) := by decide +kernel
theorem dX7_taken_14 : decode cX7_taken 14 = .ok (.getfield 10, 3) := by decide +kernel
theorem dX7_taken_17 : decode cX7_taken 17 = .ok (.iload_n 1, 1) := by decide +kernel
theorem dX7_taken_18 : decode cX7_taken 18 = .ok (.invokevirtual 119, 3) := by decide +kernel
theorem dX7_taken_21 : decode cX7_taken 21 = .ok (.astore_n 3, 1) := by decide +kernel
theorem dX7_taken_22 : decode cX7_taken 22 = .ok (.aload_n 3, 1) := by decide +kernel
theorem dX7_taken_23 : decode cX7_taken 23 = .ok (.ifnonnull 6, 3) := by decide +kernel
theorem dX7_taken_26 : decode cX7_taken 26 = .ok (.bipush (-11), 2) := by decide +kernel
theorem dX7_taken_28 : decode cX7_taken 28 = .ok (.ireturn, 1) := by decide +kernel
theorem dX7_taken_29 : decode cX7_taken 29 = .ok (.aload_n 3, 1) := by decide +kernel
theorem dX7_taken_30 : decode cX7_taken 30 = .ok (.getfield 123, 3) := by decide +kernel
theorem dX7_taken_33 : decode cX7_taken 33 = .ok (.iload_n 2, 1) := by decide +kernel
theorem dX7_taken_34 : decode cX7_taken 34 = .ok (.invokestatic 275, 3) := by decide +kernel
theorem dX7_taken_37 : decode cX7_taken 37 = .ok (.ifCond .eq 10, 3) := by decide +kernel
theorem dX7_taken_40 : decode cX7_taken 40 = .ok (.aload_n 3, 1) := by decide +kernel
theorem dX7_taken_41 : decode cX7_taken 41 = .ok (.getfield 150, 3) := by decide +kernel
theorem dX7_taken_44 : decode cX7_taken 44 = .ok (.goto 5, 3) := by decide +kernel
theorem dX7_taken_47 : decode cX7_taken 47 = .ok (.bipush (-13), 2) := by decide +kernel
theorem dX7_taken_49 : decode cX7_taken 49 = .ok (.ireturn, 1) := by decide +kernel
theorem dX7_sheetAt_0 : decode cX7_sheetAt 0 = .ok (.iload_n 1, 1) := by decide +kernel
theorem dX7_sheetAt_1 : decode cX7_sheetAt 1 = .ok (.ifCond .lt 17, 3) := by decide +kernel
theorem dX7_sheetAt_4 : decode cX7_sheetAt 4 = .ok (.iload_n 1, 1) := by decide +kernel
theorem dX7_sheetAt_5 : decode cX7_sheetAt 5 = .ok (.iconst 4, 1) := by decide +kernel
theorem dX7_sheetAt_6 : decode cX7_sheetAt 6 = .ok (.if_icmp .ge 12, 3) := by decide +kernel
theorem dX7_sheetAt_9 : decode cX7_sheetAt 9 = .ok (.aload_n 0, 1) := by decide +kernel
theorem dX7_sheetAt_10 : decode cX7_sheetAt 10 = .ok (.getfield 38, 3) := by decide +kernel
theorem dX7_sheetAt_13 : decode cX7_sheetAt 13 = .ok (.iload_n 1, 1) := by decide +kernel
theorem dX7_sheetAt_14 : decode cX7_sheetAt 14 = .ok (.aaload, 1) := by decide +kernel
theorem dX7_sheetAt_15 : decode cX7_sheetAt 15 = .ok (.goto 4, 3) := by decide +kernel
theorem dX7_sheetAt_18 : decode cX7_sheetAt 18 = .ok (.aconst_null, 1) := by decide +kernel
theorem dX7_sheetAt_19 : decode cX7_sheetAt 19 = .ok (.areturn, 1) := by decide +kernel
theorem dX7_setState_0 : decode cX7_setState 0 = .ok (.aload_n 0, 1) := by decide +kernel
theorem dX7_setState_1 : decode cX7_setState 1 = .ok (.getfield 10, 3) := by decide +kernel
theorem dX7_setState_4 : decode cX7_setState 4 = .ok (.iload_n 1, 1) := by decide +kernel
theorem dX7_setState_5 : decode cX7_setState 5 = .ok (.invokevirtual 119, 3) := by decide +kernel
theorem dX7_setState_8 : decode cX7_setState 8 = .ok (.ifnull 12, 3) := by decide +kernel
theorem dX7_setState_11 : decode cX7_setState 11 = .ok (.iload_n 2, 1) := by decide +kernel
theorem dX7_setState_12 : decode cX7_setState 12 = .ok (.ifCond .lt 8, 3) := by decide +kernel
theorem dX7_setState_15 : decode cX7_setState 15 = .ok (.iload_n 2, 1) := by decide +kernel
theorem dX7_setState_16 : decode cX7_setState 16 = .ok (.iconst 3, 1) := by decide +kernel
theorem dX7_setState_17 : decode cX7_setState 17 = .ok (.if_icmp .le 6, 3) := by decide +kernel
theorem dX7_setState_20 : decode cX7_setState 20 = .ok (.bipush (-2), 2) := by decide +kernel
theorem dX7_setState_22 : decode cX7_setState 22 = .ok (.ireturn, 1) := by decide +kernel
theorem dX7_setState_23 : decode cX7_setState 23 = .ok (.aload_n 0, 1) := by decide +kernel
theorem dX7_setState_24 : decode cX7_setState 24 = .ok (.getfield 49, 3) := by decide +kernel
theorem dX7_setState_27 : decode cX7_setState 27 = .ok (.iload_n 1, 1) := by decide +kernel
theorem dX7_setState_28 : decode cX7_setState 28 = .ok (.invokestatic 135, 3) := by decide +kernel
theorem dX7_setState_31 : decode cX7_setState 31 = .ok (.istore_n 3, 1) := by decide +kernel
theorem dX7_setState_32 : decode cX7_setState 32 = .ok (.aload_n 0, 1) := by decide +kernel
theorem dX7_setState_33 : decode cX7_setState 33 = .ok (.aload_n 0, 1) := by decide +kernel
theorem dX7_setState_34 : decode cX7_setState 34 = .ok (.getfield 49, 3) := by decide +kernel
theorem dX7_setState_37 : decode cX7_setState 37 = .ok (.iload_n 1, 1) := by decide +kernel
theorem dX7_setState_38 : decode cX7_setState 38 = .ok (.iload_n 2, 1) := by decide +kernel
theorem dX7_setState_39 : decode cX7_setState 39 = .ok (.invokestatic 228, 3) := by decide +kernel
theorem dX7_setState_42 : decode cX7_setState 42 = .ok (.putfield 49, 3) := by decide +kernel
theorem dX7_setState_45 : decode cX7_setState 45 = .ok (.iload_n 3, 1) := by decide +kernel
theorem dX7_setState_46 : decode cX7_setState 46 = .ok (.ireturn, 1) := by decide +kernel
theorem dX7_setTurn_0 : decode cX7_setTurn 0 = .ok (.iload_n 1, 1) := by decide +kernel
theorem dX7_setTurn_1 : decode cX7_setTurn 1 = .ok (.ifCond .lt 8, 3) := by decide +kernel
theorem dX7_setTurn_4 : decode cX7_setTurn 4 = .ok (.iload_n 1, 1) := by decide +kernel
theorem dX7_setTurn_5 : decode cX7_setTurn 5 = .ok (.iconst 3, 1) := by decide +kernel
theorem dX7_setTurn_6 : decode cX7_setTurn 6 = .ok (.if_icmp .le 6, 3) := by decide +kernel
theorem dX7_setTurn_9 : decode cX7_setTurn 9 = .ok (.bipush (-2), 2) := by decide +kernel
theorem dX7_setTurn_11 : decode cX7_setTurn 11 = .ok (.ireturn, 1) := by decide +kernel
theorem dX7_setTurn_12 : decode cX7_setTurn 12 = .ok (.aload_n 0, 1) := by decide +kernel
theorem dX7_setTurn_13 : decode cX7_setTurn 13 = .ok (.getfield 49, 3) := by decide +kernel
theorem dX7_setTurn_16 : decode cX7_setTurn 16 = .ok (.invokestatic 240, 3) := by decide +kernel
theorem dX7_setTurn_19 : decode cX7_setTurn 19 = .ok (.istore_n 2, 1) := by decide +kernel
theorem dX7_setTurn_20 : decode cX7_setTurn 20 = .ok (.aload_n 0, 1) := by decide +kernel
theorem dX7_setTurn_21 : decode cX7_setTurn 21 = .ok (.aload_n 0, 1) := by decide +kernel
theorem dX7_setTurn_22 : decode cX7_setTurn 22 = .ok (.getfield 49, 3) := by decide +kernel
theorem dX7_setTurn_25 : decode cX7_setTurn 25 = .ok (.iload_n 1, 1) := by decide +kernel
theorem dX7_setTurn_26 : decode cX7_setTurn 26 = .ok (.invokestatic 278, 3) := by decide +kernel
theorem dX7_setTurn_29 : decode cX7_setTurn 29 = .ok (.putfield 49, 3) := by decide +kernel
theorem dX7_setTurn_32 : decode cX7_setTurn 32 = .ok (.iload_n 2, 1) := by decide +kernel
theorem dX7_setTurn_33 : decode cX7_setTurn 33 = .ok (.ireturn, 1) := by decide +kernel
theorem dX7_setRoom_0 : decode cX7_setRoom 0 = .ok (.aload_n 0, 1) := by decide +kernel
theorem dX7_setRoom_1 : decode cX7_setRoom 1 = .ok (.getfield 10, 3) := by decide +kernel
theorem dX7_setRoom_4 : decode cX7_setRoom 4 = .ok (.iload_n 1, 1) := by decide +kernel
theorem dX7_setRoom_5 : decode cX7_setRoom 5 = .ok (.invokevirtual 91, 3) := by decide +kernel
theorem dX7_setRoom_8 : decode cX7_setRoom 8 = .ok (.ifCond .ne 6, 3) := by decide +kernel
theorem dX7_setRoom_11 : decode cX7_setRoom 11 = .ok (.bipush (-2), 2) := by decide +kernel
theorem dX7_setRoom_13 : decode cX7_setRoom 13 = .ok (.ireturn, 1) := by decide +kernel
theorem dX7_setRoom_14 : decode cX7_setRoom 14 = .ok (.aload_n 0, 1) := by decide +kernel
theorem dX7_setRoom_15 : decode cX7_setRoom 15 = .ok (.getfield 49, 3) := by decide +kernel
theorem dX7_setRoom_18 : decode cX7_setRoom 18 = .ok (.invokestatic 165, 3) := by decide +kernel
theorem dX7_setRoom_21 : decode cX7_setRoom 21 = .ok (.istore_n 2, 1) := by decide +kernel
theorem dX7_setRoom_22 : decode cX7_setRoom 22 = .ok (.aload_n 0, 1) := by decide +kernel
theorem dX7_setRoom_23 : decode cX7_setRoom 23 = .ok (.aload_n 0, 1) := by decide +kernel
theorem dX7_setRoom_24 : decode cX7_setRoom 24 = .ok (.getfield 49, 3) := by decide +kernel
theorem dX7_setRoom_27 : decode cX7_setRoom 27 = .ok (.iload_n 1, 1) := by decide +kernel
theorem dX7_setRoom_28 : decode cX7_setRoom 28 = .ok (.invokestatic 140, 3) := by decide +kernel
theorem dX7_setRoom_31 : decode cX7_setRoom 31 = .ok (.putfield 49, 3) := by decide +kernel
theorem dX7_setRoom_34 : decode cX7_setRoom 34 = .ok (.iload_n 2, 1) := by decide +kernel
theorem dX7_setRoom_35 : decode cX7_setRoom 35 = .ok (.ireturn, 1) := by decide +kernel
theorem dX7_setRoomCount_0 : decode cX7_setRoomCount 0 = .ok (.iload_n 1, 1) := by decide +kernel
theorem dX7_setRoomCount_1 : decode cX7_setRoomCount 1 = .ok (.iconst 1, 1) := by decide +kernel
theorem dX7_setRoomCount_2 : decode cX7_setRoomCount 2 = .ok (.if_icmp .lt 9, 3) := by decide +kernel
theorem dX7_setRoomCount_5 : decode cX7_setRoomCount 5 = .ok (.iload_n 1, 1) := by decide +kernel
theorem dX7_setRoomCount_6 : decode cX7_setRoomCount 6 = .ok (.bipush 6, 2) := by decide +kernel
theorem dX7_setRoomCount_8 : decode cX7_setRoomCount 8 = .ok (.if_icmp .le 6, 3) := by decide +kernel
theorem dX7_setRoomCount_11 : decode cX7_setRoomCount 11 = .ok (.bipush (-2), 2) := by decide +kernel
theorem dX7_setRoomCount_13 : decode cX7_setRoomCount 13 = .ok (.ireturn, 1) := by decide +kernel
theorem dX7_setRoomCount_14 : decode cX7_setRoomCount 14 = .ok (.aload_n 0, 1) := by decide +kernel
theorem dX7_setRoomCount_15 : decode cX7_setRoomCount 15 = .ok (.getfield 49, 3) := by decide +kernel
theorem dX7_setRoomCount_18 : decode cX7_setRoomCount 18 = .ok (.invokestatic 165, 3) := by decide +kernel
theorem dX7_setRoomCount_21 : decode cX7_setRoomCount 21 = .ok (.iload_n 1, 1) := by decide +kernel
theorem dX7_setRoomCount_22 : decode cX7_setRoomCount 22 = .ok (.if_icmp .ge 14, 3) := by decide +kernel
theorem dX7_setRoomCount_25 : decode cX7_setRoomCount 25 = .ok (.aload_n 0, 1) := by decide +kernel
theorem dX7_setRoomCount_26 : decode cX7_setRoomCount 26 = .ok (.getfield 10, 3) := by decide +kernel
theorem dX7_setRoomCount_29 : decode cX7_setRoomCount 29 = .ok (.invokevirtual 281, 3) := by decide +kernel
theorem dX7_setRoomCount_32 : decode cX7_setRoomCount 32 = .ok (.iload_n 1, 1) := by decide +kernel
theorem dX7_setRoomCount_33 : decode cX7_setRoomCount 33 = .ok (.if_icmp .lt 6, 3) := by decide +kernel
theorem dX7_setRoomCount_36 : decode cX7_setRoomCount 36 = .ok (.bipush (-2), 2) := by decide +kernel
theorem dX7_setRoomCount_38 : decode cX7_setRoomCount 38 = .ok (.ireturn, 1) := by decide +kernel
theorem dX7_setRoomCount_39 : decode cX7_setRoomCount 39 = .ok (.aload_n 0, 1) := by decide +kernel
theorem dX7_setRoomCount_40 : decode cX7_setRoomCount 40 = .ok (.getfield 10, 3) := by decide +kernel
theorem dX7_setRoomCount_43 : decode cX7_setRoomCount 43 = .ok (.getfield 237, 3) := by decide +kernel
theorem dX7_setRoomCount_46 : decode cX7_setRoomCount 46 = .ok (.istore_n 2, 1) := by decide +kernel
theorem dX7_setRoomCount_47 : decode cX7_setRoomCount 47 = .ok (.aload_n 0, 1) := by decide +kernel
theorem dX7_setRoomCount_48 : decode cX7_setRoomCount 48 = .ok (.getfield 10, 3) := by decide +kernel
theorem dX7_setRoomCount_51 : decode cX7_setRoomCount 51 = .ok (.iload_n 1, 1) := by decide +kernel
theorem dX7_setRoomCount_52 : decode cX7_setRoomCount 52 = .ok (.putfield 237, 3) := by decide +kernel
theorem dX7_setRoomCount_55 : decode cX7_setRoomCount 55 = .ok (.iload_n 2, 1) := by decide +kernel
theorem dX7_setRoomCount_56 : decode cX7_setRoomCount 56 = .ok (.ireturn, 1) := by decide +kernel
theorem dX7_readNextText_0 : decode cX7_readNextText 0 = .ok (.aload_n 0, 1) := by decide +kernel
theorem dX7_readNextText_1 : decode cX7_readNextText 1 = .ok (.getfield 42, 3) := by decide +kernel
theorem dX7_readNextText_4 : decode cX7_readNextText 4 = .ok (.bipush 6, 2) := by decide +kernel
theorem dX7_readNextText_6 : decode cX7_readNextText 6 = .ok (.if_icmp .ge 15, 3) := by decide +kernel
theorem dX7_readNextText_9 : decode cX7_readNextText 9 = .ok (.aload_n 0, 1) := by decide +kernel
theorem dX7_readNextText_10 : decode cX7_readNextText 10 = .ok (.getfield 32, 3) := by decide +kernel
theorem dX7_readNextText_13 : decode cX7_readNextText 13 = .ok (.aload_n 0, 1) := by decide +kernel
theorem dX7_readNextText_14 : decode cX7_readNextText 14 = .ok (.getfield 42, 3) := by decide +kernel
theorem dX7_readNextText_17 : decode cX7_readNextText 17 = .ok (.aaload, 1) := by decide +kernel
theorem dX7_readNextText_18 : decode cX7_readNextText 18 = .ok (.goto 4, 3) := by decide +kernel
theorem dX7_readNextText_21 : decode cX7_readNextText 21 = .ok (.aconst_null, 1) := by decide +kernel
theorem dX7_readNextText_22 : decode cX7_readNextText 22 = .ok (.astore_n 1, 1) := by decide +kernel
theorem dX7_readNextText_23 : decode cX7_readNextText 23 = .ok (.aload_n 1, 1) := by decide +kernel
theorem dX7_readNextText_24 : decode cX7_readNextText 24 = .ok (.ifnonnull 6, 3) := by decide +kernel
theorem dX7_readNextText_27 : decode cX7_readNextText 27 = .ok (.bipush (-4), 2) := by decide +kernel
theorem dX7_readNextText_29 : decode cX7_readNextText 29 = .ok (.ireturn, 1) := by decide +kernel
theorem dX7_readNextText_30 : decode cX7_readNextText 30 = .ok (.aload_n 0, 1) := by decide +kernel
theorem dX7_readNextText_31 : decode cX7_readNextText 31 = .ok (.getfield 26, 3) := by decide +kernel
theorem dX7_readNextText_34 : decode cX7_readNextText 34 = .ok (.aload_n 1, 1) := by decide +kernel
theorem dX7_readNextText_35 : decode cX7_readNextText 35 = .ok (.invokevirtual 284, 3) := by decide +kernel
theorem dX7_readNextText_38 : decode cX7_readNextText 38 = .ok (.istore_n 2, 1) := by decide +kernel
theorem dX7_readNextText_39 : decode cX7_readNextText 39 = .ok (.aload_n 0, 1) := by decide +kernel
theorem dX7_readNextText_40 : decode cX7_readNextText 40 = .ok (.getfield 26, 3) := by decide +kernel
theorem dX7_readNextText_43 : decode cX7_readNextText 43 = .ok (.iconst 0, 1) := by decide +kernel
theorem dX7_readNextText_44 : decode cX7_readNextText 44 = .ok (.putfield 156, 3) := by decide +kernel
theorem dX7_readNextText_47 : decode cX7_readNextText 47 = .ok (.iload_n 2, 1) := by decide +kernel
theorem dX7_readNextText_48 : decode cX7_readNextText 48 = .ok (.iconst (-1), 1) := by decide +kernel
theorem dX7_readNextText_49 : decode cX7_readNextText 49 = .ok (.if_icmp .eq 8, 3) := by decide +kernel
theorem dX7_readNextText_52 : decode cX7_readNextText 52 = .ok (.bipush (-100), 2) := by decide +kernel
theorem dX7_readNextText_54 : decode cX7_readNextText 54 = .ok (.iload_n 2, 1) := by decide +kernel
theorem dX7_readNextText_55 : decode cX7_readNextText 55 = .ok (.isub, 1) := by decide +kernel
theorem dX7_readNextText_56 : decode cX7_readNextText 56 = .ok (.ireturn, 1) := by decide +kernel
theorem dX7_readNextText_57 : decode cX7_readNextText 57 = .ok (.aload_n 0, 1) := by decide +kernel
theorem dX7_readNextText_58 : decode cX7_readNextText 58 = .ok (.dup, 1) := by decide +kernel
theorem dX7_readNextText_59 : decode cX7_readNextText 59 = .ok (.getfield 42, 3) := by decide +kernel
theorem dX7_readNextText_62 : decode cX7_readNextText 62 = .ok (.iconst 1, 1) := by decide +kernel
theorem dX7_readNextText_63 : decode cX7_readNextText 63 = .ok (.iadd, 1) := by decide +kernel
theorem dX7_readNextText_64 : decode cX7_readNextText 64 = .ok (.putfield 42, 3) := by decide +kernel
theorem dX7_readNextText_67 : decode cX7_readNextText 67 = .ok (.aload_n 0, 1) := by decide +kernel
theorem dX7_readNextText_68 : decode cX7_readNextText 68 = .ok (.getfield 42, 3) := by decide +kernel
theorem dX7_readNextText_71 : decode cX7_readNextText 71 = .ok (.iconst 1, 1) := by decide +kernel
theorem dX7_readNextText_72 : decode cX7_readNextText 72 = .ok (.isub, 1) := by decide +kernel
theorem dX7_readNextText_73 : decode cX7_readNextText 73 = .ok (.ireturn, 1) := by decide +kernel
theorem dX7_takeRule_0 : decode cX7_takeRule 0 = .ok (.iload_n 1, 1) := by decide +kernel
theorem dX7_takeRule_1 : decode cX7_takeRule 1 = .ok (.ifCond .lt 11, 3) := by decide +kernel
theorem dX7_takeRule_4 : decode cX7_takeRule 4 = .ok (.iload_n 1, 1) := by decide +kernel
theorem dX7_takeRule_5 : decode cX7_takeRule 5 = .ok (.aload_n 0, 1) := by decide +kernel
theorem dX7_takeRule_6 : decode cX7_takeRule 6 = .ok (.getfield 42, 3) := by decide +kernel
theorem dX7_takeRule_9 : decode cX7_takeRule 9 = .ok (.if_icmp .lt 4, 3) := by decide +kernel
theorem dX7_takeRule_12 : decode cX7_takeRule 12 = .ok (.return_, 1) := by decide +kernel
theorem dX7_takeRule_13 : decode cX7_takeRule 13 = .ok (.aload_n 0, 1) := by decide +kernel
theorem dX7_takeRule_14 : decode cX7_takeRule 14 = .ok (.iload_n 1, 1) := by decide +kernel
theorem dX7_takeRule_15 : decode cX7_takeRule 15 = .ok (.putfield 46, 3) := by decide +kernel
theorem dX7_takeRule_18 : decode cX7_takeRule 18 = .ok (.aload_n 0, 1) := by decide +kernel
theorem dX7_takeRule_19 : decode cX7_takeRule 19 = .ok (.getfield 10, 3) := by decide +kernel
theorem dX7_takeRule_22 : decode cX7_takeRule 22 = .ok (.aload_n 0, 1) := by decide +kernel
theorem dX7_takeRule_23 : decode cX7_takeRule 23 = .ok (.getfield 32, 3) := by decide +kernel
theorem dX7_takeRule_26 : decode cX7_takeRule 26 = .ok (.iload_n 1, 1) := by decide +kernel
theorem dX7_takeRule_27 : decode cX7_takeRule 27 = .ok (.aaload, 1) := by decide +kernel
theorem dX7_takeRule_28 : decode cX7_takeRule 28 = .ok (.invokevirtual 288, 3) := by decide +kernel
theorem dX7_takeRule_31 : decode cX7_takeRule 31 = .ok (.return_, 1) := by decide +kernel
theorem dX7_roomsOnceOiled_0 : decode cX7_roomsOnceOiled 0 = .ok (.aload_n 0, 1) := by decide +kernel
theorem dX7_roomsOnceOiled_1 : decode cX7_roomsOnceOiled 1 = .ok (.getfield 10, 3) := by decide +kernel
theorem dX7_roomsOnceOiled_4 : decode cX7_roomsOnceOiled 4 = .ok (.iload_n 1, 1) := by decide +kernel
theorem dX7_roomsOnceOiled_5 : decode cX7_roomsOnceOiled 5 = .ok (.invokevirtual 119, 3) := by decide +kernel
theorem dX7_roomsOnceOiled_8 : decode cX7_roomsOnceOiled 8 = .ok (.astore_n 2, 1) := by decide +kernel
theorem dX7_roomsOnceOiled_9 : decode cX7_roomsOnceOiled 9 = .ok (.aload_n 2, 1) := by decide +kernel
theorem dX7_roomsOnceOiled_10 : decode cX7_roomsOnceOiled 10 = .ok (.ifnonnull 5, 3) := by decide +kernel
theorem dX7_roomsOnceOiled_13 : decode cX7_roomsOnceOiled 13 = .ok (.iconst 0, 1) := by decide +kernel
theorem dX7_roomsOnceOiled_14 : decode cX7_roomsOnceOiled 14 = .ok (.ireturn, 1) := by decide +kernel
theorem dX7_roomsOnceOiled_15 : decode cX7_roomsOnceOiled 15 = .ok (.aload_n 2, 1) := by decide +kernel
theorem dX7_roomsOnceOiled_16 : decode cX7_roomsOnceOiled 16 = .ok (.getfield 123, 3) := by decide +kernel
theorem dX7_roomsOnceOiled_19 : decode cX7_roomsOnceOiled 19 = .ok (.istore_n 3, 1) := by decide +kernel
theorem dX7_roomsOnceOiled_20 : decode cX7_roomsOnceOiled 20 = .ok (.aload_n 0, 1) := by decide +kernel
theorem dX7_roomsOnceOiled_21 : decode cX7_roomsOnceOiled 21 = .ok (.getfield 10, 3) := by decide +kernel
theorem dX7_roomsOnceOiled_24 : decode cX7_roomsOnceOiled 24 = .ok (.iload_n 1, 1) := by decide +kernel
theorem dX7_roomsOnceOiled_25 : decode cX7_roomsOnceOiled 25 = .ok (.iconst 0, 1) := by decide +kernel
theorem dX7_roomsOnceOiled_26 : decode cX7_roomsOnceOiled 26 = .ok (.invokevirtual 292, 3) := by decide +kernel
theorem dX7_roomsOnceOiled_29 : decode cX7_roomsOnceOiled 29 = .ok (.aload_n 0, 1) := by decide +kernel
theorem dX7_roomsOnceOiled_30 : decode cX7_roomsOnceOiled 30 = .ok (.getfield 19, 3) := by decide +kernel
theorem dX7_roomsOnceOiled_33 : decode cX7_roomsOnceOiled 33 = .ok (.aload_n 0, 1) := by decide +kernel
theorem dX7_roomsOnceOiled_34 : decode cX7_roomsOnceOiled 34 = .ok (.getfield 10, 3) := by decide +kernel
theorem dX7_roomsOnceOiled_37 : decode cX7_roomsOnceOiled 37 = .ok (.aload_n 0, 1) := by decide +kernel
theorem dX7_roomsOnceOiled_38 : decode cX7_roomsOnceOiled 38 = .ok (.getfield 49, 3) := by decide +kernel
theorem dX7_roomsOnceOiled_41 : decode cX7_roomsOnceOiled 41 = .ok (.invokevirtual 168, 3) := by decide +kernel
theorem dX7_roomsOnceOiled_44 : decode cX7_roomsOnceOiled 44 = .ok (.aload_n 0, 1) := by decide +kernel
theorem dX7_roomsOnceOiled_45 : decode cX7_roomsOnceOiled 45 = .ok (.getfield 10, 3) := by decide +kernel
theorem dX7_roomsOnceOiled_48 : decode cX7_roomsOnceOiled 48 = .ok (.iload_n 1, 1) := by decide +kernel
theorem dX7_roomsOnceOiled_49 : decode cX7_roomsOnceOiled 49 = .ok (.iload_n 3, 1) := by decide +kernel
theorem dX7_roomsOnceOiled_50 : decode cX7_roomsOnceOiled 50 = .ok (.invokevirtual 292, 3) := by decide +kernel
theorem dX7_roomsOnceOiled_53 : decode cX7_roomsOnceOiled 53 = .ok (.aload_n 0, 1) := by decide +kernel
theorem dX7_roomsOnceOiled_54 : decode cX7_roomsOnceOiled 54 = .ok (.getfield 19, 3) := by decide +kernel
theorem dX7_roomsOnceOiled_57 : decode cX7_roomsOnceOiled 57 = .ok (.invokevirtual 172, 3) := by decide +kernel
theorem dX7_roomsOnceOiled_60 : decode cX7_roomsOnceOiled 60 = .ok (.invokestatic 232, 3) := by decide +kernel
theorem dX7_roomsOnceOiled_63 : decode cX7_roomsOnceOiled 63 = .ok (.ireturn, 1) := by decide +kernel
theorem dX7_canGoAllOf_0 : decode cX7_canGoAllOf 0 = .ok (.iconst 0, 1) := by decide +kernel
theorem dX7_canGoAllOf_1 : decode cX7_canGoAllOf 1 = .ok (.istore_n 3, 1) := by decide +kernel
theorem dX7_canGoAllOf_2 : decode cX7_canGoAllOf 2 = .ok (.iload_n 3, 1) := by decide +kernel
theorem dX7_canGoAllOf_3 : decode cX7_canGoAllOf 3 = .ok (.aload_n 1, 1) := by decide +kernel
theorem dX7_canGoAllOf_4 : decode cX7_canGoAllOf 4 = .ok (.getfield 211, 3) := by decide +kernel
theorem dX7_canGoAllOf_7 : decode cX7_canGoAllOf 7 = .ok (.if_icmp .ge 30, 3) := by decide +kernel
theorem dX7_canGoAllOf_10 : decode cX7_canGoAllOf 10 = .ok (.aload_n 0, 1) := by decide +kernel
theorem dX7_canGoAllOf_11 : decode cX7_canGoAllOf 11 = .ok (.getfield 10, 3) := by decide +kernel
theorem dX7_canGoAllOf_14 : decode cX7_canGoAllOf 14 = .ok (.iload_n 2, 1) := by decide +kernel
theorem dX7_canGoAllOf_15 : decode cX7_canGoAllOf 15 = .ok (.aload_n 1, 1) := by decide +kernel
theorem dX7_canGoAllOf_16 : decode cX7_canGoAllOf 16 = .ok (.iload_n 3, 1) := by decide +kernel
theorem dX7_canGoAllOf_17 : decode cX7_canGoAllOf 17 = .ok (.invokevirtual 212, 3) := by decide +kernel
theorem dX7_canGoAllOf_20 : decode cX7_canGoAllOf 20 = .ok (.invokevirtual 162, 3) := by decide +kernel
theorem dX7_canGoAllOf_23 : decode cX7_canGoAllOf 23 = .ok (.istore_n 2, 1) := by decide +kernel
theorem dX7_canGoAllOf_24 : decode cX7_canGoAllOf 24 = .ok (.iload_n 2, 1) := by decide +kernel
theorem dX7_canGoAllOf_25 : decode cX7_canGoAllOf 25 = .ok (.iconst (-1), 1) := by decide +kernel
theorem dX7_canGoAllOf_26 : decode cX7_canGoAllOf 26 = .ok (.if_icmp .ne 5, 3) := by decide +kernel
theorem dX7_canGoAllOf_29 : decode cX7_canGoAllOf 29 = .ok (.iconst 0, 1) := by decide +kernel
theorem dX7_canGoAllOf_30 : decode cX7_canGoAllOf 30 = .ok (.ireturn, 1) := by decide +kernel
theorem dX7_canGoAllOf_31 : decode cX7_canGoAllOf 31 = .ok (.iinc 3 1, 3) := by decide +kernel
theorem dX7_canGoAllOf_34 : decode cX7_canGoAllOf 34 = .ok (.goto (-32), 3) := by decide +kernel
theorem dX7_canGoAllOf_37 : decode cX7_canGoAllOf 37 = .ok (.iconst 1, 1) := by decide +kernel
theorem dX7_canGoAllOf_38 : decode cX7_canGoAllOf 38 = .ok (.ireturn, 1) := by decide +kernel
theorem dX7_roomsOfBeginning_0 : decode cX7_roomsOfBeginning 0 = .ok (.iconst 0, 1) := by decide +kernel
theorem dX7_roomsOfBeginning_1 : decode cX7_roomsOfBeginning 1 = .ok (.istore_n 2, 1) := by decide +kernel
theorem dX7_roomsOfBeginning_2 : decode cX7_roomsOfBeginning 2 = .ok (.iconst 0, 1) := by decide +kernel
theorem dX7_roomsOfBeginning_3 : decode cX7_roomsOfBeginning 3 = .ok (.istore_n 3, 1) := by decide +kernel
theorem dX7_roomsOfBeginning_4 : decode cX7_roomsOfBeginning 4 = .ok (.iload_n 3, 1) := by decide +kernel
theorem dX7_roomsOfBeginning_5 : decode cX7_roomsOfBeginning 5 = .ok (.aload_n 0, 1) := by decide +kernel
theorem dX7_roomsOfBeginning_6 : decode cX7_roomsOfBeginning 6 = .ok (.getfield 10, 3) := by decide +kernel
theorem dX7_roomsOfBeginning_9 : decode cX7_roomsOfBeginning 9 = .ok (.getfield 237, 3) := by decide +kernel
theorem dX7_roomsOfBeginning_12 : decode cX7_roomsOfBeginning 12 = .ok (.if_icmp .ge 31, 3) := by decide +kernel
theorem dX7_roomsOfBeginning_15 : decode cX7_roomsOfBeginning 15 = .ok (.aload_n 0, 1) := by decide +kernel
theorem dX7_roomsOfBeginning_16 : decode cX7_roomsOfBeginning 16 = .ok (.aload_n 1, 1) := by decide +kernel
theorem dX7_roomsOfBeginning_17 : decode cX7_roomsOfBeginning 17 = .ok (.aload_n 0, 1) := by decide +kernel
theorem dX7_roomsOfBeginning_18 : decode cX7_roomsOfBeginning 18 = .ok (.getfield 49, 3) := by decide +kernel
theorem dX7_roomsOfBeginning_21 : decode cX7_roomsOfBeginning 21 = .ok (.iload_n 3, 1) := by decide +kernel
theorem dX7_roomsOfBeginning_22 : decode cX7_roomsOfBeginning 22 = .ok (.invokestatic 140, 3) := by decide +kernel
theorem dX7_roomsOfBeginning_25 : decode cX7_roomsOfBeginning 25 = .ok (.invokevirtual 295, 3) := by decide +kernel
theorem dX7_roomsOfBeginning_28 : decode cX7_roomsOfBeginning 28 = .ok (.ifCond .eq 9, 3) := by decide +kernel
theorem dX7_roomsOfBeginning_31 : decode cX7_roomsOfBeginning 31 = .ok (.iload_n 2, 1) := by decide +kernel
theorem dX7_roomsOfBeginning_32 : decode cX7_roomsOfBeginning 32 = .ok (.iconst 1, 1) := by decide +kernel
theorem dX7_roomsOfBeginning_33 : decode cX7_roomsOfBeginning 33 = .ok (.iload_n 3, 1) := by decide +kernel
theorem dX7_roomsOfBeginning_34 : decode cX7_roomsOfBeginning 34 = .ok (.ishl, 1) := by decide +kernel
theorem dX7_roomsOfBeginning_35 : decode cX7_roomsOfBeginning 35 = .ok (.ior, 1) := by decide +kernel
theorem dX7_roomsOfBeginning_36 : decode cX7_roomsOfBeginning 36 = .ok (.istore_n 2, 1) := by decide +kernel
theorem dX7_roomsOfBeginning_37 : decode cX7_roomsOfBeginning 37 = .ok (.iinc 3 1, 3) := by decide +kernel
theorem dX7_roomsOfBeginning_40 : decode cX7_roomsOfBeginning 40 = .ok (.goto (-36), 3) := by decide +kernel
theorem dX7_roomsOfBeginning_43 : decode cX7_roomsOfBeginning 43 = .ok (.iload_n 2, 1) := by decide +kernel
theorem dX7_roomsOfBeginning_44 : decode cX7_roomsOfBeginning 44 = .ok (.ireturn, 1) := by decide +kernel
theorem dX7_situationsOfBeginning_0 : decode cX7_situationsOfBeginning 0 = .ok (.iconst 1, 1) := by decide +kernel
theorem dX7_situationsOfBeginning_1 : decode cX7_situationsOfBeginning 1 = .ok (.iconst 2, 1) := by decide +kernel
theorem dX7_situationsOfBeginning_2 : decode cX7_situationsOfBeginning 2 = .ok (.aload_n 0, 1) := by decide +kernel
theorem dX7_situationsOfBeginning_3 : decode cX7_situationsOfBeginning 3 = .ok (.getfield 10, 3) := by decide +kernel
theorem dX7_situationsOfBeginning_6 : decode cX7_situationsOfBeginning 6 = .ok (.getfield 95, 3) := by decide +kernel
theorem dX7_situationsOfBeginning_9 : decode cX7_situationsOfBeginning 9 = .ok (.imul, 1) := by decide +kernel
theorem dX7_situationsOfBeginning_10 : decode cX7_situationsOfBeginning 10 = .ok (.ishl, 1) := by decide +kernel
theorem dX7_situationsOfBeginning_11 : decode cX7_situationsOfBeginning 11 = .ok (.istore_n 2, 1) := by decide +kernel
theorem dX7_situationsOfBeginning_12 : decode cX7_situationsOfBeginning 12 = .ok (.iconst 0, 1) := by decide +kernel
theorem dX7_situationsOfBeginning_13 : decode cX7_situationsOfBeginning 13 = .ok (.istore_n 3, 1) := by decide +kernel
theorem dX7_situationsOfBeginning_14 : decode cX7_situationsOfBeginning 14 = .ok (.iconst 0, 1) := by decide +kernel
theorem dX7_situationsOfBeginning_15 : decode cX7_situationsOfBeginning 15 = .ok (.istore 4, 2) := by decide +kernel
theorem dX7_situationsOfBeginning_17 : decode cX7_situationsOfBeginning 17 = .ok (.iload 4, 2) := by decide +kernel
theorem dX7_situationsOfBeginning_19 : decode cX7_situationsOfBeginning 19 = .ok (.aload_n 0, 1) := by decide +kernel
theorem dX7_situationsOfBeginning_20 : decode cX7_situationsOfBeginning 20 = .ok (.getfield 10, 3) := by decide +kernel
theorem dX7_situationsOfBeginning_23 : decode cX7_situationsOfBeginning 23 = .ok (.getfield 237, 3) := by decide +kernel
theorem dX7_situationsOfBeginning_26 : decode cX7_situationsOfBeginning 26 = .ok (.if_icmp .ge 59, 3) := by decide +kernel
theorem dX7_situationsOfBeginning_29 : decode cX7_situationsOfBeginning 29 = .ok (.iconst 0, 1) := by decide +kernel
theorem dX7_situationsOfBeginning_30 : decode cX7_situationsOfBeginning 30 = .ok (.istore 5, 2) := by decide +kernel
theorem dX7_situationsOfBeginning_32 : decode cX7_situationsOfBeginning 32 = .ok (.iload 5, 2) := by decide +kernel
theorem dX7_situationsOfBeginning_34 : decode cX7_situationsOfBeginning 34 = .ok (.iconst 4, 1) := by decide +kernel
theorem dX7_situationsOfBeginning_35 : decode cX7_situationsOfBeginning 35 = .ok (.if_icmp .ge 44, 3) := by decide +kernel
theorem dX7_situationsOfBeginning_38 : decode cX7_situationsOfBeginning 38 = .ok (.iconst 0, 1) := by decide +kernel
theorem dX7_situationsOfBeginning_39 : decode cX7_situationsOfBeginning 39 = .ok (.istore 6, 2) := by decide +kernel
theorem dX7_situationsOfBeginning_41 : decode cX7_situationsOfBeginning 41 = .ok (.iload 6, 2) := by decide +kernel
theorem dX7_situationsOfBeginning_43 : decode cX7_situationsOfBeginning 43 = .ok (.iload_n 2, 1) := by decide +kernel
theorem dX7_situationsOfBeginning_44 : decode cX7_situationsOfBeginning 44 = .ok (.if_icmp .ge 29, 3) := by decide +kernel
theorem dX7_situationsOfBeginning_47 : decode cX7_situationsOfBeginning 47 = .ok (.aload_n 0, 1) := by decide +kernel
theorem dX7_situationsOfBeginning_48 : decode cX7_situationsOfBeginning 48 = .ok (.aload_n 1, 1) := by decide +kernel
theorem dX7_situationsOfBeginning_49 : decode cX7_situationsOfBeginning 49 = .ok (.iload 4, 2) := by decide +kernel
theorem dX7_situationsOfBeginning_51 : decode cX7_situationsOfBeginning 51 = .ok (.iload 5, 2) := by decide +kernel
theorem dX7_situationsOfBeginning_53 : decode cX7_situationsOfBeginning 53 = .ok (.iload 6, 2) := by decide +kernel
theorem dX7_situationsOfBeginning_55 : decode cX7_situationsOfBeginning 55 = .ok (.invokestatic 299, 3) := by decide +kernel
theorem dX7_situationsOfBeginning_58 : decode cX7_situationsOfBeginning 58 = .ok (.invokevirtual 295, 3) := by decide +kernel
theorem dX7_situationsOfBeginning_61 : decode cX7_situationsOfBeginning 61 = .ok (.ifCond .eq 6, 3) := by decide +kernel
theorem dX7_situationsOfBeginning_64 : decode cX7_situationsOfBeginning 64 = .ok (.iinc 3 1, 3) := by decide +kernel
theorem dX7_situationsOfBeginning_67 : decode cX7_situationsOfBeginning 67 = .ok (.iinc 6 1, 3) := by decide +kernel
theorem dX7_situationsOfBeginning_70 : decode cX7_situationsOfBeginning 70 = .ok (.goto (-29), 3) := by decide +kernel
theorem dX7_situationsOfBeginning_73 : decode cX7_situationsOfBeginning 73 = .ok (.iinc 5 1, 3) := by decide +kernel
theorem dX7_situationsOfBeginning_76 : decode cX7_situationsOfBeginning 76 = .ok (.goto (-44), 3) := by decide +kernel
theorem dX7_situationsOfBeginning_79 : decode cX7_situationsOfBeginning 79 = .ok (.iinc 4 1, 3) := by decide +kernel
theorem dX7_situationsOfBeginning_82 : decode cX7_situationsOfBeginning 82 = .ok (.goto (-65), 3) := by decide +kernel
theorem dX7_situationsOfBeginning_85 : decode cX7_situationsOfBeginning 85 = .ok (.iload_n 3, 1) := by decide +kernel
theorem dX7_situationsOfBeginning_86 : decode cX7_situationsOfBeginning 86 = .ok (.ireturn, 1) := by decide +kernel
