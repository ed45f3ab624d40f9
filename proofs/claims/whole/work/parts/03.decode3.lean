theorem dX8_write_30 : decode cX8_write 30 = .ok (.iaload, 1) := by decide +kernel
theorem dX8_write_31 : decode cX8_write 31 = .ok (.istore_n 2, 1) := by decide +kernel
theorem dX8_write_32 : decode cX8_write 32 = .ok (.bipush 100, 2) := by decide +kernel
theorem dX8_write_34 : decode cX8_write 34 = .ok (.istore_n 3, 1) := by decide +kernel
theorem dX8_write_35 : decode cX8_write 35 = .ok (.iload_n 3, 1) := by decide +kernel
theorem dX8_write_36 : decode cX8_write 36 = .ok (.ifCond .le 29, 3) := by decide +kernel
theorem dX8_write_39 : decode cX8_write 39 = .ok (.iload_n 2, 1) := by decide +kernel
theorem dX8_write_40 : decode cX8_write 40 = .ok (.iload_n 3, 1) := by decide +kernel
theorem dX8_write_41 : decode cX8_write 41 = .ok (.if_icmp .lt 16, 3) := by decide +kernel
theorem dX8_write_44 : decode cX8_write 44 = .ok (.aload_n 0, 1) := by decide +kernel
theorem dX8_write_45 : decode cX8_write 45 = .ok (.bipush 48, 2) := by decide +kernel
theorem dX8_write_47 : decode cX8_write 47 = .ok (.iload_n 2, 1) := by decide +kernel
theorem dX8_write_48 : decode cX8_write 48 = .ok (.iload_n 3, 1) := by decide +kernel
theorem dX8_write_49 : decode cX8_write 49 = .ok (.idiv, 1) := by decide +kernel
theorem dX8_write_50 : decode cX8_write 50 = .ok (.bipush 10, 2) := by decide +kernel
theorem dX8_write_52 : decode cX8_write 52 = .ok (.irem, 1) := by decide +kernel
theorem dX8_write_53 : decode cX8_write 53 = .ok (.iadd, 1) := by decide +kernel
theorem dX8_write_54 : decode cX8_write 54 = .ok (.invokevirtual 159, 3) := by decide +kernel
theorem dX8_write_57 : decode cX8_write 57 = .ok (.iload_n 3, 1) := by decide +kernel
theorem dX8_write_58 : decode cX8_write 58 = .ok (.bipush 10, 2) := by decide +kernel
theorem dX8_write_60 : decode cX8_write 60 = .ok (.idiv, 1) := by decide +kernel
theorem dX8_write_61 : decode cX8_write 61 = .ok (.istore_n 3, 1) := by decide +kernel
theorem dX8_write_62 : decode cX8_write 62 = .ok (.goto (-27), 3) := by decide +kernel
theorem dX8_write_65 : decode cX8_write 65 = .ok (.iinc 1 1, 3) := by decide +kernel
theorem dX8_write_68 : decode cX8_write 68 = .ok (.goto (-61), 3) := by decide +kernel
theorem dX8_write_71 : decode cX8_write 71 = .ok (.aload_n 0, 1) := by decide +kernel
theorem dX8_write_72 : decode cX8_write 72 = .ok (.getfield 156, 3) := by decide +kernel
theorem dX8_write_75 : decode cX8_write 75 = .ok (.ireturn, 1) := by decide +kernel
theorem dX8_pads_0 : decode cX8_pads 0 = .ok (.aload_n 0, 1) := by decide +kernel
theorem dX8_pads_1 : decode cX8_pads 1 = .ok (.getfield 22, 3) := by decide +kernel
theorem dX8_pads_4 : decode cX8_pads 4 = .ok (.aload_n 0, 1) := by decide +kernel
theorem dX8_pads_5 : decode cX8_pads 5 = .ok (.getfield 156, 3) := by decide +kernel
theorem dX8_pads_8 : decode cX8_pads 8 = .ok (.iload_n 1, 1) := by decide +kernel
theorem dX8_pads_9 : decode cX8_pads 9 = .ok (.iastore, 1) := by decide +kernel
theorem dX8_pads_10 : decode cX8_pads 10 = .ok (.aload_n 0, 1) := by decide +kernel
theorem dX8_pads_11 : decode cX8_pads 11 = .ok (.dup, 1) := by decide +kernel
theorem dX8_pads_12 : decode cX8_pads 12 = .ok (.getfield 156, 3) := by decide +kernel
theorem dX8_pads_15 : decode cX8_pads 15 = .ok (.iconst 1, 1) := by decide +kernel
theorem dX8_pads_16 : decode cX8_pads 16 = .ok (.iadd, 1) := by decide +kernel
theorem dX8_pads_17 : decode cX8_pads 17 = .ok (.putfield 156, 3) := by decide +kernel
theorem dX8_pads_20 : decode cX8_pads 20 = .ok (.return_, 1) := by decide +kernel
theorem dX8_setAt_0 : decode cX8_setAt 0 = .ok (.iconst 0, 1) := by decide +kernel
theorem dX8_setAt_1 : decode cX8_setAt 1 = .ok (.istore_n 3, 1) := by decide +kernel
theorem dX8_setAt_2 : decode cX8_setAt 2 = .ok (.iconst 0, 1) := by decide +kernel
theorem dX8_setAt_3 : decode cX8_setAt 3 = .ok (.istore 4, 2) := by decide +kernel
theorem dX8_setAt_5 : decode cX8_setAt 5 = .ok (.iload 4, 2) := by decide +kernel
theorem dX8_setAt_7 : decode cX8_setAt 7 = .ok (.aload_n 0, 1) := by decide +kernel
theorem dX8_setAt_8 : decode cX8_setAt 8 = .ok (.getfield 7, 3) := by decide +kernel
theorem dX8_setAt_11 : decode cX8_setAt 11 = .ok (.bipush 8, 2) := by decide +kernel
theorem dX8_setAt_13 : decode cX8_setAt 13 = .ok (.iaload, 1) := by decide +kernel
theorem dX8_setAt_14 : decode cX8_setAt 14 = .ok (.if_icmp .ge 46, 3) := by decide +kernel
theorem dX8_setAt_17 : decode cX8_setAt 17 = .ok (.iload_n 2, 1) := by decide +kernel
theorem dX8_setAt_18 : decode cX8_setAt 18 = .ok (.ifCond .ne 42, 3) := by decide +kernel
theorem dX8_setAt_21 : decode cX8_setAt 21 = .ok (.iload_n 3, 1) := by decide +kernel
theorem dX8_setAt_22 : decode cX8_setAt 22 = .ok (.aload_n 0, 1) := by decide +kernel
theorem dX8_setAt_23 : decode cX8_setAt 23 = .ok (.iload 4, 2) := by decide +kernel
theorem dX8_setAt_25 : decode cX8_setAt 25 = .ok (.iconst 0, 1) := by decide +kernel
theorem dX8_setAt_26 : decode cX8_setAt 26 = .ok (.invokevirtual 48, 3) := by decide +kernel
theorem dX8_setAt_29 : decode cX8_setAt 29 = .ok (.iload_n 1, 1) := by decide +kernel
theorem dX8_setAt_30 : decode cX8_setAt 30 = .ok (.if_icmp .eq 14, 3) := by decide +kernel
theorem dX8_setAt_33 : decode cX8_setAt 33 = .ok (.aload_n 0, 1) := by decide +kernel
theorem dX8_setAt_34 : decode cX8_setAt 34 = .ok (.iload 4, 2) := by decide +kernel
theorem dX8_setAt_36 : decode cX8_setAt 36 = .ok (.iconst 1, 1) := by decide +kernel
theorem dX8_setAt_37 : decode cX8_setAt 37 = .ok (.invokevirtual 48, 3) := by decide +kernel
theorem dX8_setAt_40 : decode cX8_setAt 40 = .ok (.iload_n 1, 1) := by decide +kernel
theorem dX8_setAt_41 : decode cX8_setAt 41 = .ok (.if_icmp .ne 10, 3) := by decide +kernel
theorem dX8_setAt_44 : decode cX8_setAt 44 = .ok (.iconst 1, 1) := by decide +kernel
theorem dX8_setAt_45 : decode cX8_setAt 45 = .ok (.iload 4, 2) := by decide +kernel
theorem dX8_setAt_47 : decode cX8_setAt 47 = .ok (.ishl, 1) := by decide +kernel
theorem dX8_setAt_48 : decode cX8_setAt 48 = .ok (.goto 4, 3) := by decide +kernel
theorem dX8_setAt_51 : decode cX8_setAt 51 = .ok (.iconst 0, 1) := by decide +kernel
theorem dX8_setAt_52 : decode cX8_setAt 52 = .ok (.ior, 1) := by decide +kernel
theorem dX8_setAt_53 : decode cX8_setAt 53 = .ok (.istore_n 3, 1) := by decide +kernel
theorem dX8_setAt_54 : decode cX8_setAt 54 = .ok (.iinc 4 1, 3) := by decide +kernel
theorem dX8_setAt_57 : decode cX8_setAt 57 = .ok (.goto (-52), 3) := by decide +kernel
theorem dX8_setAt_60 : decode cX8_setAt 60 = .ok (.iconst 0, 1) := by decide +kernel
theorem dX8_setAt_61 : decode cX8_setAt 61 = .ok (.istore 4, 2) := by decide +kernel
theorem dX8_setAt_63 : decode cX8_setAt 63 = .ok (.iload 4, 2) := by decide +kernel
theorem dX8_setAt_65 : decode cX8_setAt 65 = .ok (.aload_n 0, 1) := by decide +kernel
theorem dX8_setAt_66 : decode cX8_setAt 66 = .ok (.getfield 7, 3) := by decide +kernel
theorem dX8_setAt_69 : decode cX8_setAt 69 = .ok (.bipush 93, 2) := by decide +kernel
theorem dX8_setAt_71 : decode cX8_setAt 71 = .ok (.iaload, 1) := by decide +kernel
theorem dX8_setAt_72 : decode cX8_setAt 72 = .ok (.if_icmp .ge 40, 3) := by decide +kernel
theorem dX8_setAt_75 : decode cX8_setAt 75 = .ok (.iload_n 2, 1) := by decide +kernel
theorem dX8_setAt_76 : decode cX8_setAt 76 = .ok (.iconst 1, 1) := by decide +kernel
theorem dX8_setAt_77 : decode cX8_setAt 77 = .ok (.if_icmp .ne 35, 3) := by decide +kernel
theorem dX8_setAt_80 : decode cX8_setAt 80 = .ok (.iload_n 3, 1) := by decide +kernel
theorem dX8_setAt_81 : decode cX8_setAt 81 = .ok (.aload_n 0, 1) := by decide +kernel
theorem dX8_setAt_82 : decode cX8_setAt 82 = .ok (.getfield 7, 3) := by decide +kernel
theorem dX8_setAt_85 : decode cX8_setAt 85 = .ok (.iload 4, 2) := by decide +kernel
theorem dX8_setAt_87 : decode cX8_setAt 87 = .ok (.iconst 0, 1) := by decide +kernel
theorem dX8_setAt_88 : decode cX8_setAt 88 = .ok (.invokestatic 128, 3) := by decide +kernel
theorem dX8_setAt_91 : decode cX8_setAt 91 = .ok (.iaload, 1) := by decide +kernel
theorem dX8_setAt_92 : decode cX8_setAt 92 = .ok (.iload_n 1, 1) := by decide +kernel
theorem dX8_setAt_93 : decode cX8_setAt 93 = .ok (.if_icmp .ne 10, 3) := by decide +kernel
theorem dX8_setAt_96 : decode cX8_setAt 96 = .ok (.iconst 1, 1) := by decide +kernel
theorem dX8_setAt_97 : decode cX8_setAt 97 = .ok (.iload 4, 2) := by decide +kernel
theorem dX8_setAt_99 : decode cX8_setAt 99 = .ok (.ishl, 1) := by decide +kernel
theorem dX8_setAt_100 : decode cX8_setAt 100 = .ok (.goto 4, 3) := by decide +kernel
theorem dX8_setAt_103 : decode cX8_setAt 103 = .ok (.iconst 0, 1) := by decide +kernel
theorem dX8_setAt_104 : decode cX8_setAt 104 = .ok (.ior, 1) := by decide +kernel
theorem dX8_setAt_105 : decode cX8_setAt 105 = .ok (.istore_n 3, 1) := by decide +kernel
theorem dX8_setAt_106 : decode cX8_setAt 106 = .ok (.iinc 4 1, 3) := by decide +kernel
theorem dX8_setAt_109 : decode cX8_setAt 109 = .ok (.goto (-46), 3) := by decide +kernel
theorem dX8_setAt_112 : decode cX8_setAt 112 = .ok (.iload_n 3, 1) := by decide +kernel
theorem dX8_setAt_113 : decode cX8_setAt 113 = .ok (.ireturn, 1) := by decide +kernel
theorem dX8_ofTown_0 : decode cX8_ofTown 0 = .ok (.iload_n 1, 1) := by decide +kernel
theorem dX8_ofTown_1 : decode cX8_ofTown 1 = .ok (.invokestatic 108, 3) := by decide +kernel
theorem dX8_ofTown_4 : decode cX8_ofTown 4 = .ok (.ifCond .ne 5, 3) := by decide +kernel
theorem dX8_ofTown_7 : decode cX8_ofTown 7 = .ok (.iconst (-1), 1) := by decide +kernel
theorem dX8_ofTown_8 : decode cX8_ofTown 8 = .ok (.ireturn, 1) := by decide +kernel
theorem dX8_ofTown_9 : decode cX8_ofTown 9 = .ok (.iload_n 2, 1) := by decide +kernel
theorem dX8_ofTown_10 : decode cX8_ofTown 10 = .ok (.tableswitch 62 0 3 #[30, 39, 39, 48], 30) := by decide +kernel
theorem dX8_ofTown_40 : decode cX8_ofTown 40 = .ok (.aload_n 0, 1) := by decide +kernel
theorem dX8_ofTown_41 : decode cX8_ofTown 41 = .ok (.getfield 7, 3) := by decide +kernel
theorem dX8_ofTown_44 : decode cX8_ofTown 44 = .ok (.iconst 0, 1) := by decide +kernel
theorem dX8_ofTown_45 : decode cX8_ofTown 45 = .ok (.iload_n 1, 1) := by decide +kernel
theorem dX8_ofTown_46 : decode cX8_ofTown 46 = .ok (.iadd, 1) := by decide +kernel
theorem dX8_ofTown_47 : decode cX8_ofTown 47 = .ok (.iaload, 1) := by decide +kernel
theorem dX8_ofTown_48 : decode cX8_ofTown 48 = .ok (.ireturn, 1) := by decide +kernel
theorem dX8_ofTown_49 : decode cX8_ofTown 49 = .ok (.aload_n 0, 1) := by decide +kernel
theorem dX8_ofTown_50 : decode cX8_ofTown 50 = .ok (.iload_n 1, 1) := by decide +kernel
theorem dX8_ofTown_51 : decode cX8_ofTown 51 = .ok (.iload_n 2, 1) := by decide +kernel
theorem dX8_ofTown_52 : decode cX8_ofTown 52 = .ok (.iconst 1, 1) := by decide +kernel
theorem dX8_ofTown_53 : decode cX8_ofTown 53 = .ok (.isub, 1) := by decide +kernel
theorem dX8_ofTown_54 : decode cX8_ofTown 54 = .ok (.invokevirtual 163, 3) := by decide +kernel
theorem dX8_ofTown_57 : decode cX8_ofTown 57 = .ok (.ireturn, 1) := by decide +kernel
theorem dX8_ofTown_58 : decode cX8_ofTown 58 = .ok (.aload_n 0, 1) := by decide +kernel
theorem dX8_ofTown_59 : decode cX8_ofTown 59 = .ok (.iload_n 1, 1) := by decide +kernel
theorem dX8_ofTown_60 : decode cX8_ofTown 60 = .ok (.invokevirtual 86, 3) := by decide +kernel
theorem dX8_ofTown_63 : decode cX8_ofTown 63 = .ok (.ifCond .eq 7, 3) := by decide +kernel
theorem dX8_ofTown_66 : decode cX8_ofTown 66 = .ok (.iconst 1, 1) := by decide +kernel
theorem dX8_ofTown_67 : decode cX8_ofTown 67 = .ok (.goto 4, 3) := by decide +kernel
theorem dX8_ofTown_70 : decode cX8_ofTown 70 = .ok (.iconst 0, 1) := by decide +kernel
theorem dX8_ofTown_71 : decode cX8_ofTown 71 = .ok (.ireturn, 1) := by decide +kernel
theorem dX8_ofTown_72 : decode cX8_ofTown 72 = .ok (.bipush (-2), 2) := by decide +kernel
theorem dX8_ofTown_74 : decode cX8_ofTown 74 = .ok (.ireturn, 1) := by decide +kernel
theorem dX8_ofRoad_0 : decode cX8_ofRoad 0 = .ok (.aload_n 0, 1) := by decide +kernel
theorem dX8_ofRoad_1 : decode cX8_ofRoad 1 = .ok (.iload_n 1, 1) := by decide +kernel
theorem dX8_ofRoad_2 : decode cX8_ofRoad 2 = .ok (.invokevirtual 118, 3) := by decide +kernel
theorem dX8_ofRoad_5 : decode cX8_ofRoad 5 = .ok (.ifCond .ne 5, 3) := by decide +kernel
theorem dX8_ofRoad_8 : decode cX8_ofRoad 8 = .ok (.iconst (-1), 1) := by decide +kernel
theorem dX8_ofRoad_9 : decode cX8_ofRoad 9 = .ok (.ireturn, 1) := by decide +kernel
theorem dX8_ofRoad_10 : decode cX8_ofRoad 10 = .ok (.iload_n 2, 1) := by decide +kernel
theorem dX8_ofRoad_11 : decode cX8_ofRoad 11 = .ok (.tableswitch 99 0 8 #[49, 49, 49, 49, 60, 66, 66, 83, 83], 49) := by decide +kernel
theorem dX8_ofRoad_60 : decode cX8_ofRoad 60 = .ok (.aload_n 0, 1) := by decide +kernel
theorem dX8_ofRoad_61 : decode cX8_ofRoad 61 = .ok (.getfield 7, 3) := by decide +kernel
theorem dX8_ofRoad_64 : decode cX8_ofRoad 64 = .ok (.iload_n 1, 1) := by decide +kernel
theorem dX8_ofRoad_65 : decode cX8_ofRoad 65 = .ok (.iload_n 2, 1) := by decide +kernel
theorem dX8_ofRoad_66 : decode cX8_ofRoad 66 = .ok (.invokestatic 40, 3) := by decide +kernel
theorem dX8_ofRoad_69 : decode cX8_ofRoad 69 = .ok (.iaload, 1) := by decide +kernel
theorem dX8_ofRoad_70 : decode cX8_ofRoad 70 = .ok (.ireturn, 1) := by decide +kernel
theorem dX8_ofRoad_71 : decode cX8_ofRoad 71 = .ok (.aload_n 0, 1) := by decide +kernel
theorem dX8_ofRoad_72 : decode cX8_ofRoad 72 = .ok (.iload_n 1, 1) := by decide +kernel
theorem dX8_ofRoad_73 : decode cX8_ofRoad 73 = .ok (.invokevirtual 51, 3) := by decide +kernel
theorem dX8_ofRoad_76 : decode cX8_ofRoad 76 = .ok (.ireturn, 1) := by decide +kernel
theorem dX8_ofRoad_77 : decode cX8_ofRoad 77 = .ok (.aload_n 0, 1) := by decide +kernel
theorem dX8_ofRoad_78 : decode cX8_ofRoad 78 = .ok (.iload_n 1, 1) := by decide +kernel
theorem dX8_ofRoad_79 : decode cX8_ofRoad 79 = .ok (.iload_n 2, 1) := by decide +kernel
theorem dX8_ofRoad_80 : decode cX8_ofRoad 80 = .ok (.iconst 5, 1) := by decide +kernel
theorem dX8_ofRoad_81 : decode cX8_ofRoad 81 = .ok (.isub, 1) := by decide +kernel
theorem dX8_ofRoad_82 : decode cX8_ofRoad 82 = .ok (.invokevirtual 60, 3) := by decide +kernel
theorem dX8_ofRoad_85 : decode cX8_ofRoad 85 = .ok (.ifCond .eq 7, 3) := by decide +kernel
theorem dX8_ofRoad_88 : decode cX8_ofRoad 88 = .ok (.iconst 1, 1) := by decide +kernel
theorem dX8_ofRoad_89 : decode cX8_ofRoad 89 = .ok (.goto 4, 3) := by decide +kernel
theorem dX8_ofRoad_92 : decode cX8_ofRoad 92 = .ok (.iconst 0, 1) := by decide +kernel
theorem dX8_ofRoad_93 : decode cX8_ofRoad 93 = .ok (.ireturn, 1) := by decide +kernel
theorem dX8_ofRoad_94 : decode cX8_ofRoad 94 = .ok (.aload_n 0, 1) := by decide +kernel
theorem dX8_ofRoad_95 : decode cX8_ofRoad 95 = .ok (.getfield 7, 3) := by decide +kernel
theorem dX8_ofRoad_98 : decode cX8_ofRoad 98 = .ok (.iload_n 1, 1) := by decide +kernel
theorem dX8_ofRoad_99 : decode cX8_ofRoad 99 = .ok (.iconst 4, 1) := by decide +kernel
theorem dX8_ofRoad_100 : decode cX8_ofRoad 100 = .ok (.iload_n 2, 1) := by decide +kernel
theorem dX8_ofRoad_101 : decode cX8_ofRoad 101 = .ok (.iadd, 1) := by decide +kernel
theorem dX8_ofRoad_102 : decode cX8_ofRoad 102 = .ok (.bipush 7, 2) := by decide +kernel
theorem dX8_ofRoad_104 : decode cX8_ofRoad 104 = .ok (.isub, 1) := by decide +kernel
theorem dX8_ofRoad_105 : decode cX8_ofRoad 105 = .ok (.invokestatic 40, 3) := by decide +kernel
theorem dX8_ofRoad_108 : decode cX8_ofRoad 108 = .ok (.iaload, 1) := by decide +kernel
theorem dX8_ofRoad_109 : decode cX8_ofRoad 109 = .ok (.ireturn, 1) := by decide +kernel
theorem dX8_ofRoad_110 : decode cX8_ofRoad 110 = .ok (.bipush (-2), 2) := by decide +kernel
theorem dX8_ofRoad_112 : decode cX8_ofRoad 112 = .ok (.ireturn, 1) := by decide +kernel
theorem dX8_ofCart_0 : decode cX8_ofCart 0 = .ok (.aload_n 0, 1) := by decide +kernel
theorem dX8_ofCart_1 : decode cX8_ofCart 1 = .ok (.iload_n 1, 1) := by decide +kernel
theorem dX8_ofCart_2 : decode cX8_ofCart 2 = .ok (.invokevirtual 134, 3) := by decide +kernel
theorem dX8_ofCart_5 : decode cX8_ofCart 5 = .ok (.ifCond .ne 5, 3) := by decide +kernel
theorem dX8_ofCart_8 : decode cX8_ofCart 8 = .ok (.iconst (-1), 1) := by decide +kernel
theorem dX8_ofCart_9 : decode cX8_ofCart 9 = .ok (.ireturn, 1) := by decide +kernel
theorem dX8_ofCart_10 : decode cX8_ofCart 10 = .ok (.iload_n 2, 1) := by decide +kernel
theorem dX8_ofCart_11 : decode cX8_ofCart 11 = .ok (.iconst 0, 1) := by decide +kernel
theorem dX8_ofCart_12 : decode cX8_ofCart 12 = .ok (.bipush 7, 2) := by decide +kernel
theorem dX8_ofCart_14 : decode cX8_ofCart 14 = .ok (.invokestatic 29, 3) := by decide +kernel
theorem dX8_ofCart_17 : decode cX8_ofCart 17 = .ok (.ifCond .eq 16, 3) := by decide +kernel
theorem dX8_ofCart_20 : decode cX8_ofCart 20 = .ok (.aload_n 0, 1) := by decide +kernel
theorem dX8_ofCart_21 : decode cX8_ofCart 21 = .ok (.getfield 7, 3) := by decide +kernel
theorem dX8_ofCart_24 : decode cX8_ofCart 24 = .ok (.iload_n 1, 1) := by decide +kernel
theorem dX8_ofCart_25 : decode cX8_ofCart 25 = .ok (.iload_n 2, 1) := by decide +kernel
theorem dX8_ofCart_26 : decode cX8_ofCart 26 = .ok (.invokestatic 128, 3) := by decide +kernel
theorem dX8_ofCart_29 : decode cX8_ofCart 29 = .ok (.iaload, 1) := by decide +kernel
theorem dX8_ofCart_30 : decode cX8_ofCart 30 = .ok (.goto 5, 3) := by decide +kernel
theorem dX8_ofCart_33 : decode cX8_ofCart 33 = .ok (.bipush (-2), 2) := by decide +kernel
theorem dX8_ofCart_35 : decode cX8_ofCart 35 = .ok (.ireturn, 1) := by decide +kernel
theorem dX8_worth_0 : decode cX8_worth 0 = .ok (.iload_n 1, 1) := by decide +kernel
theorem dX8_worth_1 : decode cX8_worth 1 = .ok (.invokestatic 108, 3) := by decide +kernel
theorem dX8_worth_4 : decode cX8_worth 4 = .ok (.ifCond .ne 7, 3) := by decide +kernel
theorem dX8_worth_7 : decode cX8_worth 7 = .ok (.ldc2_w 166, 3) := by decide +kernel
theorem dX8_worth_10 : decode cX8_worth 10 = .ok (.lreturn, 1) := by decide +kernel
theorem dX8_worth_11 : decode cX8_worth 11 = .ok (.iload_n 2, 1) := by decide +kernel
theorem dX8_worth_12 : decode cX8_worth 12 = .ok (.iconst 0, 1) := by decide +kernel
theorem dX8_worth_13 : decode cX8_worth 13 = .ok (.iconst 4, 1) := by decide +kernel
theorem dX8_worth_14 : decode cX8_worth 14 = .ok (.invokestatic 29, 3) := by decide +kernel
theorem dX8_worth_17 : decode cX8_worth 17 = .ok (.ifCond .eq 31, 3) := by decide +kernel
theorem dX8_worth_20 : decode cX8_worth 20 = .ok (.iload_n 3, 1) := by decide +kernel
theorem dX8_worth_21 : decode cX8_worth 21 = .ok (.iconst 0, 1) := by decide +kernel
theorem dX8_worth_22 : decode cX8_worth 22 = .ok (.iconst 1, 1) := by decide +kernel
theorem dX8_worth_23 : decode cX8_worth 23 = .ok (.invokestatic 29, 3) := by decide +kernel
theorem dX8_worth_26 : decode cX8_worth 26 = .ok (.ifCond .eq 22, 3) := by decide +kernel
theorem dX8_worth_29 : decode cX8_worth 29 = .ok (.aload_n 0, 1) := by decide +kernel
theorem dX8_worth_30 : decode cX8_worth 30 = .ok (.iload_n 1, 1) := by decide +kernel
theorem dX8_worth_31 : decode cX8_worth 31 = .ok (.iload_n 2, 1) := by decide +kernel
theorem dX8_worth_32 : decode cX8_worth 32 = .ok (.iload_n 3, 1) := by decide +kernel
theorem dX8_worth_33 : decode cX8_worth 33 = .ok (.iconst 1, 1) := by decide +kernel
theorem dX8_worth_34 : decode cX8_worth 34 = .ok (.if_icmp .ne 7, 3) := by decide +kernel
theorem dX8_worth_37 : decode cX8_worth 37 = .ok (.iconst 1, 1) := by decide +kernel
theorem dX8_worth_38 : decode cX8_worth 38 = .ok (.goto 4, 3) := by decide +kernel
theorem dX8_worth_41 : decode cX8_worth 41 = .ok (.iconst 0, 1) := by decide +kernel
theorem dX8_worth_42 : decode cX8_worth 42 = .ok (.invokevirtual 82, 3) := by decide +kernel
theorem dX8_worth_45 : decode cX8_worth 45 = .ok (.goto 6, 3) := by decide +kernel
theorem dX8_worth_48 : decode cX8_worth 48 = .ok (.ldc2_w 168, 3) := by decide +kernel
theorem dX8_worth_51 : decode cX8_worth 51 = .ok (.lreturn, 1) := by decide +kernel
theorem dX8_sign_0 : decode cX8_sign 0 = .ok (.iload_n 1, 1) := by decide +kernel
theorem dX8_sign_1 : decode cX8_sign 1 = .ok (.iconst 0, 1) := by decide +kernel
theorem dX8_sign_2 : decode cX8_sign 2 = .ok (.aload_n 0, 1) := by decide +kernel
theorem dX8_sign_3 : decode cX8_sign 3 = .ok (.getfield 156, 3) := by decide +kernel
theorem dX8_sign_6 : decode cX8_sign 6 = .ok (.iconst 1, 1) := by decide +kernel
theorem dX8_sign_7 : decode cX8_sign 7 = .ok (.isub, 1) := by decide +kernel
theorem dX8_sign_8 : decode cX8_sign 8 = .ok (.invokestatic 29, 3) := by decide +kernel
theorem dX8_sign_11 : decode cX8_sign 11 = .ok (.ifCond .eq 12, 3) := by decide +kernel
theorem dX8_sign_14 : decode cX8_sign 14 = .ok (.aload_n 0, 1) := by decide +kernel
theorem dX8_sign_15 : decode cX8_sign 15 = .ok (.getfield 22, 3) := by decide +kernel
theorem dX8_sign_18 : decode cX8_sign 18 = .ok (.iload_n 1, 1) := by decide +kernel
theorem dX8_sign_19 : decode cX8_sign 19 = .ok (.iaload, 1) := by decide +kernel
theorem dX8_sign_20 : decode cX8_sign 20 = .ok (.goto 4, 3) := by decide +kernel
theorem dX8_sign_23 : decode cX8_sign 23 = .ok (.iconst (-1), 1) := by decide +kernel
theorem dX8_sign_24 : decode cX8_sign 24 = .ok (.ireturn, 1) := by decide +kernel
theorem dX8_ofCarts_0 : decode cX8_ofCarts 0 = .ok (.iconst 0, 1) := by decide +kernel
theorem dX8_ofCarts_1 : decode cX8_ofCarts 1 = .ok (.istore_n 2, 1) := by decide +kernel
theorem dX8_ofCarts_2 : decode cX8_ofCarts 2 = .ok (.iconst 0, 1) := by decide +kernel
theorem dX8_ofCarts_3 : decode cX8_ofCarts 3 = .ok (.istore_n 3, 1) := by decide +kernel
theorem dX8_ofCarts_4 : decode cX8_ofCarts 4 = .ok (.iload_n 3, 1) := by decide +kernel
theorem dX8_ofCarts_5 : decode cX8_ofCarts 5 = .ok (.aload_n 0, 1) := by decide +kernel
theorem dX8_ofCarts_6 : decode cX8_ofCarts 6 = .ok (.getfield 7, 3) := by decide +kernel
theorem dX8_ofCarts_9 : decode cX8_ofCarts 9 = .ok (.bipush 93, 2) := by decide +kernel
theorem dX8_ofCarts_11 : decode cX8_ofCarts 11 = .ok (.iaload, 1) := by decide +kernel
theorem dX8_ofCarts_12 : decode cX8_ofCarts 12 = .ok (.if_icmp .ge 22, 3) := by decide +kernel
theorem dX8_ofCarts_15 : decode cX8_ofCarts 15 = .ok (.iload_n 2, 1) := by decide +kernel
theorem dX8_ofCarts_16 : decode cX8_ofCarts 16 = .ok (.aload_n 0, 1) := by decide +kernel
theorem dX8_ofCarts_17 : decode cX8_ofCarts 17 = .ok (.getfield 7, 3) := by decide +kernel
theorem dX8_ofCarts_20 : decode cX8_ofCarts 20 = .ok (.iload_n 3, 1) := by decide +kernel
theorem dX8_ofCarts_21 : decode cX8_ofCarts 21 = .ok (.iload_n 1, 1) := by decide +kernel
theorem dX8_ofCarts_22 : decode cX8_ofCarts 22 = .ok (.invokestatic 128, 3) := by decide +kernel
theorem dX8_ofCarts_25 : decode cX8_ofCarts 25 = .ok (.iaload, 1) := by decide +kernel
theorem dX8_ofCarts_26 : decode cX8_ofCarts 26 = .ok (.iadd, 1) := by decide +kernel
theorem dX8_ofCarts_27 : decode cX8_ofCarts 27 = .ok (.istore_n 2, 1) := by decide +kernel
theorem dX8_ofCarts_28 : decode cX8_ofCarts 28 = .ok (.iinc 3 1, 3) := by decide +kernel
theorem dX8_ofCarts_31 : decode cX8_ofCarts 31 = .ok (.goto (-27), 3) := by decide +kernel
theorem dX8_ofCarts_34 : decode cX8_ofCarts 34 = .ok (.iload_n 2, 1) := by decide +kernel
theorem dX8_ofCarts_35 : decode cX8_ofCarts 35 = .ok (.ireturn, 1) := by decide +kernel
theorem dX8_count_0 : decode cX8_count 0 = .ok (.iload_n 1, 1) := by decide +kernel
theorem dX8_count_1 : decode cX8_count 1 = .ok (.bipush 12, 2) := by decide +kernel
theorem dX8_count_3 : decode cX8_count 3 = .ok (.bipush 15, 2) := by decide +kernel
theorem dX8_count_5 : decode cX8_count 5 = .ok (.invokestatic 29, 3) := by decide +kernel
theorem dX8_count_8 : decode cX8_count 8 = .ok (.ifCond .eq 17, 3) := by decide +kernel
theorem dX8_count_11 : decode cX8_count 11 = .ok (.aload_n 0, 1) := by decide +kernel
theorem dX8_count_12 : decode cX8_count 12 = .ok (.getfield 7, 3) := by decide +kernel
theorem dX8_count_15 : decode cX8_count 15 = .ok (.sipush 142, 3) := by decide +kernel
theorem dX8_count_18 : decode cX8_count 18 = .ok (.iload_n 1, 1) := by decide +kernel
theorem dX8_count_19 : decode cX8_count 19 = .ok (.iadd, 1) := by decide +kernel
theorem dX8_count_20 : decode cX8_count 20 = .ok (.bipush 12, 2) := by decide +kernel
theorem dX8_count_22 : decode cX8_count 22 = .ok (.isub, 1) := by decide +kernel
theorem dX8_count_23 : decode cX8_count 23 = .ok (.iaload, 1) := by decide +kernel
theorem dX8_count_24 : decode cX8_count 24 = .ok (.ireturn, 1) := by decide +kernel
theorem dX8_count_25 : decode cX8_count 25 = .ok (.iload_n 1, 1) := by decide +kernel
theorem dX8_count_26 : decode cX8_count 26 = .ok (.tableswitch 180 0 17 #[86, 94, 102, 107, 113, 113, 113, 126, 141, 146, 152, 161, 180, 180, 180, 180, 170, 175], 86) := by decide +kernel
theorem dX8_count_112 : decode cX8_count 112 = .ok (.aload_n 0, 1) := by decide +kernel
theorem dX8_count_113 : decode cX8_count 113 = .ok (.getfield 7, 3) := by decide +kernel
theorem dX8_count_116 : decode cX8_count 116 = .ok (.bipush 8, 2) := by decide +kernel
theorem dX8_count_118 : decode cX8_count 118 = .ok (.iaload, 1) := by decide +kernel
theorem dX8_count_119 : decode cX8_count 119 = .ok (.ireturn, 1) := by decide +kernel
theorem dX8_count_120 : decode cX8_count 120 = .ok (.aload_n 0, 1) := by decide +kernel
theorem dX8_count_121 : decode cX8_count 121 = .ok (.getfield 7, 3) := by decide +kernel
theorem dX8_count_124 : decode cX8_count 124 = .ok (.bipush 93, 2) := by decide +kernel
theorem dX8_count_126 : decode cX8_count 126 = .ok (.iaload, 1) := by decide +kernel
theorem dX8_count_127 : decode cX8_count 127 = .ok (.ireturn, 1) := by decide +kernel
theorem dX8_count_128 : decode cX8_count 128 = .ok (.aload_n 0, 1) := by decide +kernel
theorem dX8_count_129 : decode cX8_count 129 = .ok (.invokevirtual 99, 3) := by decide +kernel
theorem dX8_count_132 : decode cX8_count 132 = .ok (.ireturn, 1) := by decide +kernel
theorem dX8_count_133 : decode cX8_count 133 = .ok (.aload_n 0, 1) := by decide +kernel
theorem dX8_count_134 : decode cX8_count 134 = .ok (.iconst 2, 1) := by decide +kernel
theorem dX8_count_135 : decode cX8_count 135 = .ok (.invokevirtual 170, 3) := by decide +kernel
theorem dX8_count_138 : decode cX8_count 138 = .ok (.ireturn, 1) := by decide +kernel
theorem dX8_count_139 : decode cX8_count 139 = .ok (.aload_n 0, 1) := by decide +kernel
theorem dX8_count_140 : decode cX8_count 140 = .ok (.getfield 7, 3) := by decide +kernel
theorem dX8_count_143 : decode cX8_count 143 = .ok (.sipush 147, 3) := by decide +kernel
theorem dX8_count_146 : decode cX8_count 146 = .ok (.iload_n 1, 1) := by decide +kernel
theorem dX8_count_147 : decode cX8_count 147 = .ok (.iadd, 1) := by decide +kernel
theorem dX8_count_148 : decode cX8_count 148 = .ok (.iconst 4, 1) := by decide +kernel
theorem dX8_count_149 : decode cX8_count 149 = .ok (.isub, 1) := by decide +kernel
theorem dX8_count_150 : decode cX8_count 150 = .ok (.iaload, 1) := by decide +kernel
theorem dX8_count_151 : decode cX8_count 151 = .ok (.ireturn, 1) := by decide +kernel
theorem dX8_count_152 : decode cX8_count 152 = .ok (.aload_n 0, 1) := by decide +kernel
theorem dX8_count_153 : decode cX8_count 153 = .ok (.invokevirtual 64, 3) := by decide +kernel
theorem dX8_count_156 : decode cX8_count 156 = .ok (.bipush (-6), 2) := by decide +kernel
theorem dX8_count_158 : decode cX8_count 158 = .ok (.if_icmp .ne 7, 3) := by decide +kernel
theorem dX8_count_161 : decode cX8_count 161 = .ok (.iconst 1, 1) := by decide +kernel
theorem dX8_count_162 : decode cX8_count 162 = .ok (.goto 4, 3) := by decide +kernel
theorem dX8_count_165 : decode cX8_count 165 = .ok (.iconst 0, 1) := by decide +kernel
theorem dX8_count_166 : decode cX8_count 166 = .ok (.ireturn, 1) := by decide +kernel
theorem dX8_count_167 : decode cX8_count 167 = .ok (.aload_n 0, 1) := by decide +kernel
theorem dX8_count_168 : decode cX8_count 168 = .ok (.invokevirtual 173, 3) := by decide +kernel
theorem dX8_count_171 : decode cX8_count 171 = .ok (.ireturn, 1) := by decide +kernel
theorem dX8_count_172 : decode cX8_count 172 = .ok (.aload_n 0, 1) := by decide +kernel
theorem dX8_count_173 : decode cX8_count 173 = .ok (.iconst 1, 1) := by decide +kernel
theorem dX8_count_174 : decode cX8_count 174 = .ok (.invokevirtual 170, 3) := by decide +kernel
theorem dX8_count_177 : decode cX8_count 177 = .ok (.ireturn, 1) := by decide +kernel
theorem dX8_count_178 : decode cX8_count 178 = .ok (.aload_n 0, 1) := by decide +kernel
theorem dX8_count_179 : decode cX8_count 179 = .ok (.getfield 7, 3) := by decide +kernel
theorem dX8_count_182 : decode cX8_count 182 = .ok (.sipush 150, 3) := by decide +kernel
theorem dX8_count_185 : decode cX8_count 185 = .ok (.iaload, 1) := by decide +kernel
theorem dX8_count_186 : decode cX8_count 186 = .ok (.ireturn, 1) := by decide +kernel
theorem dX8_count_187 : decode cX8_count 187 = .ok (.aload_n 0, 1) := by decide +kernel
theorem dX8_count_188 : decode cX8_count 188 = .ok (.getfield 7, 3) := by decide +kernel
theorem dX8_count_191 : decode cX8_count 191 = .ok (.sipush 146, 3) := by decide +kernel
theorem dX8_count_194 : decode cX8_count 194 = .ok (.iaload, 1) := by decide +kernel
theorem dX8_count_195 : decode cX8_count 195 = .ok (.ireturn, 1) := by decide +kernel
theorem dX8_count_196 : decode cX8_count 196 = .ok (.aload_n 0, 1) := by decide +kernel
theorem dX8_count_197 : decode cX8_count 197 = .ok (.getfield 156, 3) := by decide +kernel
theorem dX8_count_200 : decode cX8_count 200 = .ok (.ireturn, 1) := by decide +kernel
theorem dX8_count_201 : decode cX8_count 201 = .ok (.aload_n 0, 1) := by decide +kernel
theorem dX8_count_202 : decode cX8_count 202 = .ok (.getfield 33, 3) := by decide +kernel
theorem dX8_count_205 : decode cX8_count 205 = .ok (.ireturn, 1) := by decide +kernel
theorem dX8_count_206 : decode cX8_count 206 = .ok (.bipush (-2), 2) := by decide +kernel
theorem dX8_count_208 : decode cX8_count 208 = .ok (.ireturn, 1) := by decide +kernel
theorem dX8_step_0 : decode cX8_step 0 = .ok (.iload_n 1, 1) := by decide +kernel
theorem dX8_step_1 : decode cX8_step 1 = .ok (.invokestatic 108, 3) := by decide +kernel
theorem dX8_step_4 : decode cX8_step 4 = .ok (.ifCond .ne 5, 3) := by decide +kernel
theorem dX8_step_7 : decode cX8_step 7 = .ok (.iconst (-1), 1) := by decide +kernel
theorem dX8_step_8 : decode cX8_step 8 = .ok (.ireturn, 1) := by decide +kernel
theorem dX8_step_9 : decode cX8_step 9 = .ok (.iload_n 2, 1) := by decide +kernel
theorem dX8_step_10 : decode cX8_step 10 = .ok (.iconst 0, 1) := by decide +kernel
theorem dX8_step_11 : decode cX8_step 11 = .ok (.iconst 1, 1) := by decide +kernel
theorem dX8_step_12 : decode cX8_step 12 = .ok (.invokestatic 29, 3) := by decide +kernel
theorem dX8_step_15 : decode cX8_step 15 = .ok (.ifCond .ne 6, 3) := by decide +kernel
theorem dX8_step_18 : decode cX8_step 18 = .ok (.bipush (-2), 2) := by decide +kernel
theorem dX8_step_20 : decode cX8_step 20 = .ok (.ireturn, 1) := by decide +kernel
theorem dX8_step_21 : decode cX8_step 21 = .ok (.aload_n 0, 1) := by decide +kernel
theorem dX8_step_22 : decode cX8_step 22 = .ok (.getfield 7, 3) := by decide +kernel
theorem dX8_step_25 : decode cX8_step 25 = .ok (.sipush 144, 3) := by decide +kernel
theorem dX8_step_28 : decode cX8_step 28 = .ok (.iaload, 1) := by decide +kernel
theorem dX8_step_29 : decode cX8_step 29 = .ok (.istore_n 3, 1) := by decide +kernel
theorem dX8_step_30 : decode cX8_step 30 = .ok (.aload_n 0, 1) := by decide +kernel
theorem dX8_step_31 : decode cX8_step 31 = .ok (.iload_n 3, 1) := by decide +kernel
theorem dX8_step_32 : decode cX8_step 32 = .ok (.iconst 0, 1) := by decide +kernel
theorem dX8_step_33 : decode cX8_step 33 = .ok (.invokevirtual 78, 3) := by decide +kernel
theorem dX8_step_36 : decode cX8_step 36 = .ok (.ldc2_w 68, 3) := by decide +kernel
theorem dX8_step_39 : decode cX8_step 39 = .ok (.aload_n 0, 1) := by decide +kernel
theorem dX8_step_40 : decode cX8_step 40 = .ok (.getfield 25, 3) := by decide +kernel
theorem dX8_step_43 : decode cX8_step 43 = .ok (.bipush 8, 2) := by decide +kernel
theorem dX8_step_45 : decode cX8_step 45 = .ok (.iload_n 3, 1) := by decide +kernel
theorem dX8_step_46 : decode cX8_step 46 = .ok (.iconst 1, 1) := by decide +kernel
theorem dX8_step_47 : decode cX8_step 47 = .ok (.isub, 1) := by decide +kernel
theorem dX8_step_48 : decode cX8_step 48 = .ok (.imul, 1) := by decide +kernel
theorem dX8_step_49 : decode cX8_step 49 = .ok (.iload_n 1, 1) := by decide +kernel
theorem dX8_step_50 : decode cX8_step 50 = .ok (.iadd, 1) := by decide +kernel
theorem dX8_step_51 : decode cX8_step 51 = .ok (.laload, 1) := by decide +kernel
theorem dX8_step_52 : decode cX8_step 52 = .ok (.lmul, 1) := by decide +kernel
theorem dX8_step_53 : decode cX8_step 53 = .ok (.lstore 4, 2) := by decide +kernel
theorem dX8_step_55 : decode cX8_step 55 = .ok (.bipush (-6), 2) := by decide +kernel
theorem dX8_step_57 : decode cX8_step 57 = .ok (.istore 6, 2) := by decide +kernel
theorem dX8_step_59 : decode cX8_step 59 = .ok (.iconst 0, 1) := by decide +kernel
theorem dX8_step_60 : decode cX8_step 60 = .ok (.istore 7, 2) := by decide +kernel
theorem dX8_step_62 : decode cX8_step 62 = .ok (.iconst 0, 1) := by decide +kernel
theorem dX8_step_63 : decode cX8_step 63 = .ok (.istore 8, 2) := by decide +kernel
theorem dX8_step_65 : decode cX8_step 65 = .ok (.iload 8, 2) := by decide +kernel
theorem dX8_step_67 : decode cX8_step 67 = .ok (.iconst 4, 1) := by decide +kernel
theorem dX8_step_68 : decode cX8_step 68 = .ok (.aload_n 0, 1) := by decide +kernel
theorem dX8_step_69 : decode cX8_step 69 = .ok (.getfield 7, 3) := by decide +kernel
theorem dX8_step_72 : decode cX8_step 72 = .ok (.bipush 8, 2) := by decide +kernel
theorem dX8_step_74 : decode cX8_step 74 = .ok (.iaload, 1) := by decide +kernel
theorem dX8_step_75 : decode cX8_step 75 = .ok (.imul, 1) := by decide +kernel
theorem dX8_step_76 : decode cX8_step 76 = .ok (.if_icmp .ge 120, 3) := by decide +kernel
theorem dX8_step_79 : decode cX8_step 79 = .ok (.iload 8, 2) := by decide +kernel
theorem dX8_step_81 : decode cX8_step 81 = .ok (.iconst 2, 1) := by decide +kernel
theorem dX8_step_82 : decode cX8_step 82 = .ok (.irem, 1) := by decide +kernel
theorem dX8_step_83 : decode cX8_step 83 = .ok (.istore 9, 2) := by decide +kernel
theorem dX8_step_85 : decode cX8_step 85 = .ok (.iload 8, 2) := by decide +kernel
theorem dX8_step_87 : decode cX8_step 87 = .ok (.iconst 2, 1) := by decide +kernel
theorem dX8_step_88 : decode cX8_step 88 = .ok (.idiv, 1) := by decide +kernel
theorem dX8_step_89 : decode cX8_step 89 = .ok (.iconst 2, 1) := by decide +kernel
theorem dX8_step_90 : decode cX8_step 90 = .ok (.irem, 1) := by decide +kernel
theorem dX8_step_91 : decode cX8_step 91 = .ok (.istore 10, 2) := by decide +kernel
theorem dX8_step_93 : decode cX8_step 93 = .ok (.aload_n 0, 1) := by decide +kernel
theorem dX8_step_94 : decode cX8_step 94 = .ok (.iload 8, 2) := by decide +kernel
theorem dX8_step_96 : decode cX8_step 96 = .ok (.iconst 4, 1) := by decide +kernel
theorem dX8_step_97 : decode cX8_step 97 = .ok (.idiv, 1) := by decide +kernel
theorem dX8_step_98 : decode cX8_step 98 = .ok (.iload 9, 2) := by decide +kernel
theorem dX8_step_100 : decode cX8_step 100 = .ok (.iload_n 3, 1) := by decide +kernel
theorem dX8_step_101 : decode cX8_step 101 = .ok (.iload 10, 2) := by decide +kernel
theorem dX8_step_103 : decode cX8_step 103 = .ok (.iconst 1, 1) := by decide +kernel
theorem dX8_step_104 : decode cX8_step 104 = .ok (.if_icmp .ne 7, 3) := by decide +kernel
theorem dX8_step_107 : decode cX8_step 107 = .ok (.iconst 1, 1) := by decide +kernel
theorem dX8_step_108 : decode cX8_step 108 = .ok (.goto 4, 3) := by decide +kernel
theorem dX8_step_111 : decode cX8_step 111 = .ok (.iconst 0, 1) := by decide +kernel
theorem dX8_step_112 : decode cX8_step 112 = .ok (.invokevirtual 74, 3) := by decide +kernel
theorem dX8_step_115 : decode cX8_step 115 = .ok (.lstore 11, 2) := by decide +kernel
theorem dX8_step_117 : decode cX8_step 117 = .ok (.aload_n 0, 1) := by decide +kernel
theorem dX8_step_118 : decode cX8_step 118 = .ok (.iload 8, 2) := by decide +kernel
theorem dX8_step_120 : decode cX8_step 120 = .ok (.iconst 4, 1) := by decide +kernel
theorem dX8_step_121 : decode cX8_step 121 = .ok (.idiv, 1) := by decide +kernel
theorem dX8_step_122 : decode cX8_step 122 = .ok (.iload 9, 2) := by decide +kernel
theorem dX8_step_124 : decode cX8_step 124 = .ok (.invokevirtual 48, 3) := by decide +kernel
theorem dX8_step_127 : decode cX8_step 127 = .ok (.iload_n 1, 1) := by decide +kernel
theorem dX8_step_128 : decode cX8_step 128 = .ok (.if_icmp .ne 15, 3) := by decide +kernel
theorem dX8_step_131 : decode cX8_step 131 = .ok (.lload 11, 2) := by decide +kernel
theorem dX8_step_133 : decode cX8_step 133 = .ok (.lload 4, 2) := by decide +kernel
theorem dX8_step_135 : decode cX8_step 135 = .ok (.lcmp, 1) := by decide +kernel
theorem dX8_step_136 : decode cX8_step 136 = .ok (.ifCond .le 7, 3) := by decide +kernel
theorem dX8_step_139 : decode cX8_step 139 = .ok (.iconst 1, 1) := by decide +kernel
theorem dX8_step_140 : decode cX8_step 140 = .ok (.goto 4, 3) := by decide +kernel
theorem dX8_step_143 : decode cX8_step 143 = .ok (.iconst 0, 1) := by decide +kernel
theorem dX8_step_144 : decode cX8_step 144 = .ok (.istore 13, 2) := by decide +kernel
theorem dX8_step_146 : decode cX8_step 146 = .ok (.iload 13, 2) := by decide +kernel
theorem dX8_step_148 : decode cX8_step 148 = .ok (.ifCond .eq 10, 3) := by decide +kernel
theorem dX8_step_151 : decode cX8_step 151 = .ok (.iload 8, 2) := by decide +kernel
theorem dX8_step_153 : decode cX8_step 153 = .ok (.iconst 4, 1) := by decide +kernel
theorem dX8_step_154 : decode cX8_step 154 = .ok (.idiv, 1) := by decide +kernel
theorem dX8_step_155 : decode cX8_step 155 = .ok (.goto 5, 3) := by decide +kernel
theorem dX8_step_158 : decode cX8_step 158 = .ok (.iload 6, 2) := by decide +kernel
theorem dX8_step_160 : decode cX8_step 160 = .ok (.istore 6, 2) := by decide +kernel
theorem dX8_step_162 : decode cX8_step 162 = .ok (.iload 13, 2) := by decide +kernel
theorem dX8_step_164 : decode cX8_step 164 = .ok (.ifCond .eq 8, 3) := by decide +kernel
theorem dX8_step_167 : decode cX8_step 167 = .ok (.iload 10, 2) := by decide +kernel
theorem dX8_step_169 : decode cX8_step 169 = .ok (.goto 5, 3) := by decide +kernel
theorem dX8_step_172 : decode cX8_step 172 = .ok (.iload 7, 2) := by decide +kernel
theorem dX8_step_174 : decode cX8_step 174 = .ok (.istore 7, 2) := by decide +kernel
theorem dX8_step_176 : decode cX8_step 176 = .ok (.iload 13, 2) := by decide +kernel
theorem dX8_step_178 : decode cX8_step 178 = .ok (.ifCond .eq 8, 3) := by decide +kernel
theorem dX8_step_181 : decode cX8_step 181 = .ok (.lload 11, 2) := by decide +kernel
theorem dX8_step_183 : decode cX8_step 183 = .ok (.goto 5, 3) := by decide +kernel
theorem dX8_step_186 : decode cX8_step 186 = .ok (.lload 4, 2) := by decide +kernel
theorem dX8_step_188 : decode cX8_step 188 = .ok (.lstore 4, 2) := by decide +kernel
theorem dX8_step_190 : decode cX8_step 190 = .ok (.iinc 8 1, 3) := by decide +kernel
theorem dX8_step_193 : decode cX8_step 193 = .ok (.goto (-128), 3) := by decide +kernel
theorem dX8_step_196 : decode cX8_step 196 = .ok (.iload_n 2, 1) := by decide +kernel
theorem dX8_step_197 : decode cX8_step 197 = .ok (.ifCond .ne 8, 3) := by decide +kernel
theorem dX8_step_200 : decode cX8_step 200 = .ok (.iload 6, 2) := by decide +kernel
theorem dX8_step_202 : decode cX8_step 202 = .ok (.goto 5, 3) := by decide +kernel
theorem dX8_step_205 : decode cX8_step 205 = .ok (.iload 7, 2) := by decide +kernel
theorem dX8_step_207 : decode cX8_step 207 = .ok (.ireturn, 1) := by decide +kernel
theorem dX8_isBound_0 : decode cX8_isBound 0 = .ok (.aload_n 0, 1) := by decide +kernel
theorem dX8_isBound_1 : decode cX8_isBound 1 = .ok (.getfield 7, 3) := by decide +kernel
theorem dX8_isBound_4 : decode cX8_isBound 4 = .ok (.iconst 0, 1) := by decide +kernel
theorem dX8_isBound_5 : decode cX8_isBound 5 = .ok (.aload_n 0, 1) := by decide +kernel
theorem dX8_isBound_6 : decode cX8_isBound 6 = .ok (.iload_n 1, 1) := by decide +kernel
theorem dX8_isBound_7 : decode cX8_isBound 7 = .ok (.iconst 1, 1) := by decide +kernel
theorem dX8_isBound_8 : decode cX8_isBound 8 = .ok (.iload_n 2, 1) := by decide +kernel
theorem dX8_isBound_9 : decode cX8_isBound 9 = .ok (.isub, 1) := by decide +kernel
theorem dX8_isBound_10 : decode cX8_isBound 10 = .ok (.invokevirtual 48, 3) := by decide +kernel
theorem dX8_isBound_13 : decode cX8_isBound 13 = .ok (.iadd, 1) := by decide +kernel
theorem dX8_isBound_14 : decode cX8_isBound 14 = .ok (.iaload, 1) := by decide +kernel
theorem dX8_isBound_15 : decode cX8_isBound 15 = .ok (.aload_n 0, 1) := by decide +kernel
theorem dX8_isBound_16 : decode cX8_isBound 16 = .ok (.aload_n 0, 1) := by decide +kernel
theorem dX8_isBound_17 : decode cX8_isBound 17 = .ok (.getfield 7, 3) := by decide +kernel
theorem dX8_isBound_20 : decode cX8_isBound 20 = .ok (.iconst 0, 1) := by decide +kernel
theorem dX8_isBound_21 : decode cX8_isBound 21 = .ok (.aload_n 0, 1) := by decide +kernel
theorem dX8_isBound_22 : decode cX8_isBound 22 = .ok (.iload_n 1, 1) := by decide +kernel
theorem dX8_isBound_23 : decode cX8_isBound 23 = .ok (.iload_n 2, 1) := by decide +kernel
theorem dX8_isBound_24 : decode cX8_isBound 24 = .ok (.invokevirtual 48, 3) := by decide +kernel
theorem dX8_isBound_27 : decode cX8_isBound 27 = .ok (.iadd, 1) := by decide +kernel
theorem dX8_isBound_28 : decode cX8_isBound 28 = .ok (.iaload, 1) := by decide +kernel
theorem dX8_isBound_29 : decode cX8_isBound 29 = .ok (.iload_n 3, 1) := by decide +kernel
theorem dX8_isBound_30 : decode cX8_isBound 30 = .ok (.invokevirtual 54, 3) := by decide +kernel
theorem dX8_isBound_33 : decode cX8_isBound 33 = .ok (.if_icmp .gt 7, 3) := by decide +kernel
theorem dX8_isBound_36 : decode cX8_isBound 36 = .ok (.iconst 1, 1) := by decide +kernel
theorem dX8_isBound_37 : decode cX8_isBound 37 = .ok (.goto 4, 3) := by decide +kernel
theorem dX8_isBound_40 : decode cX8_isBound 40 = .ok (.iconst 0, 1) := by decide +kernel
theorem dX8_isBound_41 : decode cX8_isBound 41 = .ok (.ireturn, 1) := by decide +kernel
theorem dX8_fewestGuards_0 : decode cX8_fewestGuards 0 = .ok (.aload_n 0, 1) := by decide +kernel
theorem dX8_fewestGuards_1 : decode cX8_fewestGuards 1 = .ok (.iload_n 1, 1) := by decide +kernel
theorem dX8_fewestGuards_2 : decode cX8_fewestGuards 2 = .ok (.invokevirtual 118, 3) := by decide +kernel
theorem dX8_fewestGuards_5 : decode cX8_fewestGuards 5 = .ok (.ifCond .ne 5, 3) := by decide +kernel
theorem dX8_fewestGuards_8 : decode cX8_fewestGuards 8 = .ok (.iconst (-1), 1) := by decide +kernel
theorem dX8_fewestGuards_9 : decode cX8_fewestGuards 9 = .ok (.ireturn, 1) := by decide +kernel
theorem dX8_fewestGuards_10 : decode cX8_fewestGuards 10 = .ok (.bipush (-6), 2) := by decide +kernel
theorem dX8_fewestGuards_12 : decode cX8_fewestGuards 12 = .ok (.istore_n 2, 1) := by decide +kernel
theorem dX8_fewestGuards_13 : decode cX8_fewestGuards 13 = .ok (.bipush 40, 2) := by decide +kernel
theorem dX8_fewestGuards_15 : decode cX8_fewestGuards 15 = .ok (.istore_n 3, 1) := by decide +kernel
theorem dX8_fewestGuards_16 : decode cX8_fewestGuards 16 = .ok (.iload_n 3, 1) := by decide +kernel
theorem dX8_fewestGuards_17 : decode cX8_fewestGuards 17 = .ok (.ifCond .lt 44, 3) := by decide +kernel
theorem dX8_fewestGuards_20 : decode cX8_fewestGuards 20 = .ok (.aload_n 0, 1) := by decide +kernel
theorem dX8_fewestGuards_21 : decode cX8_fewestGuards 21 = .ok (.iload_n 3, 1) := by decide +kernel
theorem dX8_fewestGuards_22 : decode cX8_fewestGuards 22 = .ok (.invokevirtual 44, 3) := by decide +kernel
theorem dX8_fewestGuards_25 : decode cX8_fewestGuards 25 = .ok (.istore 4, 2) := by decide +kernel
theorem dX8_fewestGuards_27 : decode cX8_fewestGuards 27 = .ok (.aload_n 0, 1) := by decide +kernel
theorem dX8_fewestGuards_28 : decode cX8_fewestGuards 28 = .ok (.iload_n 1, 1) := by decide +kernel
theorem dX8_fewestGuards_29 : decode cX8_fewestGuards 29 = .ok (.iconst 0, 1) := by decide +kernel
theorem dX8_fewestGuards_30 : decode cX8_fewestGuards 30 = .ok (.iload 4, 2) := by decide +kernel
theorem dX8_fewestGuards_32 : decode cX8_fewestGuards 32 = .ok (.invokevirtual 176, 3) := by decide +kernel
theorem dX8_fewestGuards_35 : decode cX8_fewestGuards 35 = .ok (.ifCond .eq 18, 3) := by decide +kernel
theorem dX8_fewestGuards_38 : decode cX8_fewestGuards 38 = .ok (.aload_n 0, 1) := by decide +kernel
theorem dX8_fewestGuards_39 : decode cX8_fewestGuards 39 = .ok (.iload_n 1, 1) := by decide +kernel
theorem dX8_fewestGuards_40 : decode cX8_fewestGuards 40 = .ok (.iconst 1, 1) := by decide +kernel
theorem dX8_fewestGuards_41 : decode cX8_fewestGuards 41 = .ok (.iload 4, 2) := by decide +kernel
theorem dX8_fewestGuards_43 : decode cX8_fewestGuards 43 = .ok (.invokevirtual 176, 3) := by decide +kernel
theorem dX8_fewestGuards_46 : decode cX8_fewestGuards 46 = .ok (.ifCond .eq 7, 3) := by decide +kernel
theorem dX8_fewestGuards_49 : decode cX8_fewestGuards 49 = .ok (.iload_n 3, 1) := by decide +kernel
theorem dX8_fewestGuards_50 : decode cX8_fewestGuards 50 = .ok (.goto 4, 3) := by decide +kernel
theorem dX8_fewestGuards_53 : decode cX8_fewestGuards 53 = .ok (.iload_n 2, 1) := by decide +kernel
theorem dX8_fewestGuards_54 : decode cX8_fewestGuards 54 = .ok (.istore_n 2, 1) := by decide +kernel
theorem dX8_fewestGuards_55 : decode cX8_fewestGuards 55 = .ok (.iinc 3 (-1), 3) := by decide +kernel
theorem dX8_fewestGuards_58 : decode cX8_fewestGuards 58 = .ok (.goto (-42), 3) := by decide +kernel
theorem dX8_fewestGuards_61 : decode cX8_fewestGuards 61 = .ok (.iload_n 2, 1) := by decide +kernel
theorem dX8_fewestGuards_62 : decode cX8_fewestGuards 62 = .ok (.ireturn, 1) := by decide +kernel
theorem dX8_mostPrice_0 : decode cX8_mostPrice 0 = .ok (.iload_n 1, 1) := by decide +kernel
theorem dX8_mostPrice_1 : decode cX8_mostPrice 1 = .ok (.invokestatic 108, 3) := by decide +kernel
theorem dX8_mostPrice_4 : decode cX8_mostPrice 4 = .ok (.ifCond .ne 5, 3) := by decide +kernel
theorem dX8_mostPrice_7 : decode cX8_mostPrice 7 = .ok (.iconst (-1), 1) := by decide +kernel
theorem dX8_mostPrice_8 : decode cX8_mostPrice 8 = .ok (.ireturn, 1) := by decide +kernel
theorem dX8_mostPrice_9 : decode cX8_mostPrice 9 = .ok (.sipush 999, 3) := by decide +kernel
theorem dX8_mostPrice_12 : decode cX8_mostPrice 12 = .ok (.istore_n 2, 1) := by decide +kernel
theorem dX8_mostPrice_13 : decode cX8_mostPrice 13 = .ok (.iconst 0, 1) := by decide +kernel
theorem dX8_mostPrice_14 : decode cX8_mostPrice 14 = .ok (.istore_n 3, 1) := by decide +kernel
theorem dX8_mostPrice_15 : decode cX8_mostPrice 15 = .ok (.iload_n 3, 1) := by decide +kernel
theorem dX8_mostPrice_16 : decode cX8_mostPrice 16 = .ok (.iconst 2, 1) := by decide +kernel
theorem dX8_mostPrice_17 : decode cX8_mostPrice 17 = .ok (.aload_n 0, 1) := by decide +kernel
theorem dX8_mostPrice_18 : decode cX8_mostPrice 18 = .ok (.getfield 7, 3) := by decide +kernel
theorem dX8_mostPrice_21 : decode cX8_mostPrice 21 = .ok (.bipush 8, 2) := by decide +kernel
theorem dX8_mostPrice_23 : decode cX8_mostPrice 23 = .ok (.iaload, 1) := by decide +kernel
theorem dX8_mostPrice_24 : decode cX8_mostPrice 24 = .ok (.imul, 1) := by decide +kernel
theorem dX8_mostPrice_25 : decode cX8_mostPrice 25 = .ok (.if_icmp .ge 62, 3) := by decide +kernel
theorem dX8_mostPrice_28 : decode cX8_mostPrice 28 = .ok (.aload_n 0, 1) := by decide +kernel
theorem dX8_mostPrice_29 : decode cX8_mostPrice 29 = .ok (.iload_n 3, 1) := by decide +kernel
theorem dX8_mostPrice_30 : decode cX8_mostPrice 30 = .ok (.iconst 2, 1) := by decide +kernel
theorem dX8_mostPrice_31 : decode cX8_mostPrice 31 = .ok (.idiv, 1) := by decide +kernel
theorem dX8_mostPrice_32 : decode cX8_mostPrice 32 = .ok (.iconst 1, 1) := by decide +kernel
theorem dX8_mostPrice_33 : decode cX8_mostPrice 33 = .ok (.iload_n 3, 1) := by decide +kernel
theorem dX8_mostPrice_34 : decode cX8_mostPrice 34 = .ok (.iconst 2, 1) := by decide +kernel
theorem dX8_mostPrice_35 : decode cX8_mostPrice 35 = .ok (.irem, 1) := by decide +kernel
theorem dX8_mostPrice_36 : decode cX8_mostPrice 36 = .ok (.isub, 1) := by decide +kernel
theorem dX8_mostPrice_37 : decode cX8_mostPrice 37 = .ok (.invokevirtual 48, 3) := by decide +kernel
theorem dX8_mostPrice_40 : decode cX8_mostPrice 40 = .ok (.iload_n 1, 1) := by decide +kernel
theorem dX8_mostPrice_41 : decode cX8_mostPrice 41 = .ok (.if_icmp .ne 7, 3) := by decide +kernel
theorem dX8_mostPrice_44 : decode cX8_mostPrice 44 = .ok (.iconst 1, 1) := by decide +kernel
theorem dX8_mostPrice_45 : decode cX8_mostPrice 45 = .ok (.goto 4, 3) := by decide +kernel
theorem dX8_mostPrice_48 : decode cX8_mostPrice 48 = .ok (.iconst 0, 1) := by decide +kernel
theorem dX8_mostPrice_49 : decode cX8_mostPrice 49 = .ok (.istore 4, 2) := by decide +kernel
theorem dX8_mostPrice_51 : decode cX8_mostPrice 51 = .ok (.aload_n 0, 1) := by decide +kernel
theorem dX8_mostPrice_52 : decode cX8_mostPrice 52 = .ok (.iload_n 3, 1) := by decide +kernel
theorem dX8_mostPrice_53 : decode cX8_mostPrice 53 = .ok (.iconst 2, 1) := by decide +kernel
theorem dX8_mostPrice_54 : decode cX8_mostPrice 54 = .ok (.idiv, 1) := by decide +kernel
theorem dX8_mostPrice_55 : decode cX8_mostPrice 55 = .ok (.iload_n 3, 1) := by decide +kernel
theorem dX8_mostPrice_56 : decode cX8_mostPrice 56 = .ok (.iconst 2, 1) := by decide +kernel
theorem dX8_mostPrice_57 : decode cX8_mostPrice 57 = .ok (.irem, 1) := by decide +kernel
theorem dX8_mostPrice_58 : decode cX8_mostPrice 58 = .ok (.invokevirtual 57, 3) := by decide +kernel
theorem dX8_mostPrice_61 : decode cX8_mostPrice 61 = .ok (.istore 5, 2) := by decide +kernel
theorem dX8_mostPrice_63 : decode cX8_mostPrice 63 = .ok (.iload 4, 2) := by decide +kernel
theorem dX8_mostPrice_65 : decode cX8_mostPrice 65 = .ok (.ifCond .eq 14, 3) := by decide +kernel
theorem dX8_mostPrice_68 : decode cX8_mostPrice 68 = .ok (.iload 5, 2) := by decide +kernel
theorem dX8_mostPrice_70 : decode cX8_mostPrice 70 = .ok (.iload_n 2, 1) := by decide +kernel
theorem dX8_mostPrice_71 : decode cX8_mostPrice 71 = .ok (.if_icmp .ge 8, 3) := by decide +kernel
theorem dX8_mostPrice_74 : decode cX8_mostPrice 74 = .ok (.iload 5, 2) := by decide +kernel
theorem dX8_mostPrice_76 : decode cX8_mostPrice 76 = .ok (.goto 4, 3) := by decide +kernel
theorem dX8_mostPrice_79 : decode cX8_mostPrice 79 = .ok (.iload_n 2, 1) := by decide +kernel
theorem dX8_mostPrice_80 : decode cX8_mostPrice 80 = .ok (.istore_n 2, 1) := by decide +kernel
theorem dX8_mostPrice_81 : decode cX8_mostPrice 81 = .ok (.iinc 3 1, 3) := by decide +kernel
theorem dX8_mostPrice_84 : decode cX8_mostPrice 84 = .ok (.goto (-69), 3) := by decide +kernel
theorem dX8_mostPrice_87 : decode cX8_mostPrice 87 = .ok (.iload_n 2, 1) := by decide +kernel
theorem dX8_mostPrice_88 : decode cX8_mostPrice 88 = .ok (.ireturn, 1) := by decide +kernel
theorem dX8_ifHonest_0 : decode cX8_ifHonest 0 = .ok (.aload_n 0, 1) := by decide +kernel
theorem dX8_ifHonest_1 : decode cX8_ifHonest 1 = .ok (.invokevirtual 90, 3) := by decide +kernel
theorem dX8_ifHonest_4 : decode cX8_ifHonest 4 = .ok (.aload_n 0, 1) := by decide +kernel
theorem dX8_ifHonest_5 : decode cX8_ifHonest 5 = .ok (.invokevirtual 124, 3) := by decide +kernel
theorem dX8_ifHonest_8 : decode cX8_ifHonest 8 = .ok (.istore_n 1, 1) := by decide +kernel
theorem dX8_ifHonest_9 : decode cX8_ifHonest 9 = .ok (.aload_n 0, 1) := by decide +kernel
theorem dX8_ifHonest_10 : decode cX8_ifHonest 10 = .ok (.invokevirtual 179, 3) := by decide +kernel
theorem dX8_ifHonest_13 : decode cX8_ifHonest 13 = .ok (.iload_n 1, 1) := by decide +kernel
theorem dX8_ifHonest_14 : decode cX8_ifHonest 14 = .ok (.ireturn, 1) := by decide +kernel
theorem dX8_wouldHave_0 : decode cX8_wouldHave 0 = .ok (.aload_n 0, 1) := by decide +kernel
theorem dX8_wouldHave_1 : decode cX8_wouldHave 1 = .ok (.iload_n 1, 1) := by decide +kernel
theorem dX8_wouldHave_2 : decode cX8_wouldHave 2 = .ok (.invokevirtual 134, 3) := by decide +kernel
theorem dX8_wouldHave_5 : decode cX8_wouldHave 5 = .ok (.ifCond .eq 11, 3) := by decide +kernel
theorem dX8_wouldHave_8 : decode cX8_wouldHave 8 = .ok (.aload_n 0, 1) := by decide +kernel
theorem dX8_wouldHave_9 : decode cX8_wouldHave 9 = .ok (.iload_n 2, 1) := by decide +kernel
theorem dX8_wouldHave_10 : decode cX8_wouldHave 10 = .ok (.invokevirtual 118, 3) := by decide +kernel
theorem dX8_wouldHave_13 : decode cX8_wouldHave 13 = .ok (.ifCond .ne 5, 3) := by decide +kernel
theorem dX8_wouldHave_16 : decode cX8_wouldHave 16 = .ok (.iconst (-1), 1) := by decide +kernel
theorem dX8_wouldHave_17 : decode cX8_wouldHave 17 = .ok (.ireturn, 1) := by decide +kernel
theorem dX8_wouldHave_18 : decode cX8_wouldHave 18 = .ok (.iload_n 3, 1) := by decide +kernel
theorem dX8_wouldHave_19 : decode cX8_wouldHave 19 = .ok (.iconst 0, 1) := by decide +kernel
theorem dX8_wouldHave_20 : decode cX8_wouldHave 20 = .ok (.iconst 1, 1) := by decide +kernel
theorem dX8_wouldHave_21 : decode cX8_wouldHave 21 = .ok (.invokestatic 29, 3) := by decide +kernel
theorem dX8_wouldHave_24 : decode cX8_wouldHave 24 = .ok (.ifCond .ne 6, 3) := by decide +kernel
theorem dX8_wouldHave_27 : decode cX8_wouldHave 27 = .ok (.bipush (-2), 2) := by decide +kernel
theorem dX8_wouldHave_29 : decode cX8_wouldHave 29 = .ok (.ireturn, 1) := by decide +kernel
theorem dX8_wouldHave_30 : decode cX8_wouldHave 30 = .ok (.aload_n 0, 1) := by decide +kernel
theorem dX8_wouldHave_31 : decode cX8_wouldHave 31 = .ok (.iload_n 1, 1) := by decide +kernel
theorem dX8_wouldHave_32 : decode cX8_wouldHave 32 = .ok (.iload_n 2, 1) := by decide +kernel
theorem dX8_wouldHave_33 : decode cX8_wouldHave 33 = .ok (.invokevirtual 147, 3) := by decide +kernel
theorem dX8_wouldHave_36 : decode cX8_wouldHave 36 = .ok (.istore 4, 2) := by decide +kernel
theorem dX8_wouldHave_38 : decode cX8_wouldHave 38 = .ok (.iload 4, 2) := by decide +kernel
theorem dX8_wouldHave_40 : decode cX8_wouldHave 40 = .ok (.bipush (-6), 2) := by decide +kernel
theorem dX8_wouldHave_42 : decode cX8_wouldHave 42 = .ok (.if_icmp .ne 6, 3) := by decide +kernel
theorem dX8_wouldHave_45 : decode cX8_wouldHave 45 = .ok (.bipush (-5), 2) := by decide +kernel
theorem dX8_wouldHave_47 : decode cX8_wouldHave 47 = .ok (.ireturn, 1) := by decide +kernel
theorem dX8_wouldHave_48 : decode cX8_wouldHave 48 = .ok (.aload_n 0, 1) := by decide +kernel
theorem dX8_wouldHave_49 : decode cX8_wouldHave 49 = .ok (.getfield 7, 3) := by decide +kernel
theorem dX8_wouldHave_52 : decode cX8_wouldHave 52 = .ok (.iload_n 1, 1) := by decide +kernel
theorem dX8_wouldHave_53 : decode cX8_wouldHave 53 = .ok (.iconst 1, 1) := by decide +kernel
theorem dX8_wouldHave_54 : decode cX8_wouldHave 54 = .ok (.invokestatic 128, 3) := by decide +kernel
theorem dX8_wouldHave_57 : decode cX8_wouldHave 57 = .ok (.iaload, 1) := by decide +kernel
theorem dX8_wouldHave_58 : decode cX8_wouldHave 58 = .ok (.istore 5, 2) := by decide +kernel
theorem dX8_wouldHave_60 : decode cX8_wouldHave 60 = .ok (.aload_n 0, 1) := by decide +kernel
theorem dX8_wouldHave_61 : decode cX8_wouldHave 61 = .ok (.getfield 7, 3) := by decide +kernel
theorem dX8_wouldHave_64 : decode cX8_wouldHave 64 = .ok (.iload_n 1, 1) := by decide +kernel
theorem dX8_wouldHave_65 : decode cX8_wouldHave 65 = .ok (.iconst 2, 1) := by decide +kernel
theorem dX8_wouldHave_66 : decode cX8_wouldHave 66 = .ok (.invokestatic 128, 3) := by decide +kernel
theorem dX8_wouldHave_69 : decode cX8_wouldHave 69 = .ok (.iaload, 1) := by decide +kernel
theorem dX8_wouldHave_70 : decode cX8_wouldHave 70 = .ok (.aload_n 0, 1) := by decide +kernel
theorem dX8_wouldHave_71 : decode cX8_wouldHave 71 = .ok (.getfield 7, 3) := by decide +kernel
theorem dX8_wouldHave_74 : decode cX8_wouldHave 74 = .ok (.iconst 0, 1) := by decide +kernel
theorem dX8_wouldHave_75 : decode cX8_wouldHave 75 = .ok (.aload_n 0, 1) := by decide +kernel
theorem dX8_wouldHave_76 : decode cX8_wouldHave 76 = .ok (.iload_n 2, 1) := by decide +kernel
theorem dX8_wouldHave_77 : decode cX8_wouldHave 77 = .ok (.iconst 1, 1) := by decide +kernel
theorem dX8_wouldHave_78 : decode cX8_wouldHave 78 = .ok (.iload 4, 2) := by decide +kernel
theorem dX8_wouldHave_80 : decode cX8_wouldHave 80 = .ok (.isub, 1) := by decide +kernel
theorem dX8_wouldHave_81 : decode cX8_wouldHave 81 = .ok (.invokevirtual 48, 3) := by decide +kernel
theorem dX8_wouldHave_84 : decode cX8_wouldHave 84 = .ok (.iadd, 1) := by decide +kernel
theorem dX8_wouldHave_85 : decode cX8_wouldHave 85 = .ok (.iaload, 1) := by decide +kernel
theorem dX8_wouldHave_86 : decode cX8_wouldHave 86 = .ok (.imul, 1) := by decide +kernel
theorem dX8_wouldHave_87 : decode cX8_wouldHave 87 = .ok (.istore 6, 2) := by decide +kernel
theorem dX8_wouldHave_89 : decode cX8_wouldHave 89 = .ok (.iload_n 3, 1) := by decide +kernel
theorem dX8_wouldHave_90 : decode cX8_wouldHave 90 = .ok (.iconst 1, 1) := by decide +kernel
theorem dX8_wouldHave_91 : decode cX8_wouldHave 91 = .ok (.if_icmp .ne 14, 3) := by decide +kernel
theorem dX8_wouldHave_94 : decode cX8_wouldHave 94 = .ok (.iload 5, 2) := by decide +kernel
theorem dX8_wouldHave_96 : decode cX8_wouldHave 96 = .ok (.aload_n 0, 1) := by decide +kernel
theorem dX8_wouldHave_97 : decode cX8_wouldHave 97 = .ok (.iload_n 1, 1) := by decide +kernel
theorem dX8_wouldHave_98 : decode cX8_wouldHave 98 = .ok (.invokevirtual 144, 3) := by decide +kernel
theorem dX8_wouldHave_101 : decode cX8_wouldHave 101 = .ok (.isub, 1) := by decide +kernel
theorem dX8_wouldHave_102 : decode cX8_wouldHave 102 = .ok (.goto 8, 3) := by decide +kernel
theorem dX8_wouldHave_105 : decode cX8_wouldHave 105 = .ok (.iload 5, 2) := by decide +kernel
theorem dX8_wouldHave_107 : decode cX8_wouldHave 107 = .ok (.iload 6, 2) := by decide +kernel
theorem dX8_wouldHave_109 : decode cX8_wouldHave 109 = .ok (.iadd, 1) := by decide +kernel
theorem dX8_wouldHave_110 : decode cX8_wouldHave 110 = .ok (.ireturn, 1) := by decide +kernel
theorem dX8_put_0 : decode cX8_put 0 = .ok (.iconst 0, 1) := by decide +kernel
theorem dX8_put_1 : decode cX8_put 1 = .ok (.istore_n 3, 1) := by decide +kernel
theorem dX8_put_2 : decode cX8_put 2 = .ok (.iconst 0, 1) := by decide +kernel
theorem dX8_put_3 : decode cX8_put 3 = .ok (.istore 4, 2) := by decide +kernel
theorem dX8_put_5 : decode cX8_put 5 = .ok (.lload_n 1, 1) := by decide +kernel
theorem dX8_put_6 : decode cX8_put 6 = .ok (.ldc2_w 182, 3) := by decide +kernel
theorem dX8_put_9 : decode cX8_put 9 = .ok (.land, 1) := by decide +kernel
theorem dX8_put_10 : decode cX8_put 10 = .ok (.lconst 0, 1) := by decide +kernel
theorem dX8_put_11 : decode cX8_put 11 = .ok (.lcmp, 1) := by decide +kernel
theorem dX8_put_12 : decode cX8_put 12 = .ok (.ifCond .ne 7, 3) := by decide +kernel
theorem dX8_put_15 : decode cX8_put 15 = .ok (.iconst 1, 1) := by decide +kernel
theorem dX8_put_16 : decode cX8_put 16 = .ok (.goto 4, 3) := by decide +kernel
theorem dX8_put_19 : decode cX8_put 19 = .ok (.iconst 0, 1) := by decide +kernel
theorem dX8_put_20 : decode cX8_put 20 = .ok (.istore 5, 2) := by decide +kernel
theorem dX8_put_22 : decode cX8_put 22 = .ok (.iconst 0, 1) := by decide +kernel
theorem dX8_put_23 : decode cX8_put 23 = .ok (.istore 6, 2) := by decide +kernel
theorem dX8_put_25 : decode cX8_put 25 = .ok (.iload 6, 2) := by decide +kernel
theorem dX8_put_27 : decode cX8_put 27 = .ok (.bipush 8, 2) := by decide +kernel
theorem dX8_put_29 : decode cX8_put 29 = .ok (.if_icmp .ge 90, 3) := by decide +kernel
theorem dX8_put_32 : decode cX8_put 32 = .ok (.lload_n 1, 1) := by decide +kernel
theorem dX8_put_33 : decode cX8_put 33 = .ok (.bipush 8, 2) := by decide +kernel
theorem dX8_put_35 : decode cX8_put 35 = .ok (.iload 6, 2) := by decide +kernel
theorem dX8_put_37 : decode cX8_put 37 = .ok (.imul, 1) := by decide +kernel
theorem dX8_put_38 : decode cX8_put 38 = .ok (.lshr, 1) := by decide +kernel
theorem dX8_put_39 : decode cX8_put 39 = .ok (.ldc2_w 182, 3) := by decide +kernel
theorem dX8_put_42 : decode cX8_put 42 = .ok (.land, 1) := by decide +kernel
theorem dX8_put_43 : decode cX8_put 43 = .ok (.l2i, 1) := by decide +kernel
theorem dX8_put_44 : decode cX8_put 44 = .ok (.istore 7, 2) := by decide +kernel
theorem dX8_put_46 : decode cX8_put 46 = .ok (.iload 4, 2) := by decide +kernel
theorem dX8_put_48 : decode cX8_put 48 = .ok (.ifCond .ne 8, 3) := by decide +kernel
theorem dX8_put_51 : decode cX8_put 51 = .ok (.iload 7, 2) := by decide +kernel
theorem dX8_put_53 : decode cX8_put 53 = .ok (.ifCond .ne 7, 3) := by decide +kernel
theorem dX8_put_56 : decode cX8_put 56 = .ok (.iconst 1, 1) := by decide +kernel
theorem dX8_put_57 : decode cX8_put 57 = .ok (.goto 4, 3) := by decide +kernel
theorem dX8_put_60 : decode cX8_put 60 = .ok (.iconst 0, 1) := by decide +kernel
theorem dX8_put_61 : decode cX8_put 61 = .ok (.istore 4, 2) := by decide +kernel
theorem dX8_put_63 : decode cX8_put 63 = .ok (.iload 5, 2) := by decide +kernel
theorem dX8_put_65 : decode cX8_put 65 = .ok (.ifCond .ne 28, 3) := by decide +kernel
theorem dX8_put_68 : decode cX8_put 68 = .ok (.iload 4, 2) := by decide +kernel
theorem dX8_put_70 : decode cX8_put 70 = .ok (.ifCond .eq 11, 3) := by decide +kernel
theorem dX8_put_73 : decode cX8_put 73 = .ok (.iload 7, 2) := by decide +kernel
theorem dX8_put_75 : decode cX8_put 75 = .ok (.ifCond .eq 22, 3) := by decide +kernel
theorem dX8_put_78 : decode cX8_put 78 = .ok (.goto 15, 3) := by decide +kernel
theorem dX8_put_81 : decode cX8_put 81 = .ok (.iload 7, 2) := by decide +kernel
theorem dX8_put_83 : decode cX8_put 83 = .ok (.bipush 33, 2) := by decide +kernel
theorem dX8_put_85 : decode cX8_put 85 = .ok (.bipush 126, 2) := by decide +kernel
theorem dX8_put_87 : decode cX8_put 87 = .ok (.invokestatic 29, 3) := by decide +kernel
theorem dX8_put_90 : decode cX8_put 90 = .ok (.ifCond .ne 7, 3) := by decide +kernel
theorem dX8_put_93 : decode cX8_put 93 = .ok (.iconst 1, 1) := by decide +kernel
theorem dX8_put_94 : decode cX8_put 94 = .ok (.goto 4, 3) := by decide +kernel
theorem dX8_put_97 : decode cX8_put 97 = .ok (.iconst 0, 1) := by decide +kernel
theorem dX8_put_98 : decode cX8_put 98 = .ok (.istore 5, 2) := by decide +kernel
theorem dX8_put_100 : decode cX8_put 100 = .ok (.iload_n 3, 1) := by decide +kernel
theorem dX8_put_101 : decode cX8_put 101 = .ok (.iload 4, 2) := by decide +kernel
theorem dX8_put_103 : decode cX8_put 103 = .ok (.ifCond .eq 7, 3) := by decide +kernel
theorem dX8_put_106 : decode cX8_put 106 = .ok (.iconst 0, 1) := by decide +kernel
theorem dX8_put_107 : decode cX8_put 107 = .ok (.goto 4, 3) := by decide +kernel
theorem dX8_put_110 : decode cX8_put 110 = .ok (.iconst 1, 1) := by decide +kernel
theorem dX8_put_111 : decode cX8_put 111 = .ok (.iadd, 1) := by decide +kernel
theorem dX8_put_112 : decode cX8_put 112 = .ok (.istore_n 3, 1) := by decide +kernel
theorem dX8_put_113 : decode cX8_put 113 = .ok (.iinc 6 1, 3) := by decide +kernel
theorem dX8_put_116 : decode cX8_put 116 = .ok (.goto (-91), 3) := by decide +kernel
theorem dX8_put_119 : decode cX8_put 119 = .ok (.iload 5, 2) := by decide +kernel
theorem dX8_put_121 : decode cX8_put 121 = .ok (.ifCond .eq 6, 3) := by decide +kernel
theorem dX8_put_124 : decode cX8_put 124 = .ok (.bipush (-2), 2) := by decide +kernel
theorem dX8_put_126 : decode cX8_put 126 = .ok (.ireturn, 1) := by decide +kernel
theorem dX8_put_127 : decode cX8_put 127 = .ok (.aload_n 0, 1) := by decide +kernel
theorem dX8_put_128 : decode cX8_put 128 = .ok (.getfield 156, 3) := by decide +kernel
theorem dX8_put_131 : decode cX8_put 131 = .ok (.iload_n 3, 1) := by decide +kernel
theorem dX8_put_132 : decode cX8_put 132 = .ok (.iadd, 1) := by decide +kernel
theorem dX8_put_133 : decode cX8_put 133 = .ok (.bipush 80, 2) := by decide +kernel
theorem dX8_put_135 : decode cX8_put 135 = .ok (.if_icmp .le 6, 3) := by decide +kernel
theorem dX8_put_138 : decode cX8_put 138 = .ok (.bipush (-4), 2) := by decide +kernel
theorem dX8_put_140 : decode cX8_put 140 = .ok (.ireturn, 1) := by decide +kernel
theorem dX8_put_141 : decode cX8_put 141 = .ok (.iload_n 3, 1) := by decide +kernel
theorem dX8_put_142 : decode cX8_put 142 = .ok (.iconst 1, 1) := by decide +kernel
theorem dX8_put_143 : decode cX8_put 143 = .ok (.isub, 1) := by decide +kernel
theorem dX8_put_144 : decode cX8_put 144 = .ok (.istore 6, 2) := by decide +kernel
theorem dX8_put_146 : decode cX8_put 146 = .ok (.iload 6, 2) := by decide +kernel
theorem dX8_put_148 : decode cX8_put 148 = .ok (.ifCond .lt 25, 3) := by decide +kernel
theorem dX8_put_151 : decode cX8_put 151 = .ok (.aload_n 0, 1) := by decide +kernel
theorem dX8_put_152 : decode cX8_put 152 = .ok (.lload_n 1, 1) := by decide +kernel
theorem dX8_put_153 : decode cX8_put 153 = .ok (.bipush 8, 2) := by decide +kernel
theorem dX8_put_155 : decode cX8_put 155 = .ok (.iload 6, 2) := by decide +kernel
theorem dX8_put_157 : decode cX8_put 157 = .ok (.imul, 1) := by decide +kernel
theorem dX8_put_158 : decode cX8_put 158 = .ok (.lshr, 1) := by decide +kernel
theorem dX8_put_159 : decode cX8_put 159 = .ok (.ldc2_w 182, 3) := by decide +kernel
theorem dX8_put_162 : decode cX8_put 162 = .ok (.land, 1) := by decide +kernel
theorem dX8_put_163 : decode cX8_put 163 = .ok (.l2i, 1) := by decide +kernel
theorem dX8_put_164 : decode cX8_put 164 = .ok (.invokevirtual 159, 3) := by decide +kernel
theorem dX8_put_167 : decode cX8_put 167 = .ok (.iinc 6 (-1), 3) := by decide +kernel
theorem dX8_put_170 : decode cX8_put 170 = .ok (.goto (-24), 3) := by decide +kernel
theorem dX8_put_173 : decode cX8_put 173 = .ok (.aload_n 0, 1) := by decide +kernel
theorem dX8_put_174 : decode cX8_put 174 = .ok (.getfield 156, 3) := by decide +kernel
theorem dX8_put_177 : decode cX8_put 177 = .ok (.ireturn, 1) := by decide +kernel
theorem dX8_wipe_0 : decode cX8_wipe 0 = .ok (.aload_n 0, 1) := by decide +kernel
theorem dX8_wipe_1 : decode cX8_wipe 1 = .ok (.getfield 156, 3) := by decide +kernel
theorem dX8_wipe_4 : decode cX8_wipe 4 = .ok (.istore_n 1, 1) := by decide +kernel
theorem dX8_wipe_5 : decode cX8_wipe 5 = .ok (.aload_n 0, 1) := by decide +kernel
theorem dX8_wipe_6 : decode cX8_wipe 6 = .ok (.iconst 0, 1) := by decide +kernel
theorem dX8_wipe_7 : decode cX8_wipe 7 = .ok (.putfield 156, 3) := by decide +kernel
theorem dX8_wipe_10 : decode cX8_wipe 10 = .ok (.iload_n 1, 1) := by decide +kernel
theorem dX8_wipe_11 : decode cX8_wipe 11 = .ok (.ireturn, 1) := by decide +kernel
theorem dX8_takes_0 : decode cX8_takes 0 = .ok (.aload_n 0, 1) := by decide +kernel
theorem dX8_takes_1 : decode cX8_takes 1 = .ok (.getfield 184, 3) := by decide +kernel
theorem dX8_takes_4 : decode cX8_takes 4 = .ok (.aload_n 0, 1) := by decide +kernel
theorem dX8_takes_5 : decode cX8_takes 5 = .ok (.getfield 156, 3) := by decide +kernel
theorem dX8_takes_8 : decode cX8_takes 8 = .ok (.if_icmp .ge 15, 3) := by decide +kernel
theorem dX8_takes_11 : decode cX8_takes 11 = .ok (.aload_n 0, 1) := by decide +kernel
theorem dX8_takes_12 : decode cX8_takes 12 = .ok (.getfield 22, 3) := by decide +kernel
theorem dX8_takes_15 : decode cX8_takes 15 = .ok (.aload_n 0, 1) := by decide +kernel
theorem dX8_takes_16 : decode cX8_takes 16 = .ok (.getfield 184, 3) := by decide +kernel
theorem dX8_takes_19 : decode cX8_takes 19 = .ok (.iaload, 1) := by decide +kernel
theorem dX8_takes_20 : decode cX8_takes 20 = .ok (.goto 4, 3) := by decide +kernel
theorem dX8_takes_23 : decode cX8_takes 23 = .ok (.iconst 0, 1) := by decide +kernel
theorem dX8_takes_24 : decode cX8_takes 24 = .ok (.istore_n 3, 1) := by decide +kernel
theorem dX8_takes_25 : decode cX8_takes 25 = .ok (.aload_n 0, 1) := by decide +kernel
theorem dX8_takes_26 : decode cX8_takes 26 = .ok (.aload_n 0, 1) := by decide +kernel
theorem dX8_takes_27 : decode cX8_takes 27 = .ok (.getfield 187, 3) := by decide +kernel
theorem dX8_takes_30 : decode cX8_takes 30 = .ok (.ifCond .ne 12, 3) := by decide +kernel
theorem dX8_takes_33 : decode cX8_takes 33 = .ok (.iload_n 3, 1) := by decide +kernel
theorem dX8_takes_34 : decode cX8_takes 34 = .ok (.iload_n 1, 1) := by decide +kernel
theorem dX8_takes_35 : decode cX8_takes 35 = .ok (.iload_n 2, 1) := by decide +kernel
theorem dX8_takes_36 : decode cX8_takes 36 = .ok (.invokestatic 29, 3) := by decide +kernel
theorem dX8_takes_39 : decode cX8_takes 39 = .ok (.ifCond .ne 7, 3) := by decide +kernel
theorem dX8_takes_42 : decode cX8_takes 42 = .ok (.iconst 1, 1) := by decide +kernel
theorem dX8_takes_43 : decode cX8_takes 43 = .ok (.goto 4, 3) := by decide +kernel
theorem dX8_takes_46 : decode cX8_takes 46 = .ok (.iconst 0, 1) := by decide +kernel
theorem dX8_takes_47 : decode cX8_takes 47 = .ok (.putfield 187, 3) := by decide +kernel
theorem dX8_takes_50 : decode cX8_takes 50 = .ok (.aload_n 0, 1) := by decide +kernel
theorem dX8_takes_51 : decode cX8_takes 51 = .ok (.dup, 1) := by decide +kernel
theorem dX8_takes_52 : decode cX8_takes 52 = .ok (.getfield 184, 3) := by decide +kernel
theorem dX8_takes_55 : decode cX8_takes 55 = .ok (.aload_n 0, 1) := by decide +kernel
theorem dX8_takes_56 : decode cX8_takes 56 = .ok (.getfield 187, 3) := by decide +kernel
theorem dX8_takes_59 : decode cX8_takes 59 = .ok (.ifCond .eq 7, 3) := by decide +kernel
theorem dX8_takes_62 : decode cX8_takes 62 = .ok (.iconst 0, 1) := by decide +kernel
theorem dX8_takes_63 : decode cX8_takes 63 = .ok (.goto 4, 3) := by decide +kernel
theorem dX8_takes_66 : decode cX8_takes 66 = .ok (.iconst 1, 1) := by decide +kernel
theorem dX8_takes_67 : decode cX8_takes 67 = .ok (.iadd, 1) := by decide +kernel
theorem dX8_takes_68 : decode cX8_takes 68 = .ok (.putfield 184, 3) := by decide +kernel
theorem dX8_takes_71 : decode cX8_takes 71 = .ok (.iload_n 3, 1) := by decide +kernel
theorem dX8_takes_72 : decode cX8_takes 72 = .ok (.ireturn, 1) := by decide +kernel
theorem dX8_digit_0 : decode cX8_digit 0 = .ok (.aload_n 0, 1) := by decide +kernel
theorem dX8_digit_1 : decode cX8_digit 1 = .ok (.bipush 48, 2) := by decide +kernel
theorem dX8_digit_3 : decode cX8_digit 3 = .ok (.bipush 57, 2) := by decide +kernel
theorem dX8_digit_5 : decode cX8_digit 5 = .ok (.invokevirtual 191, 3) := by decide +kernel
theorem dX8_digit_8 : decode cX8_digit 8 = .ok (.bipush 48, 2) := by decide +kernel
theorem dX8_digit_10 : decode cX8_digit 10 = .ok (.isub, 1) := by decide +kernel
theorem dX8_digit_11 : decode cX8_digit 11 = .ok (.ireturn, 1) := by decide +kernel
theorem dX8_number_0 : decode cX8_number 0 = .ok (.aload_n 0, 1) := by decide +kernel
theorem dX8_number_1 : decode cX8_number 1 = .ok (.invokevirtual 194, 3) := by decide +kernel
theorem dX8_number_4 : decode cX8_number 4 = .ok (.istore_n 1, 1) := by decide +kernel
theorem dX8_number_5 : decode cX8_number 5 = .ok (.aload_n 0, 1) := by decide +kernel
theorem dX8_number_6 : decode cX8_number 6 = .ok (.getfield 187, 3) := by decide +kernel
theorem dX8_number_9 : decode cX8_number 9 = .ok (.ifCond .ne 91, 3) := by decide +kernel
theorem dX8_number_12 : decode cX8_number 12 = .ok (.iload_n 1, 1) := by decide +kernel
theorem dX8_number_13 : decode cX8_number 13 = .ok (.ifCond .le 87, 3) := by decide +kernel
theorem dX8_number_16 : decode cX8_number 16 = .ok (.aload_n 0, 1) := by decide +kernel
theorem dX8_number_17 : decode cX8_number 17 = .ok (.getfield 184, 3) := by decide +kernel
theorem dX8_number_20 : decode cX8_number 20 = .ok (.aload_n 0, 1) := by decide +kernel
theorem dX8_number_21 : decode cX8_number 21 = .ok (.getfield 156, 3) := by decide +kernel
theorem dX8_number_24 : decode cX8_number 24 = .ok (.if_icmp .ge 76, 3) := by decide +kernel
theorem dX8_number_27 : decode cX8_number 27 = .ok (.aload_n 0, 1) := by decide +kernel
theorem dX8_number_28 : decode cX8_number 28 = .ok (.getfield 22, 3) := by decide +kernel
theorem dX8_number_31 : decode cX8_number 31 = .ok (.aload_n 0, 1) := by decide +kernel
theorem dX8_number_32 : decode cX8_number 32 = .ok (.getfield 184, 3) := by decide +kernel
theorem dX8_number_35 : decode cX8_number 35 = .ok (.iaload, 1) := by decide +kernel
theorem dX8_number_36 : decode cX8_number 36 = .ok (.bipush 48, 2) := by decide +kernel
theorem dX8_number_38 : decode cX8_number 38 = .ok (.bipush 57, 2) := by decide +kernel
theorem dX8_number_40 : decode cX8_number 40 = .ok (.invokestatic 29, 3) := by decide +kernel
theorem dX8_number_43 : decode cX8_number 43 = .ok (.ifCond .eq 57, 3) := by decide +kernel
theorem dX8_number_46 : decode cX8_number 46 = .ok (.bipush 10, 2) := by decide +kernel
theorem dX8_number_48 : decode cX8_number 48 = .ok (.iload_n 1, 1) := by decide +kernel
theorem dX8_number_49 : decode cX8_number 49 = .ok (.imul, 1) := by decide +kernel
theorem dX8_number_50 : decode cX8_number 50 = .ok (.aload_n 0, 1) := by decide +kernel
theorem dX8_number_51 : decode cX8_number 51 = .ok (.getfield 22, 3) := by decide +kernel
theorem dX8_number_54 : decode cX8_number 54 = .ok (.aload_n 0, 1) := by decide +kernel
theorem dX8_number_55 : decode cX8_number 55 = .ok (.getfield 184, 3) := by decide +kernel
theorem dX8_number_58 : decode cX8_number 58 = .ok (.iaload, 1) := by decide +kernel
theorem dX8_number_59 : decode cX8_number 59 = .ok (.iadd, 1) := by decide +kernel
theorem dX8_number_60 : decode cX8_number 60 = .ok (.bipush 48, 2) := by decide +kernel
theorem dX8_number_62 : decode cX8_number 62 = .ok (.isub, 1) := by decide +kernel
theorem dX8_number_63 : decode cX8_number 63 = .ok (.sipush 9999, 3) := by decide +kernel
theorem dX8_number_66 : decode cX8_number 66 = .ok (.if_icmp .gt 34, 3) := by decide +kernel
theorem dX8_number_69 : decode cX8_number 69 = .ok (.bipush 10, 2) := by decide +kernel
theorem dX8_number_71 : decode cX8_number 71 = .ok (.iload_n 1, 1) := by decide +kernel
theorem dX8_number_72 : decode cX8_number 72 = .ok (.imul, 1) := by decide +kernel
theorem dX8_number_73 : decode cX8_number 73 = .ok (.aload_n 0, 1) := by decide +kernel
theorem dX8_number_74 : decode cX8_number 74 = .ok (.getfield 22, 3) := by decide +kernel
theorem dX8_number_77 : decode cX8_number 77 = .ok (.aload_n 0, 1) := by decide +kernel
theorem dX8_number_78 : decode cX8_number 78 = .ok (.getfield 184, 3) := by decide +kernel
theorem dX8_number_81 : decode cX8_number 81 = .ok (.iaload, 1) := by decide +kernel
theorem dX8_number_82 : decode cX8_number 82 = .ok (.iadd, 1) := by decide +kernel
theorem dX8_number_83 : decode cX8_number 83 = .ok (.bipush 48, 2) := by decide +kernel
theorem dX8_number_85 : decode cX8_number 85 = .ok (.isub, 1) := by decide +kernel
theorem dX8_number_86 : decode cX8_number 86 = .ok (.istore_n 1, 1) := by decide +kernel
theorem dX8_number_87 : decode cX8_number 87 = .ok (.aload_n 0, 1) := by decide +kernel
theorem dX8_number_88 : decode cX8_number 88 = .ok (.dup, 1) := by decide +kernel
theorem dX8_number_89 : decode cX8_number 89 = .ok (.getfield 184, 3) := by decide +kernel
theorem dX8_number_92 : decode cX8_number 92 = .ok (.iconst 1, 1) := by decide +kernel
theorem dX8_number_93 : decode cX8_number 93 = .ok (.iadd, 1) := by decide +kernel
theorem dX8_number_94 : decode cX8_number 94 = .ok (.putfield 184, 3) := by decide +kernel
theorem dX8_number_97 : decode cX8_number 97 = .ok (.goto (-92), 3) := by decide +kernel
theorem dX8_number_100 : decode cX8_number 100 = .ok (.iload_n 1, 1) := by decide +kernel
theorem dX8_number_101 : decode cX8_number 101 = .ok (.ireturn, 1) := by decide +kernel
theorem dX8_isLetter_0 : decode cX8_isLetter 0 = .ok (.iload_n 0, 1) := by decide +kernel
theorem dX8_isLetter_1 : decode cX8_isLetter 1 = .ok (.bipush 114, 2) := by decide +kernel
theorem dX8_isLetter_3 : decode cX8_isLetter 3 = .ok (.if_icmp .eq 45, 3) := by decide +kernel
theorem dX8_isLetter_6 : decode cX8_isLetter 6 = .ok (.iload_n 0, 1) := by decide +kernel
theorem dX8_isLetter_7 : decode cX8_isLetter 7 = .ok (.bipush 112, 2) := by decide +kernel
theorem dX8_isLetter_9 : decode cX8_isLetter 9 = .ok (.if_icmp .eq 39, 3) := by decide +kernel
theorem dX8_isLetter_12 : decode cX8_isLetter 12 = .ok (.iload_n 0, 1) := by decide +kernel
theorem dX8_isLetter_13 : decode cX8_isLetter 13 = .ok (.bipush 103, 2) := by decide +kernel
theorem dX8_isLetter_15 : decode cX8_isLetter 15 = .ok (.if_icmp .eq 33, 3) := by decide +kernel
theorem dX8_isLetter_18 : decode cX8_isLetter 18 = .ok (.iload_n 0, 1) := by decide +kernel
theorem dX8_isLetter_19 : decode cX8_isLetter 19 = .ok (.bipush 99, 2) := by decide +kernel
theorem dX8_isLetter_21 : decode cX8_isLetter 21 = .ok (.if_icmp .eq 27, 3) := by decide +kernel
theorem dX8_isLetter_24 : decode cX8_isLetter 24 = .ok (.iload_n 0, 1) := by decide +kernel
theorem dX8_isLetter_25 : decode cX8_isLetter 25 = .ok (.bipush 98, 2) := by decide +kernel
theorem dX8_isLetter_27 : decode cX8_isLetter 27 = .ok (.if_icmp .eq 21, 3) := by decide +kernel
theorem dX8_isLetter_30 : decode cX8_isLetter 30 = .ok (.iload_n 0, 1) := by decide +kernel
theorem dX8_isLetter_31 : decode cX8_isLetter 31 = .ok (.bipush 115, 2) := by decide +kernel
theorem dX8_isLetter_33 : decode cX8_isLetter 33 = .ok (.if_icmp .eq 15, 3) := by decide +kernel
theorem dX8_isLetter_36 : decode cX8_isLetter 36 = .ok (.iload_n 0, 1) := by decide +kernel
theorem dX8_isLetter_37 : decode cX8_isLetter 37 = .ok (.bipush 111, 2) := by decide +kernel
theorem dX8_isLetter_39 : decode cX8_isLetter 39 = .ok (.if_icmp .eq 9, 3) := by decide +kernel
theorem dX8_isLetter_42 : decode cX8_isLetter 42 = .ok (.iload_n 0, 1) := by decide +kernel
theorem dX8_isLetter_43 : decode cX8_isLetter 43 = .ok (.bipush 104, 2) := by decide +kernel
theorem dX8_isLetter_45 : decode cX8_isLetter 45 = .ok (.if_icmp .ne 7, 3) := by decide +kernel
theorem dX8_isLetter_48 : decode cX8_isLetter 48 = .ok (.iconst 1, 1) := by decide +kernel
theorem dX8_isLetter_49 : decode cX8_isLetter 49 = .ok (.goto 4, 3) := by decide +kernel
theorem dX8_isLetter_52 : decode cX8_isLetter 52 = .ok (.iconst 0, 1) := by decide +kernel
theorem dX8_isLetter_53 : decode cX8_isLetter 53 = .ok (.ireturn, 1) := by decide +kernel
theorem dX8_between_0 : decode cX8_between 0 = .ok (.iload_n 0, 1) := by decide +kernel
theorem dX8_between_1 : decode cX8_between 1 = .ok (.bipush 112, 2) := by decide +kernel
theorem dX8_between_3 : decode cX8_between 3 = .ok (.if_icmp .ne 8, 3) := by decide +kernel
theorem dX8_between_6 : decode cX8_between 6 = .ok (.bipush 61, 2) := by decide +kernel
theorem dX8_between_8 : decode cX8_between 8 = .ok (.goto 28, 3) := by decide +kernel
theorem dX8_between_11 : decode cX8_between 11 = .ok (.iload_n 0, 1) := by decide +kernel
theorem dX8_between_12 : decode cX8_between 12 = .ok (.bipush 103, 2) := by decide +kernel
theorem dX8_between_14 : decode cX8_between 14 = .ok (.if_icmp .eq 15, 3) := by decide +kernel
theorem dX8_between_17 : decode cX8_between 17 = .ok (.iload_n 0, 1) := by decide +kernel
theorem dX8_between_18 : decode cX8_between 18 = .ok (.bipush 111, 2) := by decide +kernel
theorem dX8_between_20 : decode cX8_between 20 = .ok (.if_icmp .eq 9, 3) := by decide +kernel
theorem dX8_between_23 : decode cX8_between 23 = .ok (.iload_n 0, 1) := by decide +kernel
theorem dX8_between_24 : decode cX8_between 24 = .ok (.bipush 104, 2) := by decide +kernel
theorem dX8_between_26 : decode cX8_between 26 = .ok (.if_icmp .ne 8, 3) := by decide +kernel
theorem dX8_between_29 : decode cX8_between 29 = .ok (.bipush 58, 2) := by decide +kernel
theorem dX8_between_31 : decode cX8_between 31 = .ok (.goto 5, 3) := by decide +kernel
theorem dX8_between_34 : decode cX8_between 34 = .ok (.bipush 42, 2) := by decide +kernel
theorem dX8_between_36 : decode cX8_between 36 = .ok (.ireturn, 1) := by decide +kernel
theorem dX8_readOrder_0 : decode cX8_readOrder 0 = .ok (.aload_n 0, 1) := by decide +kernel
theorem dX8_readOrder_1 : decode cX8_readOrder 1 = .ok (.aload_n 0, 1) := by decide +kernel
theorem dX8_readOrder_2 : decode cX8_readOrder 2 = .ok (.getfield 184, 3) := by decide +kernel
theorem dX8_readOrder_5 : decode cX8_readOrder 5 = .ok (.aload_n 0, 1) := by decide +kernel
theorem dX8_readOrder_6 : decode cX8_readOrder 6 = .ok (.getfield 156, 3) := by decide +kernel
theorem dX8_readOrder_9 : decode cX8_readOrder 9 = .ok (.if_icmp .ge 15, 3) := by decide +kernel
theorem dX8_readOrder_12 : decode cX8_readOrder 12 = .ok (.aload_n 0, 1) := by decide +kernel
theorem dX8_readOrder_13 : decode cX8_readOrder 13 = .ok (.getfield 22, 3) := by decide +kernel
theorem dX8_readOrder_16 : decode cX8_readOrder 16 = .ok (.aload_n 0, 1) := by decide +kernel
theorem dX8_readOrder_17 : decode cX8_readOrder 17 = .ok (.getfield 184, 3) := by decide +kernel
theorem dX8_readOrder_20 : decode cX8_readOrder 20 = .ok (.iaload, 1) := by decide +kernel
theorem dX8_readOrder_21 : decode cX8_readOrder 21 = .ok (.goto 4, 3) := by decide +kernel
theorem dX8_readOrder_24 : decode cX8_readOrder 24 = .ok (.iconst 0, 1) := by decide +kernel
theorem dX8_readOrder_25 : decode cX8_readOrder 25 = .ok (.putfield 197, 3) := by decide +kernel
theorem dX8_readOrder_28 : decode cX8_readOrder 28 = .ok (.aload_n 0, 1) := by decide +kernel
theorem dX8_readOrder_29 : decode cX8_readOrder 29 = .ok (.aload_n 0, 1) := by decide +kernel
theorem dX8_readOrder_30 : decode cX8_readOrder 30 = .ok (.getfield 187, 3) := by decide +kernel
theorem dX8_readOrder_33 : decode cX8_readOrder 33 = .ok (.ifCond .ne 13, 3) := by decide +kernel
theorem dX8_readOrder_36 : decode cX8_readOrder 36 = .ok (.aload_n 0, 1) := by decide +kernel
theorem dX8_readOrder_37 : decode cX8_readOrder 37 = .ok (.getfield 197, 3) := by decide +kernel
theorem dX8_readOrder_40 : decode cX8_readOrder 40 = .ok (.invokestatic 200, 3) := by decide +kernel
theorem dX8_readOrder_43 : decode cX8_readOrder 43 = .ok (.ifCond .ne 7, 3) := by decide +kernel
theorem dX8_readOrder_46 : decode cX8_readOrder 46 = .ok (.iconst 1, 1) := by decide +kernel
theorem dX8_readOrder_47 : decode cX8_readOrder 47 = .ok (.goto 4, 3) := by decide +kernel
theorem dX8_readOrder_50 : decode cX8_readOrder 50 = .ok (.iconst 0, 1) := by decide +kernel
theorem dX8_readOrder_51 : decode cX8_readOrder 51 = .ok (.putfield 187, 3) := by decide +kernel
theorem dX8_readOrder_54 : decode cX8_readOrder 54 = .ok (.aload_n 0, 1) := by decide +kernel
theorem dX8_readOrder_55 : decode cX8_readOrder 55 = .ok (.dup, 1) := by decide +kernel
theorem dX8_readOrder_56 : decode cX8_readOrder 56 = .ok (.getfield 184, 3) := by decide +kernel
theorem dX8_readOrder_59 : decode cX8_readOrder 59 = .ok (.aload_n 0, 1) := by decide +kernel
theorem dX8_readOrder_60 : decode cX8_readOrder 60 = .ok (.getfield 187, 3) := by decide +kernel
theorem dX8_readOrder_63 : decode cX8_readOrder 63 = .ok (.ifCond .eq 7, 3) := by decide +kernel
theorem dX8_readOrder_66 : decode cX8_readOrder 66 = .ok (.iconst 0, 1) := by decide +kernel
theorem dX8_readOrder_67 : decode cX8_readOrder 67 = .ok (.goto 4, 3) := by decide +kernel
theorem dX8_readOrder_70 : decode cX8_readOrder 70 = .ok (.iconst 1, 1) := by decide +kernel
theorem dX8_readOrder_71 : decode cX8_readOrder 71 = .ok (.iadd, 1) := by decide +kernel
theorem dX8_readOrder_72 : decode cX8_readOrder 72 = .ok (.putfield 184, 3) := by decide +kernel
theorem dX8_readOrder_75 : decode cX8_readOrder 75 = .ok (.aload_n 0, 1) := by decide +kernel
theorem dX8_readOrder_76 : decode cX8_readOrder 76 = .ok (.aload_n 0, 1) := by decide +kernel
theorem dX8_readOrder_77 : decode cX8_readOrder 77 = .ok (.getfield 197, 3) := by decide +kernel
theorem dX8_readOrder_80 : decode cX8_readOrder 80 = .ok (.bipush 103, 2) := by decide +kernel
theorem dX8_readOrder_82 : decode cX8_readOrder 82 = .ok (.if_icmp .ne 10, 3) := by decide +kernel
theorem dX8_readOrder_85 : decode cX8_readOrder 85 = .ok (.aload_n 0, 1) := by decide +kernel
theorem dX8_readOrder_86 : decode cX8_readOrder 86 = .ok (.invokevirtual 203, 3) := by decide +kernel
theorem dX8_readOrder_89 : decode cX8_readOrder 89 = .ok (.goto 7, 3) := by decide +kernel
theorem dX8_readOrder_92 : decode cX8_readOrder 92 = .ok (.aload_n 0, 1) := by decide +kernel
theorem dX8_readOrder_93 : decode cX8_readOrder 93 = .ok (.invokevirtual 194, 3) := by decide +kernel
theorem dX8_readOrder_96 : decode cX8_readOrder 96 = .ok (.putfield 206, 3) := by decide +kernel
theorem dX8_readOrder_99 : decode cX8_readOrder 99 = .ok (.aload_n 0, 1) := by decide +kernel
theorem dX8_readOrder_100 : decode cX8_readOrder 100 = .ok (.aload_n 0, 1) := by decide +kernel
theorem dX8_readOrder_101 : decode cX8_readOrder 101 = .ok (.getfield 197, 3) := by decide +kernel
theorem dX8_readOrder_104 : decode cX8_readOrder 104 = .ok (.bipush 114, 2) := by decide +kernel
theorem dX8_readOrder_106 : decode cX8_readOrder 106 = .ok (.if_icmp .ne 10, 3) := by decide +kernel
theorem dX8_readOrder_109 : decode cX8_readOrder 109 = .ok (.aload_n 0, 1) := by decide +kernel
theorem dX8_readOrder_110 : decode cX8_readOrder 110 = .ok (.invokevirtual 194, 3) := by decide +kernel
theorem dX8_readOrder_113 : decode cX8_readOrder 113 = .ok (.goto 4, 3) := by decide +kernel
theorem dX8_readOrder_116 : decode cX8_readOrder 116 = .ok (.iconst 0, 1) := by decide +kernel
theorem dX8_readOrder_117 : decode cX8_readOrder 117 = .ok (.putfield 209, 3) := by decide +kernel
theorem dX8_readOrder_120 : decode cX8_readOrder 120 = .ok (.aload_n 0, 1) := by decide +kernel
theorem dX8_readOrder_121 : decode cX8_readOrder 121 = .ok (.aload_n 0, 1) := by decide +kernel
theorem dX8_readOrder_122 : decode cX8_readOrder 122 = .ok (.getfield 197, 3) := by decide +kernel
theorem dX8_readOrder_125 : decode cX8_readOrder 125 = .ok (.invokestatic 212, 3) := by decide +kernel
theorem dX8_readOrder_128 : decode cX8_readOrder 128 = .ok (.aload_n 0, 1) := by decide +kernel
theorem dX8_readOrder_129 : decode cX8_readOrder 129 = .ok (.getfield 197, 3) := by decide +kernel
theorem dX8_readOrder_132 : decode cX8_readOrder 132 = .ok (.invokestatic 212, 3) := by decide +kernel
theorem dX8_readOrder_135 : decode cX8_readOrder 135 = .ok (.invokevirtual 191, 3) := by decide +kernel
theorem dX8_readOrder_138 : decode cX8_readOrder 138 = .ok (.istore_n 1, 1) := by decide +kernel
theorem dX8_readOrder_139 : decode cX8_readOrder 139 = .ok (.aload_n 0, 1) := by decide +kernel
theorem dX8_readOrder_140 : decode cX8_readOrder 140 = .ok (.aload_n 0, 1) := by decide +kernel
theorem dX8_readOrder_141 : decode cX8_readOrder 141 = .ok (.invokevirtual 203, 3) := by decide +kernel
theorem dX8_readOrder_144 : decode cX8_readOrder 144 = .ok (.putfield 215, 3) := by decide +kernel
theorem dX8_readOrder_147 : decode cX8_readOrder 147 = .ok (.return_, 1) := by decide +kernel
theorem dX8_does_0 : decode cX8_does 0 = .ok (.aload_n 0, 1) := by decide +kernel
theorem dX8_does_1 : decode cX8_does 1 = .ok (.getfield 197, 3) := by decide +kernel
theorem dX8_does_4 : decode cX8_does 4 = .ok (.tableswitch 170 98 115 #[144, 131, 170, 170, 170, 118, 170, 170, 170, 170, 170, 170, 170, 170, 105, 170, 88, 157], 88) := by decide +kernel
theorem dX8_does_92 : decode cX8_does 92 = .ok (.aload_n 0, 1) := by decide +kernel
theorem dX8_does_93 : decode cX8_does 93 = .ok (.aload_n 0, 1) := by decide +kernel
theorem dX8_does_94 : decode cX8_does 94 = .ok (.getfield 206, 3) := by decide +kernel
theorem dX8_does_97 : decode cX8_does 97 = .ok (.aload_n 0, 1) := by decide +kernel
theorem dX8_does_98 : decode cX8_does 98 = .ok (.getfield 209, 3) := by decide +kernel
theorem dX8_does_101 : decode cX8_does 101 = .ok (.aload_n 0, 1) := by decide +kernel
theorem dX8_does_102 : decode cX8_does 102 = .ok (.getfield 215, 3) := by decide +kernel
theorem dX8_does_105 : decode cX8_does 105 = .ok (.invokevirtual 111, 3) := by decide +kernel
theorem dX8_does_108 : decode cX8_does 108 = .ok (.ireturn, 1) := by decide +kernel
theorem dX8_does_109 : decode cX8_does 109 = .ok (.aload_n 0, 1) := by decide +kernel
theorem dX8_does_110 : decode cX8_does 110 = .ok (.aload_n 0, 1) := by decide +kernel
theorem dX8_does_111 : decode cX8_does 111 = .ok (.getfield 206, 3) := by decide +kernel
theorem dX8_does_114 : decode cX8_does 114 = .ok (.aload_n 0, 1) := by decide +kernel
theorem dX8_does_115 : decode cX8_does 115 = .ok (.getfield 215, 3) := by decide +kernel
theorem dX8_does_118 : decode cX8_does 118 = .ok (.invokevirtual 115, 3) := by decide +kernel
theorem dX8_does_121 : decode cX8_does 121 = .ok (.ireturn, 1) := by decide +kernel
theorem dX8_does_122 : decode cX8_does 122 = .ok (.aload_n 0, 1) := by decide +kernel
theorem dX8_does_123 : decode cX8_does 123 = .ok (.aload_n 0, 1) := by decide +kernel
theorem dX8_does_124 : decode cX8_does 124 = .ok (.getfield 206, 3) := by decide +kernel
theorem dX8_does_127 : decode cX8_does 127 = .ok (.aload_n 0, 1) := by decide +kernel
theorem dX8_does_128 : decode cX8_does 128 = .ok (.getfield 215, 3) := by decide +kernel
theorem dX8_does_131 : decode cX8_does 131 = .ok (.invokevirtual 121, 3) := by decide +kernel
theorem dX8_does_134 : decode cX8_does 134 = .ok (.ireturn, 1) := by decide +kernel
theorem dX8_does_135 : decode cX8_does 135 = .ok (.aload_n 0, 1) := by decide +kernel
theorem dX8_does_136 : decode cX8_does 136 = .ok (.aload_n 0, 1) := by decide +kernel
theorem dX8_does_137 : decode cX8_does 137 = .ok (.getfield 206, 3) := by decide +kernel
theorem dX8_does_140 : decode cX8_does 140 = .ok (.aload_n 0, 1) := by decide +kernel
theorem dX8_does_141 : decode cX8_does 141 = .ok (.getfield 215, 3) := by decide +kernel
theorem dX8_does_144 : decode cX8_does 144 = .ok (.invokevirtual 131, 3) := by decide +kernel
theorem dX8_does_147 : decode cX8_does 147 = .ok (.ireturn, 1) := by decide +kernel
theorem dX8_does_148 : decode cX8_does 148 = .ok (.aload_n 0, 1) := by decide +kernel
theorem dX8_does_149 : decode cX8_does 149 = .ok (.aload_n 0, 1) := by decide +kernel
theorem dX8_does_150 : decode cX8_does 150 = .ok (.getfield 206, 3) := by decide +kernel
theorem dX8_does_153 : decode cX8_does 153 = .ok (.aload_n 0, 1) := by decide +kernel
theorem dX8_does_154 : decode cX8_does 154 = .ok (.getfield 215, 3) := by decide +kernel
theorem dX8_does_157 : decode cX8_does 157 = .ok (.invokevirtual 137, 3) := by decide +kernel
theorem dX8_does_160 : decode cX8_does 160 = .ok (.ireturn, 1) := by decide +kernel
theorem dX8_does_161 : decode cX8_does 161 = .ok (.aload_n 0, 1) := by decide +kernel
theorem dX8_does_162 : decode cX8_does 162 = .ok (.aload_n 0, 1) := by decide +kernel
theorem dX8_does_163 : decode cX8_does 163 = .ok (.getfield 206, 3) := by decide +kernel
theorem dX8_does_166 : decode cX8_does 166 = .ok (.aload_n 0, 1) := by decide +kernel
theorem dX8_does_167 : decode cX8_does 167 = .ok (.getfield 215, 3) := by decide +kernel
theorem dX8_does_170 : decode cX8_does 170 = .ok (.invokevirtual 140, 3) := by decide +kernel
theorem dX8_does_173 : decode cX8_does 173 = .ok (.ireturn, 1) := by decide +kernel
theorem dX8_does_174 : decode cX8_does 174 = .ok (.aload_n 0, 1) := by decide +kernel
theorem dX8_does_175 : decode cX8_does 175 = .ok (.aload_n 0, 1) := by decide +kernel
theorem dX8_does_176 : decode cX8_does 176 = .ok (.getfield 206, 3) := by decide +kernel
theorem dX8_does_179 : decode cX8_does 179 = .ok (.aload_n 0, 1) := by decide +kernel
theorem dX8_does_180 : decode cX8_does 180 = .ok (.getfield 215, 3) := by decide +kernel
theorem dX8_does_183 : decode cX8_does 183 = .ok (.aload_n 0, 1) := by decide +kernel
theorem dX8_does_184 : decode cX8_does 184 = .ok (.getfield 197, 3) := by decide +kernel
theorem dX8_does_187 : decode cX8_does 187 = .ok (.bipush 104, 2) := by decide +kernel
theorem dX8_does_189 : decode cX8_does 189 = .ok (.if_icmp .ne 7, 3) := by decide +kernel
theorem dX8_does_192 : decode cX8_does 192 = .ok (.iconst 1, 1) := by decide +kernel
theorem dX8_does_193 : decode cX8_does 193 = .ok (.goto 4, 3) := by decide +kernel
theorem dX8_does_196 : decode cX8_does 196 = .ok (.iconst 0, 1) := by decide +kernel
theorem dX8_does_197 : decode cX8_does 197 = .ok (.invokevirtual 153, 3) := by decide +kernel
theorem dX8_does_200 : decode cX8_does 200 = .ok (.ireturn, 1) := by decide +kernel
theorem dX8_goesThrough_0 : decode cX8_goesThrough 0 = .ok (.aload_n 0, 1) := by decide +kernel
theorem dX8_goesThrough_1 : decode cX8_goesThrough 1 = .ok (.iconst 0, 1) := by decide +kernel
theorem dX8_goesThrough_2 : decode cX8_goesThrough 2 = .ok (.putfield 184, 3) := by decide +kernel
theorem dX8_goesThrough_5 : decode cX8_goesThrough 5 = .ok (.aload_n 0, 1) := by decide +kernel
theorem dX8_goesThrough_6 : decode cX8_goesThrough 6 = .ok (.iconst 0, 1) := by decide +kernel
theorem dX8_goesThrough_7 : decode cX8_goesThrough 7 = .ok (.putfield 187, 3) := by decide +kernel
theorem dX8_goesThrough_10 : decode cX8_goesThrough 10 = .ok (.iconst 0, 1) := by decide +kernel
theorem dX8_goesThrough_11 : decode cX8_goesThrough 11 = .ok (.istore_n 2, 1) := by decide +kernel
theorem dX8_goesThrough_12 : decode cX8_goesThrough 12 = .ok (.iconst 1, 1) := by decide +kernel
theorem dX8_goesThrough_13 : decode cX8_goesThrough 13 = .ok (.istore_n 3, 1) := by decide +kernel
theorem dX8_goesThrough_14 : decode cX8_goesThrough 14 = .ok (.iload_n 3, 1) := by decide +kernel
theorem dX8_goesThrough_15 : decode cX8_goesThrough 15 = .ok (.ifCond .eq 94, 3) := by decide +kernel
theorem dX8_goesThrough_18 : decode cX8_goesThrough 18 = .ok (.aload_n 0, 1) := by decide +kernel
theorem dX8_goesThrough_19 : decode cX8_goesThrough 19 = .ok (.invokevirtual 218, 3) := by decide +kernel
theorem dX8_goesThrough_22 : decode cX8_goesThrough 22 = .ok (.aload_n 0, 1) := by decide +kernel
theorem dX8_goesThrough_23 : decode cX8_goesThrough 23 = .ok (.getfield 187, 3) := by decide +kernel
theorem dX8_goesThrough_26 : decode cX8_goesThrough 26 = .ok (.ifCond .ne 18, 3) := by decide +kernel
theorem dX8_goesThrough_29 : decode cX8_goesThrough 29 = .ok (.iload_n 1, 1) := by decide +kernel
theorem dX8_goesThrough_30 : decode cX8_goesThrough 30 = .ok (.ifCond .eq 10, 3) := by decide +kernel
theorem dX8_goesThrough_33 : decode cX8_goesThrough 33 = .ok (.aload_n 0, 1) := by decide +kernel
theorem dX8_goesThrough_34 : decode cX8_goesThrough 34 = .ok (.invokevirtual 221, 3) := by decide +kernel
theorem dX8_goesThrough_37 : decode cX8_goesThrough 37 = .ok (.ifCond .lt 7, 3) := by decide +kernel
theorem dX8_goesThrough_40 : decode cX8_goesThrough 40 = .ok (.iconst 1, 1) := by decide +kernel
theorem dX8_goesThrough_41 : decode cX8_goesThrough 41 = .ok (.goto 4, 3) := by decide +kernel
theorem dX8_goesThrough_44 : decode cX8_goesThrough 44 = .ok (.iconst 0, 1) := by decide +kernel
theorem dX8_goesThrough_45 : decode cX8_goesThrough 45 = .ok (.istore_n 3, 1) := by decide +kernel
theorem dX8_goesThrough_46 : decode cX8_goesThrough 46 = .ok (.iload_n 2, 1) := by decide +kernel
theorem dX8_goesThrough_47 : decode cX8_goesThrough 47 = .ok (.iload_n 3, 1) := by decide +kernel
theorem dX8_goesThrough_48 : decode cX8_goesThrough 48 = .ok (.ifCond .eq 7, 3) := by decide +kernel
theorem dX8_goesThrough_51 : decode cX8_goesThrough 51 = .ok (.iconst 1, 1) := by decide +kernel
theorem dX8_goesThrough_52 : decode cX8_goesThrough 52 = .ok (.goto 4, 3) := by decide +kernel
theorem dX8_goesThrough_55 : decode cX8_goesThrough 55 = .ok (.iconst 0, 1) := by decide +kernel
theorem dX8_goesThrough_56 : decode cX8_goesThrough 56 = .ok (.iadd, 1) := by decide +kernel
theorem dX8_goesThrough_57 : decode cX8_goesThrough 57 = .ok (.istore_n 2, 1) := by decide +kernel
theorem dX8_goesThrough_58 : decode cX8_goesThrough 58 = .ok (.iload_n 3, 1) := by decide +kernel
theorem dX8_goesThrough_59 : decode cX8_goesThrough 59 = .ok (.ifCond .eq 18, 3) := by decide +kernel
theorem dX8_goesThrough_62 : decode cX8_goesThrough 62 = .ok (.aload_n 0, 1) := by decide +kernel
theorem dX8_goesThrough_63 : decode cX8_goesThrough 63 = .ok (.getfield 184, 3) := by decide +kernel
theorem dX8_goesThrough_66 : decode cX8_goesThrough 66 = .ok (.aload_n 0, 1) := by decide +kernel
theorem dX8_goesThrough_67 : decode cX8_goesThrough 67 = .ok (.getfield 156, 3) := by decide +kernel
theorem dX8_goesThrough_70 : decode cX8_goesThrough 70 = .ok (.if_icmp .ge 7, 3) := by decide +kernel
theorem dX8_goesThrough_73 : decode cX8_goesThrough 73 = .ok (.iconst 1, 1) := by decide +kernel
theorem dX8_goesThrough_74 : decode cX8_goesThrough 74 = .ok (.goto 4, 3) := by decide +kernel
theorem dX8_goesThrough_77 : decode cX8_goesThrough 77 = .ok (.iconst 0, 1) := by decide +kernel
theorem dX8_goesThrough_78 : decode cX8_goesThrough 78 = .ok (.istore_n 3, 1) := by decide +kernel
theorem dX8_goesThrough_79 : decode cX8_goesThrough 79 = .ok (.iload_n 3, 1) := by decide +kernel
theorem dX8_goesThrough_80 : decode cX8_goesThrough 80 = .ok (.ifCond .eq (-66), 3) := by decide +kernel
theorem dX8_goesThrough_83 : decode cX8_goesThrough 83 = .ok (.aload_n 0, 1) := by decide +kernel
theorem dX8_goesThrough_84 : decode cX8_goesThrough 84 = .ok (.bipush 59, 2) := by decide +kernel
theorem dX8_goesThrough_86 : decode cX8_goesThrough 86 = .ok (.bipush 59, 2) := by decide +kernel
theorem dX8_goesThrough_88 : decode cX8_goesThrough 88 = .ok (.invokevirtual 191, 3) := by decide +kernel
theorem dX8_goesThrough_91 : decode cX8_goesThrough 91 = .ok (.istore 4, 2) := by decide +kernel
theorem dX8_goesThrough_93 : decode cX8_goesThrough 93 = .ok (.aload_n 0, 1) := by decide +kernel
theorem dX8_goesThrough_94 : decode cX8_goesThrough 94 = .ok (.getfield 187, 3) := by decide +kernel
theorem dX8_goesThrough_97 : decode cX8_goesThrough 97 = .ok (.ifCond .ne 7, 3) := by decide +kernel
theorem dX8_goesThrough_100 : decode cX8_goesThrough 100 = .ok (.iconst 1, 1) := by decide +kernel
theorem dX8_goesThrough_101 : decode cX8_goesThrough 101 = .ok (.goto 4, 3) := by decide +kernel
theorem dX8_goesThrough_104 : decode cX8_goesThrough 104 = .ok (.iconst 0, 1) := by decide +kernel
theorem dX8_goesThrough_105 : decode cX8_goesThrough 105 = .ok (.istore_n 3, 1) := by decide +kernel
theorem dX8_goesThrough_106 : decode cX8_goesThrough 106 = .ok (.goto (-92), 3) := by decide +kernel
theorem dX8_goesThrough_109 : decode cX8_goesThrough 109 = .ok (.iload_n 2, 1) := by decide +kernel
theorem dX8_goesThrough_110 : decode cX8_goesThrough 110 = .ok (.ireturn, 1) := by decide +kernel
theorem dX8_fault_0 : decode cX8_fault 0 = .ok (.aload_n 0, 1) := by decide +kernel
theorem dX8_fault_1 : decode cX8_fault 1 = .ok (.iconst 0, 1) := by decide +kernel
theorem dX8_fault_2 : decode cX8_fault 2 = .ok (.invokevirtual 224, 3) := by decide +kernel
theorem dX8_fault_5 : decode cX8_fault 5 = .ok (.istore_n 1, 1) := by decide +kernel
theorem dX8_fault_6 : decode cX8_fault 6 = .ok (.aload_n 0, 1) := by decide +kernel
theorem dX8_fault_7 : decode cX8_fault 7 = .ok (.getfield 187, 3) := by decide +kernel
theorem dX8_fault_10 : decode cX8_fault 10 = .ok (.ifCond .eq 10, 3) := by decide +kernel
theorem dX8_fault_13 : decode cX8_fault 13 = .ok (.aload_n 0, 1) := by decide +kernel
theorem dX8_fault_14 : decode cX8_fault 14 = .ok (.getfield 184, 3) := by decide +kernel
theorem dX8_fault_17 : decode cX8_fault 17 = .ok (.goto 5, 3) := by decide +kernel
theorem dX8_fault_20 : decode cX8_fault 20 = .ok (.bipush (-6), 2) := by decide +kernel
theorem dX8_fault_22 : decode cX8_fault 22 = .ok (.ireturn, 1) := by decide +kernel
theorem dX8_carryOut_0 : decode cX8_carryOut 0 = .ok (.aload_n 0, 1) := by decide +kernel
theorem dX8_carryOut_1 : decode cX8_carryOut 1 = .ok (.invokevirtual 228, 3) := by decide +kernel
theorem dX8_carryOut_4 : decode cX8_carryOut 4 = .ok (.bipush (-6), 2) := by decide +kernel
theorem dX8_carryOut_6 : decode cX8_carryOut 6 = .ok (.if_icmp .eq 6, 3) := by decide +kernel
theorem dX8_carryOut_9 : decode cX8_carryOut 9 = .ok (.bipush (-3), 2) := by decide +kernel
theorem dX8_carryOut_11 : decode cX8_carryOut 11 = .ok (.ireturn, 1) := by decide +kernel
theorem dX8_carryOut_12 : decode cX8_carryOut 12 = .ok (.aload_n 0, 1) := by decide +kernel
theorem dX8_carryOut_13 : decode cX8_carryOut 13 = .ok (.invokevirtual 90, 3) := by decide +kernel
theorem dX8_carryOut_16 : decode cX8_carryOut 16 = .ok (.aload_n 0, 1) := by decide +kernel
theorem dX8_carryOut_17 : decode cX8_carryOut 17 = .ok (.iconst 1, 1) := by decide +kernel
theorem dX8_carryOut_18 : decode cX8_carryOut 18 = .ok (.invokevirtual 224, 3) := by decide +kernel
theorem dX8_carryOut_21 : decode cX8_carryOut 21 = .ok (.istore_n 1, 1) := by decide +kernel
theorem dX8_carryOut_22 : decode cX8_carryOut 22 = .ok (.aload_n 0, 1) := by decide +kernel
theorem dX8_carryOut_23 : decode cX8_carryOut 23 = .ok (.invokevirtual 37, 3) := by decide +kernel
theorem dX8_carryOut_26 : decode cX8_carryOut 26 = .ok (.aload_n 0, 1) := by decide +kernel
theorem dX8_carryOut_27 : decode cX8_carryOut 27 = .ok (.iconst 0, 1) := by decide +kernel
theorem dX8_carryOut_28 : decode cX8_carryOut 28 = .ok (.putfield 156, 3) := by decide +kernel
theorem dX8_carryOut_31 : decode cX8_carryOut 31 = .ok (.iload_n 1, 1) := by decide +kernel
theorem dX8_carryOut_32 : decode cX8_carryOut 32 = .ok (.ireturn, 1) := by decide +kernel
theorem dX8_undo_0 : decode cX8_undo 0 = .ok (.aload_n 0, 1) := by decide +kernel
theorem dX8_undo_1 : decode cX8_undo 1 = .ok (.getfield 33, 3) := by decide +kernel
theorem dX8_undo_4 : decode cX8_undo 4 = .ok (.ifCond .ne 6, 3) := by decide +kernel
theorem dX8_undo_7 : decode cX8_undo 7 = .ok (.bipush (-5), 2) := by decide +kernel
theorem dX8_undo_9 : decode cX8_undo 9 = .ok (.ireturn, 1) := by decide +kernel
theorem dX8_undo_10 : decode cX8_undo 10 = .ok (.aload_n 0, 1) := by decide +kernel
theorem dX8_undo_11 : decode cX8_undo 11 = .ok (.dup, 1) := by decide +kernel
theorem dX8_undo_12 : decode cX8_undo 12 = .ok (.getfield 33, 3) := by decide +kernel
theorem dX8_undo_15 : decode cX8_undo 15 = .ok (.iconst 1, 1) := by decide +kernel
theorem dX8_undo_16 : decode cX8_undo 16 = .ok (.isub, 1) := by decide +kernel
theorem dX8_undo_17 : decode cX8_undo 17 = .ok (.putfield 33, 3) := by decide +kernel
theorem dX8_undo_20 : decode cX8_undo 20 = .ok (.iconst 0, 1) := by decide +kernel
theorem dX8_undo_21 : decode cX8_undo 21 = .ok (.istore_n 1, 1) := by decide +kernel
theorem dX8_undo_22 : decode cX8_undo 22 = .ok (.iload_n 1, 1) := by decide +kernel
theorem dX8_undo_23 : decode cX8_undo 23 = .ok (.sipush 151, 3) := by decide +kernel
theorem dX8_undo_26 : decode cX8_undo 26 = .ok (.if_icmp .ge 30, 3) := by decide +kernel
theorem dX8_undo_29 : decode cX8_undo 29 = .ok (.aload_n 0, 1) := by decide +kernel
theorem dX8_undo_30 : decode cX8_undo 30 = .ok (.getfield 7, 3) := by decide +kernel
theorem dX8_undo_33 : decode cX8_undo 33 = .ok (.iload_n 1, 1) := by decide +kernel
theorem dX8_undo_34 : decode cX8_undo 34 = .ok (.aload_n 0, 1) := by decide +kernel
theorem dX8_undo_35 : decode cX8_undo 35 = .ok (.getfield 16, 3) := by decide +kernel
theorem dX8_undo_38 : decode cX8_undo 38 = .ok (.sipush 151, 3) := by decide +kernel
theorem dX8_undo_41 : decode cX8_undo 41 = .ok (.aload_n 0, 1) := by decide +kernel
theorem dX8_undo_42 : decode cX8_undo 42 = .ok (.getfield 33, 3) := by decide +kernel
theorem dX8_undo_45 : decode cX8_undo 45 = .ok (.imul, 1) := by decide +kernel
theorem dX8_undo_46 : decode cX8_undo 46 = .ok (.iload_n 1, 1) := by decide +kernel
theorem dX8_undo_47 : decode cX8_undo 47 = .ok (.iadd, 1) := by decide +kernel
theorem dX8_undo_48 : decode cX8_undo 48 = .ok (.iaload, 1) := by decide +kernel
theorem dX8_undo_49 : decode cX8_undo 49 = .ok (.iastore, 1) := by decide +kernel
theorem dX8_undo_50 : decode cX8_undo 50 = .ok (.iinc 1 1, 3) := by decide +kernel
theorem dX8_undo_53 : decode cX8_undo 53 = .ok (.goto (-31), 3) := by decide +kernel
theorem dX8_undo_56 : decode cX8_undo 56 = .ok (.aload_n 0, 1) := by decide +kernel
theorem dX8_undo_57 : decode cX8_undo 57 = .ok (.getfield 33, 3) := by decide +kernel
theorem dX8_undo_60 : decode cX8_undo 60 = .ok (.ireturn, 1) := by decide +kernel
theorem dX8_save_0 : decode cX8_save 0 = .ok (.iload_n 1, 1) := by decide +kernel
theorem dX8_save_1 : decode cX8_save 1 = .ok (.iconst 0, 1) := by decide +kernel
theorem dX8_save_2 : decode cX8_save 2 = .ok (.iconst 1, 1) := by decide +kernel
theorem dX8_save_3 : decode cX8_save 3 = .ok (.invokestatic 29, 3) := by decide +kernel
theorem dX8_save_6 : decode cX8_save 6 = .ok (.ifCond .ne 6, 3) := by decide +kernel
theorem dX8_save_9 : decode cX8_save 9 = .ok (.bipush (-2), 2) := by decide +kernel
theorem dX8_save_11 : decode cX8_save 11 = .ok (.ireturn, 1) := by decide +kernel
theorem dX8_save_12 : decode cX8_save 12 = .ok (.iconst 0, 1) := by decide +kernel
theorem dX8_save_13 : decode cX8_save 13 = .ok (.istore_n 2, 1) := by decide +kernel
theorem dX8_save_14 : decode cX8_save 14 = .ok (.iload_n 2, 1) := by decide +kernel
theorem dX8_save_15 : decode cX8_save 15 = .ok (.sipush 151, 3) := by decide +kernel
theorem dX8_save_18 : decode cX8_save 18 = .ok (.if_icmp .ge 27, 3) := by decide +kernel
theorem dX8_save_21 : decode cX8_save 21 = .ok (.aload_n 0, 1) := by decide +kernel
theorem dX8_save_22 : decode cX8_save 22 = .ok (.getfield 19, 3) := by decide +kernel
theorem dX8_save_25 : decode cX8_save 25 = .ok (.sipush 151, 3) := by decide +kernel
theorem dX8_save_28 : decode cX8_save 28 = .ok (.iload_n 1, 1) := by decide +kernel
theorem dX8_save_29 : decode cX8_save 29 = .ok (.imul, 1) := by decide +kernel
theorem dX8_save_30 : decode cX8_save 30 = .ok (.iload_n 2, 1) := by decide +kernel
theorem dX8_save_31 : decode cX8_save 31 = .ok (.iadd, 1) := by decide +kernel
theorem dX8_save_32 : decode cX8_save 32 = .ok (.aload_n 0, 1) := by decide +kernel
theorem dX8_save_33 : decode cX8_save 33 = .ok (.getfield 7, 3) := by decide +kernel
theorem dX8_save_36 : decode cX8_save 36 = .ok (.iload_n 2, 1) := by decide +kernel
theorem dX8_save_37 : decode cX8_save 37 = .ok (.iaload, 1) := by decide +kernel
theorem dX8_save_38 : decode cX8_save 38 = .ok (.iastore, 1) := by decide +kernel
theorem dX8_save_39 : decode cX8_save 39 = .ok (.iinc 2 1, 3) := by decide +kernel
theorem dX8_save_42 : decode cX8_save 42 = .ok (.goto (-28), 3) := by decide +kernel
theorem dX8_save_45 : decode cX8_save 45 = .ok (.aload_n 0, 1) := by decide +kernel
theorem dX8_save_46 : decode cX8_save 46 = .ok (.dup, 1) := by decide +kernel
theorem dX8_save_47 : decode cX8_save 47 = .ok (.getfield 231, 3) := by decide +kernel
theorem dX8_save_50 : decode cX8_save 50 = .ok (.iconst 1, 1) := by decide +kernel
theorem dX8_save_51 : decode cX8_save 51 = .ok (.iload_n 1, 1) := by decide +kernel
theorem dX8_save_52 : decode cX8_save 52 = .ok (.ishl, 1) := by decide +kernel
theorem dX8_save_53 : decode cX8_save 53 = .ok (.ior, 1) := by decide +kernel
theorem dX8_save_54 : decode cX8_save 54 = .ok (.putfield 231, 3) := by decide +kernel
theorem dX8_save_57 : decode cX8_save 57 = .ok (.aload_n 0, 1) := by decide +kernel
theorem dX8_save_58 : decode cX8_save 58 = .ok (.getfield 7, 3) := by decide +kernel
theorem dX8_save_61 : decode cX8_save 61 = .ok (.bipush 93, 2) := by decide +kernel
theorem dX8_save_63 : decode cX8_save 63 = .ok (.iaload, 1) := by decide +kernel
theorem dX8_save_64 : decode cX8_save 64 = .ok (.ireturn, 1) := by decide +kernel
theorem dX8_restore_0 : decode cX8_restore 0 = .ok (.iload_n 1, 1) := by decide +kernel
theorem dX8_restore_1 : decode cX8_restore 1 = .ok (.iconst 0, 1) := by decide +kernel
theorem dX8_restore_2 : decode cX8_restore 2 = .ok (.iconst 1, 1) := by decide +kernel
theorem dX8_restore_3 : decode cX8_restore 3 = .ok (.invokestatic 29, 3) := by decide +kernel
theorem dX8_restore_6 : decode cX8_restore 6 = .ok (.ifCond .ne 6, 3) := by decide +kernel
theorem dX8_restore_9 : decode cX8_restore 9 = .ok (.bipush (-2), 2) := by decide +kernel
theorem dX8_restore_11 : decode cX8_restore 11 = .ok (.ireturn, 1) := by decide +kernel
theorem dX8_restore_12 : decode cX8_restore 12 = .ok (.aload_n 0, 1) := by decide +kernel
theorem dX8_restore_13 : decode cX8_restore 13 = .ok (.getfield 231, 3) := by decide +kernel
theorem dX8_restore_16 : decode cX8_restore 16 = .ok (.iload_n 1, 1) := by decide +kernel
theorem dX8_restore_17 : decode cX8_restore 17 = .ok (.ishr, 1) := by decide +kernel
theorem dX8_restore_18 : decode cX8_restore 18 = .ok (.iconst 1, 1) := by decide +kernel
theorem dX8_restore_19 : decode cX8_restore 19 = .ok (.iand, 1) := by decide +kernel
theorem dX8_restore_20 : decode cX8_restore 20 = .ok (.ifCond .ne 6, 3) := by decide +kernel
theorem dX8_restore_23 : decode cX8_restore 23 = .ok (.bipush (-5), 2) := by decide +kernel
theorem dX8_restore_25 : decode cX8_restore 25 = .ok (.ireturn, 1) := by decide +kernel
theorem dX8_restore_26 : decode cX8_restore 26 = .ok (.aload_n 0, 1) := by decide +kernel
theorem dX8_restore_27 : decode cX8_restore 27 = .ok (.invokevirtual 90, 3) := by decide +kernel
theorem dX8_restore_30 : decode cX8_restore 30 = .ok (.aload_n 0, 1) := by decide +kernel
theorem dX8_restore_31 : decode cX8_restore 31 = .ok (.invokevirtual 37, 3) := by decide +kernel
theorem dX8_restore_34 : decode cX8_restore 34 = .ok (.iconst 0, 1) := by decide +kernel
theorem dX8_restore_35 : decode cX8_restore 35 = .ok (.istore_n 2, 1) := by decide +kernel
theorem dX8_restore_36 : decode cX8_restore 36 = .ok (.iload_n 2, 1) := by decide +kernel
theorem dX8_restore_37 : decode cX8_restore 37 = .ok (.sipush 151, 3) := by decide +kernel
theorem dX8_restore_40 : decode cX8_restore 40 = .ok (.if_icmp .ge 27, 3) := by decide +kernel
theorem dX8_restore_43 : decode cX8_restore 43 = .ok (.aload_n 0, 1) := by decide +kernel
theorem dX8_restore_44 : decode cX8_restore 44 = .ok (.getfield 7, 3) := by decide +kernel
theorem dX8_restore_47 : decode cX8_restore 47 = .ok (.iload_n 2, 1) := by decide +kernel
theorem dX8_restore_48 : decode cX8_restore 48 = .ok (.aload_n 0, 1) := by decide +kernel
theorem dX8_restore_49 : decode cX8_restore 49 = .ok (.getfield 19, 3) := by decide +kernel
theorem dX8_restore_52 : decode cX8_restore 52 = .ok (.sipush 151, 3) := by decide +kernel
theorem dX8_restore_55 : decode cX8_restore 55 = .ok (.iload_n 1, 1) := by decide +kernel
theorem dX8_restore_56 : decode cX8_restore 56 = .ok (.imul, 1) := by decide +kernel
theorem dX8_restore_57 : decode cX8_restore 57 = .ok (.iload_n 2, 1) := by decide +kernel
theorem dX8_restore_58 : decode cX8_restore 58 = .ok (.iadd, 1) := by decide +kernel
theorem dX8_restore_59 : decode cX8_restore 59 = .ok (.iaload, 1) := by decide +kernel
theorem dX8_restore_60 : decode cX8_restore 60 = .ok (.iastore, 1) := by decide +kernel
theorem dX8_restore_61 : decode cX8_restore 61 = .ok (.iinc 2 1, 3) := by decide +kernel
theorem dX8_restore_64 : decode cX8_restore 64 = .ok (.goto (-28), 3) := by decide +kernel
theorem dX8_restore_67 : decode cX8_restore 67 = .ok (.aload_n 0, 1) := by decide +kernel
theorem dX8_restore_68 : decode cX8_restore 68 = .ok (.getfield 7, 3) := by decide +kernel
theorem dX8_restore_71 : decode cX8_restore 71 = .ok (.bipush 93, 2) := by decide +kernel
theorem dX8_restore_73 : decode cX8_restore 73 = .ok (.iaload, 1) := by decide +kernel
theorem dX8_restore_74 : decode cX8_restore 74 = .ok (.ireturn, 1) := by decide +kernel
theorem dL_law_0 : decode cL_law 0 = .ok (.new 7, 3) := by decide +kernel
theorem dL_law_3 : decode cL_law 3 = .ok (.dup, 1) := by decide +kernel
theorem dL_law_4 : decode cL_law 4 = .ok (.invokespecial 9, 3) := by decide +kernel
theorem dL_law_7 : decode cL_law 7 = .ok (.astore_n 1, 1) := by decide +kernel
theorem dL_law_8 : decode cL_law 8 = .ok (.new 10, 3) := by decide +kernel
theorem dL_law_11 : decode cL_law 11 = .ok (.dup, 1) := by decide +kernel
theorem dL_law_12 : decode cL_law 12 = .ok (.invokespecial 12, 3) := by decide +kernel
theorem dL_law_15 : decode cL_law 15 = .ok (.astore_n 2, 1) := by decide +kernel
theorem dL_law_16 : decode cL_law 16 = .ok (.iconst 0, 1) := by decide +kernel
theorem dL_law_17 : decode cL_law 17 = .ok (.istore_n 3, 1) := by decide +kernel
theorem dL_law_18 : decode cL_law 18 = .ok (.iload_n 3, 1) := by decide +kernel
theorem dL_law_19 : decode cL_law 19 = .ok (.aload_n 0, 1) := by decide +kernel
theorem dL_law_20 : decode cL_law 20 = .ok (.arraylength, 1) := by decide +kernel
theorem dL_law_21 : decode cL_law 21 = .ok (.iconst 4, 1) := by decide +kernel
theorem dL_law_22 : decode cL_law 22 = .ok (.isub, 1) := by decide +kernel
theorem dL_law_23 : decode cL_law 23 = .ok (.if_icmp .gt 965, 3) := by decide +kernel
theorem dL_law_26 : decode cL_law 26 = .ok (.aload_n 0, 1) := by decide +kernel
theorem dL_law_27 : decode cL_law 27 = .ok (.iload_n 3, 1) := by decide +kernel
theorem dL_law_28 : decode cL_law 28 = .ok (.iaload, 1) := by decide +kernel
theorem dL_law_29 : decode cL_law 29 = .ok (.bipush 31, 2) := by decide +kernel
theorem dL_law_31 : decode cL_law 31 = .ok (.iand, 1) := by decide +kernel
theorem dL_law_32 : decode cL_law 32 = .ok (.tableswitch 950 0 28 #[132, 165, 208, 241, 274, 307, 320, 353, 386, 419, 462, 475, 508, 541, 574, 618, 641, 664, 697, 720, 743, 756, 799, 852, 865, 878, 891, 904, 927], 132) := by decide +kernel
theorem dL_law_164 : decode cL_law 164 = .ok (.aload_n 1, 1) := by decide +kernel
theorem dL_law_165 : decode cL_law 165 = .ok (.aload_n 0, 1) := by decide +kernel
theorem dL_law_166 : decode cL_law 166 = .ok (.iload_n 3, 1) := by decide +kernel
theorem dL_law_167 : decode cL_law 167 = .ok (.iconst 1, 1) := by decide +kernel
theorem dL_law_168 : decode cL_law 168 = .ok (.iadd, 1) := by decide +kernel
theorem dL_law_169 : decode cL_law 169 = .ok (.iaload, 1) := by decide +kernel
theorem dL_law_170 : decode cL_law 170 = .ok (.aload_n 0, 1) := by decide +kernel
theorem dL_law_171 : decode cL_law 171 = .ok (.iload_n 3, 1) := by decide +kernel
theorem dL_law_172 : decode cL_law 172 = .ok (.iconst 2, 1) := by decide +kernel
theorem dL_law_173 : decode cL_law 173 = .ok (.iadd, 1) := by decide +kernel
theorem dL_law_174 : decode cL_law 174 = .ok (.iaload, 1) := by decide +kernel
theorem dL_law_175 : decode cL_law 175 = .ok (.invokevirtual 13, 3) := by decide +kernel
theorem dL_law_178 : decode cL_law 178 = .ok (.aload_n 2, 1) := by decide +kernel
theorem dL_law_179 : decode cL_law 179 = .ok (.aload_n 0, 1) := by decide +kernel
theorem dL_law_180 : decode cL_law 180 = .ok (.iload_n 3, 1) := by decide +kernel
theorem dL_law_181 : decode cL_law 181 = .ok (.iconst 1, 1) := by decide +kernel
theorem dL_law_182 : decode cL_law 182 = .ok (.iadd, 1) := by decide +kernel
theorem dL_law_183 : decode cL_law 183 = .ok (.iaload, 1) := by decide +kernel
theorem dL_law_184 : decode cL_law 184 = .ok (.aload_n 0, 1) := by decide +kernel
theorem dL_law_185 : decode cL_law 185 = .ok (.iload_n 3, 1) := by decide +kernel
theorem dL_law_186 : decode cL_law 186 = .ok (.iconst 2, 1) := by decide +kernel
theorem dL_law_187 : decode cL_law 187 = .ok (.iadd, 1) := by decide +kernel
theorem dL_law_188 : decode cL_law 188 = .ok (.iaload, 1) := by decide +kernel
theorem dL_law_189 : decode cL_law 189 = .ok (.invokevirtual 17, 3) := by decide +kernel
theorem dL_law_192 : decode cL_law 192 = .ok (.if_icmp .eq 790, 3) := by decide +kernel
theorem dL_law_195 : decode cL_law 195 = .ok (.iconst 0, 1) := by decide +kernel
theorem dL_law_196 : decode cL_law 196 = .ok (.ireturn, 1) := by decide +kernel
theorem dL_law_197 : decode cL_law 197 = .ok (.aload_n 1, 1) := by decide +kernel
theorem dL_law_198 : decode cL_law 198 = .ok (.aload_n 0, 1) := by decide +kernel
theorem dL_law_199 : decode cL_law 199 = .ok (.iload_n 3, 1) := by decide +kernel
theorem dL_law_200 : decode cL_law 200 = .ok (.iconst 1, 1) := by decide +kernel
theorem dL_law_201 : decode cL_law 201 = .ok (.iadd, 1) := by decide +kernel
theorem dL_law_202 : decode cL_law 202 = .ok (.iaload, 1) := by decide +kernel
theorem dL_law_203 : decode cL_law 203 = .ok (.aload_n 0, 1) := by decide +kernel
theorem dL_law_204 : decode cL_law 204 = .ok (.iload_n 3, 1) := by decide +kernel
theorem dL_law_205 : decode cL_law 205 = .ok (.iconst 2, 1) := by decide +kernel
theorem dL_law_206 : decode cL_law 206 = .ok (.iadd, 1) := by decide +kernel
theorem dL_law_207 : decode cL_law 207 = .ok (.iaload, 1) := by decide +kernel
theorem dL_law_208 : decode cL_law 208 = .ok (.aload_n 0, 1) := by decide +kernel
theorem dL_law_209 : decode cL_law 209 = .ok (.iload_n 3, 1) := by decide +kernel
theorem dL_law_210 : decode cL_law 210 = .ok (.iconst 3, 1) := by decide +kernel
theorem dL_law_211 : decode cL_law 211 = .ok (.iadd, 1) := by decide +kernel
theorem dL_law_212 : decode cL_law 212 = .ok (.iaload, 1) := by decide +kernel
theorem dL_law_213 : decode cL_law 213 = .ok (.invokevirtual 18, 3) := by decide +kernel
theorem dL_law_216 : decode cL_law 216 = .ok (.aload_n 2, 1) := by decide +kernel
theorem dL_law_217 : decode cL_law 217 = .ok (.aload_n 0, 1) := by decide +kernel
theorem dL_law_218 : decode cL_law 218 = .ok (.iload_n 3, 1) := by decide +kernel
theorem dL_law_219 : decode cL_law 219 = .ok (.iconst 1, 1) := by decide +kernel
theorem dL_law_220 : decode cL_law 220 = .ok (.iadd, 1) := by decide +kernel
theorem dL_law_221 : decode cL_law 221 = .ok (.iaload, 1) := by decide +kernel
theorem dL_law_222 : decode cL_law 222 = .ok (.aload_n 0, 1) := by decide +kernel
theorem dL_law_223 : decode cL_law 223 = .ok (.iload_n 3, 1) := by decide +kernel
theorem dL_law_224 : decode cL_law 224 = .ok (.iconst 2, 1) := by decide +kernel
theorem dL_law_225 : decode cL_law 225 = .ok (.iadd, 1) := by decide +kernel
theorem dL_law_226 : decode cL_law 226 = .ok (.iaload, 1) := by decide +kernel
theorem dL_law_227 : decode cL_law 227 = .ok (.aload_n 0, 1) := by decide +kernel
theorem dL_law_228 : decode cL_law 228 = .ok (.iload_n 3, 1) := by decide +kernel
theorem dL_law_229 : decode cL_law 229 = .ok (.iconst 3, 1) := by decide +kernel
theorem dL_law_230 : decode cL_law 230 = .ok (.iadd, 1) := by decide +kernel
theorem dL_law_231 : decode cL_law 231 = .ok (.iaload, 1) := by decide +kernel
theorem dL_law_232 : decode cL_law 232 = .ok (.invokevirtual 22, 3) := by decide +kernel
theorem dL_law_235 : decode cL_law 235 = .ok (.if_icmp .eq 747, 3) := by decide +kernel
theorem dL_law_238 : decode cL_law 238 = .ok (.iconst 0, 1) := by decide +kernel
theorem dL_law_239 : decode cL_law 239 = .ok (.ireturn, 1) := by decide +kernel
theorem dL_law_240 : decode cL_law 240 = .ok (.aload_n 1, 1) := by decide +kernel
theorem dL_law_241 : decode cL_law 241 = .ok (.aload_n 0, 1) := by decide +kernel
theorem dL_law_242 : decode cL_law 242 = .ok (.iload_n 3, 1) := by decide +kernel
theorem dL_law_243 : decode cL_law 243 = .ok (.iconst 1, 1) := by decide +kernel
theorem dL_law_244 : decode cL_law 244 = .ok (.iadd, 1) := by decide +kernel
theorem dL_law_245 : decode cL_law 245 = .ok (.iaload, 1) := by decide +kernel
theorem dL_law_246 : decode cL_law 246 = .ok (.aload_n 0, 1) := by decide +kernel
theorem dL_law_247 : decode cL_law 247 = .ok (.iload_n 3, 1) := by decide +kernel
theorem dL_law_248 : decode cL_law 248 = .ok (.iconst 2, 1) := by decide +kernel
theorem dL_law_249 : decode cL_law 249 = .ok (.iadd, 1) := by decide +kernel
theorem dL_law_250 : decode cL_law 250 = .ok (.iaload, 1) := by decide +kernel
theorem dL_law_251 : decode cL_law 251 = .ok (.invokevirtual 23, 3) := by decide +kernel
theorem dL_law_254 : decode cL_law 254 = .ok (.aload_n 2, 1) := by decide +kernel
theorem dL_law_255 : decode cL_law 255 = .ok (.aload_n 0, 1) := by decide +kernel
theorem dL_law_256 : decode cL_law 256 = .ok (.iload_n 3, 1) := by decide +kernel
theorem dL_law_257 : decode cL_law 257 = .ok (.iconst 1, 1) := by decide +kernel
theorem dL_law_258 : decode cL_law 258 = .ok (.iadd, 1) := by decide +kernel
theorem dL_law_259 : decode cL_law 259 = .ok (.iaload, 1) := by decide +kernel
theorem dL_law_260 : decode cL_law 260 = .ok (.aload_n 0, 1) := by decide +kernel
theorem dL_law_261 : decode cL_law 261 = .ok (.iload_n 3, 1) := by decide +kernel
theorem dL_law_262 : decode cL_law 262 = .ok (.iconst 2, 1) := by decide +kernel
theorem dL_law_263 : decode cL_law 263 = .ok (.iadd, 1) := by decide +kernel
theorem dL_law_264 : decode cL_law 264 = .ok (.iaload, 1) := by decide +kernel
theorem dL_law_265 : decode cL_law 265 = .ok (.invokevirtual 26, 3) := by decide +kernel
theorem dL_law_268 : decode cL_law 268 = .ok (.if_icmp .eq 714, 3) := by decide +kernel
theorem dL_law_271 : decode cL_law 271 = .ok (.iconst 0, 1) := by decide +kernel
theorem dL_law_272 : decode cL_law 272 = .ok (.ireturn, 1) := by decide +kernel
theorem dL_law_273 : decode cL_law 273 = .ok (.aload_n 1, 1) := by decide +kernel
theorem dL_law_274 : decode cL_law 274 = .ok (.aload_n 0, 1) := by decide +kernel
theorem dL_law_275 : decode cL_law 275 = .ok (.iload_n 3, 1) := by decide +kernel
theorem dL_law_276 : decode cL_law 276 = .ok (.iconst 1, 1) := by decide +kernel
theorem dL_law_277 : decode cL_law 277 = .ok (.iadd, 1) := by decide +kernel
theorem dL_law_278 : decode cL_law 278 = .ok (.iaload, 1) := by decide +kernel
theorem dL_law_279 : decode cL_law 279 = .ok (.aload_n 0, 1) := by decide +kernel
theorem dL_law_280 : decode cL_law 280 = .ok (.iload_n 3, 1) := by decide +kernel
theorem dL_law_281 : decode cL_law 281 = .ok (.iconst 2, 1) := by decide +kernel
theorem dL_law_282 : decode cL_law 282 = .ok (.iadd, 1) := by decide +kernel
theorem dL_law_283 : decode cL_law 283 = .ok (.iaload, 1) := by decide +kernel
theorem dL_law_284 : decode cL_law 284 = .ok (.invokevirtual 27, 3) := by decide +kernel
theorem dL_law_287 : decode cL_law 287 = .ok (.aload_n 2, 1) := by decide +kernel
theorem dL_law_288 : decode cL_law 288 = .ok (.aload_n 0, 1) := by decide +kernel
theorem dL_law_289 : decode cL_law 289 = .ok (.iload_n 3, 1) := by decide +kernel
theorem dL_law_290 : decode cL_law 290 = .ok (.iconst 1, 1) := by decide +kernel
theorem dL_law_291 : decode cL_law 291 = .ok (.iadd, 1) := by decide +kernel
theorem dL_law_292 : decode cL_law 292 = .ok (.iaload, 1) := by decide +kernel
theorem dL_law_293 : decode cL_law 293 = .ok (.aload_n 0, 1) := by decide +kernel
theorem dL_law_294 : decode cL_law 294 = .ok (.iload_n 3, 1) := by decide +kernel
theorem dL_law_295 : decode cL_law 295 = .ok (.iconst 2, 1) := by decide +kernel
theorem dL_law_296 : decode cL_law 296 = .ok (.iadd, 1) := by decide +kernel
theorem dL_law_297 : decode cL_law 297 = .ok (.iaload, 1) := by decide +kernel
theorem dL_law_298 : decode cL_law 298 = .ok (.invokevirtual 30, 3) := by decide +kernel
theorem dL_law_301 : decode cL_law 301 = .ok (.if_icmp .eq 681, 3) := by decide +kernel
theorem dL_law_304 : decode cL_law 304 = .ok (.iconst 0, 1) := by decide +kernel
theorem dL_law_305 : decode cL_law 305 = .ok (.ireturn, 1) := by decide +kernel
theorem dL_law_306 : decode cL_law 306 = .ok (.aload_n 1, 1) := by decide +kernel
theorem dL_law_307 : decode cL_law 307 = .ok (.aload_n 0, 1) := by decide +kernel
theorem dL_law_308 : decode cL_law 308 = .ok (.iload_n 3, 1) := by decide +kernel
theorem dL_law_309 : decode cL_law 309 = .ok (.iconst 1, 1) := by decide +kernel
theorem dL_law_310 : decode cL_law 310 = .ok (.iadd, 1) := by decide +kernel
theorem dL_law_311 : decode cL_law 311 = .ok (.iaload, 1) := by decide +kernel
theorem dL_law_312 : decode cL_law 312 = .ok (.aload_n 0, 1) := by decide +kernel
theorem dL_law_313 : decode cL_law 313 = .ok (.iload_n 3, 1) := by decide +kernel
theorem dL_law_314 : decode cL_law 314 = .ok (.iconst 2, 1) := by decide +kernel
theorem dL_law_315 : decode cL_law 315 = .ok (.iadd, 1) := by decide +kernel
theorem dL_law_316 : decode cL_law 316 = .ok (.iaload, 1) := by decide +kernel
theorem dL_law_317 : decode cL_law 317 = .ok (.invokevirtual 31, 3) := by decide +kernel
theorem dL_law_320 : decode cL_law 320 = .ok (.aload_n 2, 1) := by decide +kernel
theorem dL_law_321 : decode cL_law 321 = .ok (.aload_n 0, 1) := by decide +kernel
theorem dL_law_322 : decode cL_law 322 = .ok (.iload_n 3, 1) := by decide +kernel
theorem dL_law_323 : decode cL_law 323 = .ok (.iconst 1, 1) := by decide +kernel
theorem dL_law_324 : decode cL_law 324 = .ok (.iadd, 1) := by decide +kernel
theorem dL_law_325 : decode cL_law 325 = .ok (.iaload, 1) := by decide +kernel
theorem dL_law_326 : decode cL_law 326 = .ok (.aload_n 0, 1) := by decide +kernel
theorem dL_law_327 : decode cL_law 327 = .ok (.iload_n 3, 1) := by decide +kernel
theorem dL_law_328 : decode cL_law 328 = .ok (.iconst 2, 1) := by decide +kernel
theorem dL_law_329 : decode cL_law 329 = .ok (.iadd, 1) := by decide +kernel
theorem dL_law_330 : decode cL_law 330 = .ok (.iaload, 1) := by decide +kernel
theorem dL_law_331 : decode cL_law 331 = .ok (.invokevirtual 34, 3) := by decide +kernel
theorem dL_law_334 : decode cL_law 334 = .ok (.if_icmp .eq 648, 3) := by decide +kernel
theorem dL_law_337 : decode cL_law 337 = .ok (.iconst 0, 1) := by decide +kernel
theorem dL_law_338 : decode cL_law 338 = .ok (.ireturn, 1) := by decide +kernel
theorem dL_law_339 : decode cL_law 339 = .ok (.aload_n 1, 1) := by decide +kernel
theorem dL_law_340 : decode cL_law 340 = .ok (.invokevirtual 35, 3) := by decide +kernel
theorem dL_law_343 : decode cL_law 343 = .ok (.aload_n 2, 1) := by decide +kernel
theorem dL_law_344 : decode cL_law 344 = .ok (.invokevirtual 39, 3) := by decide +kernel
theorem dL_law_347 : decode cL_law 347 = .ok (.if_icmp .eq 635, 3) := by decide +kernel
theorem dL_law_350 : decode cL_law 350 = .ok (.iconst 0, 1) := by decide +kernel
theorem dL_law_351 : decode cL_law 351 = .ok (.ireturn, 1) := by decide +kernel
theorem dL_law_352 : decode cL_law 352 = .ok (.aload_n 1, 1) := by decide +kernel
theorem dL_law_353 : decode cL_law 353 = .ok (.aload_n 0, 1) := by decide +kernel
theorem dL_law_354 : decode cL_law 354 = .ok (.iload_n 3, 1) := by decide +kernel
theorem dL_law_355 : decode cL_law 355 = .ok (.iconst 1, 1) := by decide +kernel
theorem dL_law_356 : decode cL_law 356 = .ok (.iadd, 1) := by decide +kernel
theorem dL_law_357 : decode cL_law 357 = .ok (.iaload, 1) := by decide +kernel
theorem dL_law_358 : decode cL_law 358 = .ok (.aload_n 0, 1) := by decide +kernel
theorem dL_law_359 : decode cL_law 359 = .ok (.iload_n 3, 1) := by decide +kernel
theorem dL_law_360 : decode cL_law 360 = .ok (.iconst 2, 1) := by decide +kernel
theorem dL_law_361 : decode cL_law 361 = .ok (.iadd, 1) := by decide +kernel
theorem dL_law_362 : decode cL_law 362 = .ok (.iaload, 1) := by decide +kernel
theorem dL_law_363 : decode cL_law 363 = .ok (.invokevirtual 40, 3) := by decide +kernel
theorem dL_law_366 : decode cL_law 366 = .ok (.aload_n 2, 1) := by decide +kernel
theorem dL_law_367 : decode cL_law 367 = .ok (.aload_n 0, 1) := by decide +kernel
theorem dL_law_368 : decode cL_law 368 = .ok (.iload_n 3, 1) := by decide +kernel
theorem dL_law_369 : decode cL_law 369 = .ok (.iconst 1, 1) := by decide +kernel
theorem dL_law_370 : decode cL_law 370 = .ok (.iadd, 1) := by decide +kernel
theorem dL_law_371 : decode cL_law 371 = .ok (.iaload, 1) := by decide +kernel
theorem dL_law_372 : decode cL_law 372 = .ok (.aload_n 0, 1) := by decide +kernel
theorem dL_law_373 : decode cL_law 373 = .ok (.iload_n 3, 1) := by decide +kernel
theorem dL_law_374 : decode cL_law 374 = .ok (.iconst 2, 1) := by decide +kernel
theorem dL_law_375 : decode cL_law 375 = .ok (.iadd, 1) := by decide +kernel
theorem dL_law_376 : decode cL_law 376 = .ok (.iaload, 1) := by decide +kernel
theorem dL_law_377 : decode cL_law 377 = .ok (.invokevirtual 43, 3) := by decide +kernel
theorem dL_law_380 : decode cL_law 380 = .ok (.if_icmp .eq 602, 3) := by decide +kernel
theorem dL_law_383 : decode cL_law 383 = .ok (.iconst 0, 1) := by decide +kernel
theorem dL_law_384 : decode cL_law 384 = .ok (.ireturn, 1) := by decide +kernel
theorem dL_law_385 : decode cL_law 385 = .ok (.aload_n 1, 1) := by decide +kernel
theorem dL_law_386 : decode cL_law 386 = .ok (.aload_n 0, 1) := by decide +kernel
theorem dL_law_387 : decode cL_law 387 = .ok (.iload_n 3, 1) := by decide +kernel
theorem dL_law_388 : decode cL_law 388 = .ok (.iconst 1, 1) := by decide +kernel
theorem dL_law_389 : decode cL_law 389 = .ok (.iadd, 1) := by decide +kernel
theorem dL_law_390 : decode cL_law 390 = .ok (.iaload, 1) := by decide +kernel
theorem dL_law_391 : decode cL_law 391 = .ok (.aload_n 0, 1) := by decide +kernel
theorem dL_law_392 : decode cL_law 392 = .ok (.iload_n 3, 1) := by decide +kernel
theorem dL_law_393 : decode cL_law 393 = .ok (.iconst 2, 1) := by decide +kernel
theorem dL_law_394 : decode cL_law 394 = .ok (.iadd, 1) := by decide +kernel
theorem dL_law_395 : decode cL_law 395 = .ok (.iaload, 1) := by decide +kernel
theorem dL_law_396 : decode cL_law 396 = .ok (.invokevirtual 44, 3) := by decide +kernel
theorem dL_law_399 : decode cL_law 399 = .ok (.aload_n 2, 1) := by decide +kernel
theorem dL_law_400 : decode cL_law 400 = .ok (.aload_n 0, 1) := by decide +kernel
theorem dL_law_401 : decode cL_law 401 = .ok (.iload_n 3, 1) := by decide +kernel
theorem dL_law_402 : decode cL_law 402 = .ok (.iconst 1, 1) := by decide +kernel
theorem dL_law_403 : decode cL_law 403 = .ok (.iadd, 1) := by decide +kernel
theorem dL_law_404 : decode cL_law 404 = .ok (.iaload, 1) := by decide +kernel
theorem dL_law_405 : decode cL_law 405 = .ok (.aload_n 0, 1) := by decide +kernel
theorem dL_law_406 : decode cL_law 406 = .ok (.iload_n 3, 1) := by decide +kernel
theorem dL_law_407 : decode cL_law 407 = .ok (.iconst 2, 1) := by decide +kernel
theorem dL_law_408 : decode cL_law 408 = .ok (.iadd, 1) := by decide +kernel
theorem dL_law_409 : decode cL_law 409 = .ok (.iaload, 1) := by decide +kernel
theorem dL_law_410 : decode cL_law 410 = .ok (.invokevirtual 47, 3) := by decide +kernel
theorem dL_law_413 : decode cL_law 413 = .ok (.if_icmp .eq 569, 3) := by decide +kernel
theorem dL_law_416 : decode cL_law 416 = .ok (.iconst 0, 1) := by decide +kernel
theorem dL_law_417 : decode cL_law 417 = .ok (.ireturn, 1) := by decide +kernel
theorem dL_law_418 : decode cL_law 418 = .ok (.aload_n 1, 1) := by decide +kernel
theorem dL_law_419 : decode cL_law 419 = .ok (.aload_n 0, 1) := by decide +kernel
theorem dL_law_420 : decode cL_law 420 = .ok (.iload_n 3, 1) := by decide +kernel
theorem dL_law_421 : decode cL_law 421 = .ok (.iconst 1, 1) := by decide +kernel
theorem dL_law_422 : decode cL_law 422 = .ok (.iadd, 1) := by decide +kernel
theorem dL_law_423 : decode cL_law 423 = .ok (.iaload, 1) := by decide +kernel
theorem dL_law_424 : decode cL_law 424 = .ok (.aload_n 0, 1) := by decide +kernel
theorem dL_law_425 : decode cL_law 425 = .ok (.iload_n 3, 1) := by decide +kernel
theorem dL_law_426 : decode cL_law 426 = .ok (.iconst 2, 1) := by decide +kernel
theorem dL_law_427 : decode cL_law 427 = .ok (.iadd, 1) := by decide +kernel
theorem dL_law_428 : decode cL_law 428 = .ok (.iaload, 1) := by decide +kernel
theorem dL_law_429 : decode cL_law 429 = .ok (.invokevirtual 48, 3) := by decide +kernel
theorem dL_law_432 : decode cL_law 432 = .ok (.aload_n 2, 1) := by decide +kernel
theorem dL_law_433 : decode cL_law 433 = .ok (.aload_n 0, 1) := by decide +kernel
theorem dL_law_434 : decode cL_law 434 = .ok (.iload_n 3, 1) := by decide +kernel
theorem dL_law_435 : decode cL_law 435 = .ok (.iconst 1, 1) := by decide +kernel
theorem dL_law_436 : decode cL_law 436 = .ok (.iadd, 1) := by decide +kernel
theorem dL_law_437 : decode cL_law 437 = .ok (.iaload, 1) := by decide +kernel
theorem dL_law_438 : decode cL_law 438 = .ok (.aload_n 0, 1) := by decide +kernel
theorem dL_law_439 : decode cL_law 439 = .ok (.iload_n 3, 1) := by decide +kernel
theorem dL_law_440 : decode cL_law 440 = .ok (.iconst 2, 1) := by decide +kernel
theorem dL_law_441 : decode cL_law 441 = .ok (.iadd, 1) := by decide +kernel
theorem dL_law_442 : decode cL_law 442 = .ok (.iaload, 1) := by decide +kernel
theorem dL_law_443 : decode cL_law 443 = .ok (.invokevirtual 51, 3) := by decide +kernel
theorem dL_law_446 : decode cL_law 446 = .ok (.if_icmp .eq 536, 3) := by decide +kernel
theorem dL_law_449 : decode cL_law 449 = .ok (.iconst 0, 1) := by decide +kernel
theorem dL_law_450 : decode cL_law 450 = .ok (.ireturn, 1) := by decide +kernel
theorem dL_law_451 : decode cL_law 451 = .ok (.aload_n 1, 1) := by decide +kernel
theorem dL_law_452 : decode cL_law 452 = .ok (.aload_n 0, 1) := by decide +kernel
theorem dL_law_453 : decode cL_law 453 = .ok (.iload_n 3, 1) := by decide +kernel
theorem dL_law_454 : decode cL_law 454 = .ok (.iconst 1, 1) := by decide +kernel
theorem dL_law_455 : decode cL_law 455 = .ok (.iadd, 1) := by decide +kernel
theorem dL_law_456 : decode cL_law 456 = .ok (.iaload, 1) := by decide +kernel
theorem dL_law_457 : decode cL_law 457 = .ok (.aload_n 0, 1) := by decide +kernel
theorem dL_law_458 : decode cL_law 458 = .ok (.iload_n 3, 1) := by decide +kernel
theorem dL_law_459 : decode cL_law 459 = .ok (.iconst 2, 1) := by decide +kernel
theorem dL_law_460 : decode cL_law 460 = .ok (.iadd, 1) := by decide +kernel
theorem dL_law_461 : decode cL_law 461 = .ok (.iaload, 1) := by decide +kernel
theorem dL_law_462 : decode cL_law 462 = .ok (.aload_n 0, 1) := by decide +kernel
theorem dL_law_463 : decode cL_law 463 = .ok (.iload_n 3, 1) := by decide +kernel
theorem dL_law_464 : decode cL_law 464 = .ok (.iconst 3, 1) := by decide +kernel
theorem dL_law_465 : decode cL_law 465 = .ok (.iadd, 1) := by decide +kernel
theorem dL_law_466 : decode cL_law 466 = .ok (.iaload, 1) := by decide +kernel
theorem dL_law_467 : decode cL_law 467 = .ok (.invokevirtual 52, 3) := by decide +kernel
theorem dL_law_470 : decode cL_law 470 = .ok (.aload_n 2, 1) := by decide +kernel
theorem dL_law_471 : decode cL_law 471 = .ok (.aload_n 0, 1) := by decide +kernel
theorem dL_law_472 : decode cL_law 472 = .ok (.iload_n 3, 1) := by decide +kernel
theorem dL_law_473 : decode cL_law 473 = .ok (.iconst 1, 1) := by decide +kernel
theorem dL_law_474 : decode cL_law 474 = .ok (.iadd, 1) := by decide +kernel
theorem dL_law_475 : decode cL_law 475 = .ok (.iaload, 1) := by decide +kernel
theorem dL_law_476 : decode cL_law 476 = .ok (.aload_n 0, 1) := by decide +kernel
theorem dL_law_477 : decode cL_law 477 = .ok (.iload_n 3, 1) := by decide +kernel
theorem dL_law_478 : decode cL_law 478 = .ok (.iconst 2, 1) := by decide +kernel
theorem dL_law_479 : decode cL_law 479 = .ok (.iadd, 1) := by decide +kernel
theorem dL_law_480 : decode cL_law 480 = .ok (.iaload, 1) := by decide +kernel
theorem dL_law_481 : decode cL_law 481 = .ok (.aload_n 0, 1) := by decide +kernel
theorem dL_law_482 : decode cL_law 482 = .ok (.iload_n 3, 1) := by decide +kernel
theorem dL_law_483 : decode cL_law 483 = .ok (.iconst 3, 1) := by decide +kernel
theorem dL_law_484 : decode cL_law 484 = .ok (.iadd, 1) := by decide +kernel
theorem dL_law_485 : decode cL_law 485 = .ok (.iaload, 1) := by decide +kernel
theorem dL_law_486 : decode cL_law 486 = .ok (.invokevirtual 55, 3) := by decide +kernel
theorem dL_law_489 : decode cL_law 489 = .ok (.if_icmp .eq 493, 3) := by decide +kernel
theorem dL_law_492 : decode cL_law 492 = .ok (.iconst 0, 1) := by decide +kernel
theorem dL_law_493 : decode cL_law 493 = .ok (.ireturn, 1) := by decide +kernel
theorem dL_law_494 : decode cL_law 494 = .ok (.aload_n 1, 1) := by decide +kernel
theorem dL_law_495 : decode cL_law 495 = .ok (.invokevirtual 56, 3) := by decide +kernel
theorem dL_law_498 : decode cL_law 498 = .ok (.aload_n 2, 1) := by decide +kernel
theorem dL_law_499 : decode cL_law 499 = .ok (.invokevirtual 59, 3) := by decide +kernel
theorem dL_law_502 : decode cL_law 502 = .ok (.if_icmp .eq 480, 3) := by decide +kernel
theorem dL_law_505 : decode cL_law 505 = .ok (.iconst 0, 1) := by decide +kernel
theorem dL_law_506 : decode cL_law 506 = .ok (.ireturn, 1) := by decide +kernel
theorem dL_law_507 : decode cL_law 507 = .ok (.aload_n 1, 1) := by decide +kernel
theorem dL_law_508 : decode cL_law 508 = .ok (.aload_n 0, 1) := by decide +kernel
theorem dL_law_509 : decode cL_law 509 = .ok (.iload_n 3, 1) := by decide +kernel
theorem dL_law_510 : decode cL_law 510 = .ok (.iconst 1, 1) := by decide +kernel
theorem dL_law_511 : decode cL_law 511 = .ok (.iadd, 1) := by decide +kernel
theorem dL_law_512 : decode cL_law 512 = .ok (.iaload, 1) := by decide +kernel
theorem dL_law_513 : decode cL_law 513 = .ok (.aload_n 0, 1) := by decide +kernel
theorem dL_law_514 : decode cL_law 514 = .ok (.iload_n 3, 1) := by decide +kernel
theorem dL_law_515 : decode cL_law 515 = .ok (.iconst 2, 1) := by decide +kernel
theorem dL_law_516 : decode cL_law 516 = .ok (.iadd, 1) := by decide +kernel
theorem dL_law_517 : decode cL_law 517 = .ok (.iaload, 1) := by decide +kernel
theorem dL_law_518 : decode cL_law 518 = .ok (.invokevirtual 60, 3) := by decide +kernel
theorem dL_law_521 : decode cL_law 521 = .ok (.aload_n 2, 1) := by decide +kernel
theorem dL_law_522 : decode cL_law 522 = .ok (.aload_n 0, 1) := by decide +kernel
theorem dL_law_523 : decode cL_law 523 = .ok (.iload_n 3, 1) := by decide +kernel
theorem dL_law_524 : decode cL_law 524 = .ok (.iconst 1, 1) := by decide +kernel
theorem dL_law_525 : decode cL_law 525 = .ok (.iadd, 1) := by decide +kernel
theorem dL_law_526 : decode cL_law 526 = .ok (.iaload, 1) := by decide +kernel
theorem dL_law_527 : decode cL_law 527 = .ok (.aload_n 0, 1) := by decide +kernel
theorem dL_law_528 : decode cL_law 528 = .ok (.iload_n 3, 1) := by decide +kernel
theorem dL_law_529 : decode cL_law 529 = .ok (.iconst 2, 1) := by decide +kernel
theorem dL_law_530 : decode cL_law 530 = .ok (.iadd, 1) := by decide +kernel
theorem dL_law_531 : decode cL_law 531 = .ok (.iaload, 1) := by decide +kernel
theorem dL_law_532 : decode cL_law 532 = .ok (.invokevirtual 63, 3) := by decide +kernel
theorem dL_law_535 : decode cL_law 535 = .ok (.if_icmp .eq 447, 3) := by decide +kernel
theorem dL_law_538 : decode cL_law 538 = .ok (.iconst 0, 1) := by decide +kernel
theorem dL_law_539 : decode cL_law 539 = .ok (.ireturn, 1) := by decide +kernel
theorem dL_law_540 : decode cL_law 540 = .ok (.aload_n 1, 1) := by decide +kernel
theorem dL_law_541 : decode cL_law 541 = .ok (.aload_n 0, 1) := by decide +kernel
theorem dL_law_542 : decode cL_law 542 = .ok (.iload_n 3, 1) := by decide +kernel
theorem dL_law_543 : decode cL_law 543 = .ok (.iconst 1, 1) := by decide +kernel
theorem dL_law_544 : decode cL_law 544 = .ok (.iadd, 1) := by decide +kernel
theorem dL_law_545 : decode cL_law 545 = .ok (.iaload, 1) := by decide +kernel
theorem dL_law_546 : decode cL_law 546 = .ok (.aload_n 0, 1) := by decide +kernel
theorem dL_law_547 : decode cL_law 547 = .ok (.iload_n 3, 1) := by decide +kernel
theorem dL_law_548 : decode cL_law 548 = .ok (.iconst 2, 1) := by decide +kernel
theorem dL_law_549 : decode cL_law 549 = .ok (.iadd, 1) := by decide +kernel
theorem dL_law_550 : decode cL_law 550 = .ok (.iaload, 1) := by decide +kernel
theorem dL_law_551 : decode cL_law 551 = .ok (.invokevirtual 64, 3) := by decide +kernel
theorem dL_law_554 : decode cL_law 554 = .ok (.aload_n 2, 1) := by decide +kernel
theorem dL_law_555 : decode cL_law 555 = .ok (.aload_n 0, 1) := by decide +kernel
theorem dL_law_556 : decode cL_law 556 = .ok (.iload_n 3, 1) := by decide +kernel
theorem dL_law_557 : decode cL_law 557 = .ok (.iconst 1, 1) := by decide +kernel
theorem dL_law_558 : decode cL_law 558 = .ok (.iadd, 1) := by decide +kernel
theorem dL_law_559 : decode cL_law 559 = .ok (.iaload, 1) := by decide +kernel
theorem dL_law_560 : decode cL_law 560 = .ok (.aload_n 0, 1) := by decide +kernel
theorem dL_law_561 : decode cL_law 561 = .ok (.iload_n 3, 1) := by decide +kernel
theorem dL_law_562 : decode cL_law 562 = .ok (.iconst 2, 1) := by decide +kernel
theorem dL_law_563 : decode cL_law 563 = .ok (.iadd, 1) := by decide +kernel
theorem dL_law_564 : decode cL_law 564 = .ok (.iaload, 1) := by decide +kernel
theorem dL_law_565 : decode cL_law 565 = .ok (.invokevirtual 67, 3) := by decide +kernel
theorem dL_law_568 : decode cL_law 568 = .ok (.if_icmp .eq 414, 3) := by decide +kernel
theorem dL_law_571 : decode cL_law 571 = .ok (.iconst 0, 1) := by decide +kernel
theorem dL_law_572 : decode cL_law 572 = .ok (.ireturn, 1) := by decide +kernel
theorem dL_law_573 : decode cL_law 573 = .ok (.aload_n 1, 1) := by decide +kernel
theorem dL_law_574 : decode cL_law 574 = .ok (.aload_n 0, 1) := by decide +kernel
theorem dL_law_575 : decode cL_law 575 = .ok (.iload_n 3, 1) := by decide +kernel
theorem dL_law_576 : decode cL_law 576 = .ok (.iconst 1, 1) := by decide +kernel
theorem dL_law_577 : decode cL_law 577 = .ok (.iadd, 1) := by decide +kernel
theorem dL_law_578 : decode cL_law 578 = .ok (.iaload, 1) := by decide +kernel
theorem dL_law_579 : decode cL_law 579 = .ok (.aload_n 0, 1) := by decide +kernel
theorem dL_law_580 : decode cL_law 580 = .ok (.iload_n 3, 1) := by decide +kernel
theorem dL_law_581 : decode cL_law 581 = .ok (.iconst 2, 1) := by decide +kernel
theorem dL_law_582 : decode cL_law 582 = .ok (.iadd, 1) := by decide +kernel
theorem dL_law_583 : decode cL_law 583 = .ok (.iaload, 1) := by decide +kernel
theorem dL_law_584 : decode cL_law 584 = .ok (.invokevirtual 68, 3) := by decide +kernel
theorem dL_law_587 : decode cL_law 587 = .ok (.aload_n 2, 1) := by decide +kernel
theorem dL_law_588 : decode cL_law 588 = .ok (.aload_n 0, 1) := by decide +kernel
theorem dL_law_589 : decode cL_law 589 = .ok (.iload_n 3, 1) := by decide +kernel
theorem dL_law_590 : decode cL_law 590 = .ok (.iconst 1, 1) := by decide +kernel
theorem dL_law_591 : decode cL_law 591 = .ok (.iadd, 1) := by decide +kernel
theorem dL_law_592 : decode cL_law 592 = .ok (.iaload, 1) := by decide +kernel
theorem dL_law_593 : decode cL_law 593 = .ok (.aload_n 0, 1) := by decide +kernel
theorem dL_law_594 : decode cL_law 594 = .ok (.iload_n 3, 1) := by decide +kernel
theorem dL_law_595 : decode cL_law 595 = .ok (.iconst 2, 1) := by decide +kernel
theorem dL_law_596 : decode cL_law 596 = .ok (.iadd, 1) := by decide +kernel
theorem dL_law_597 : decode cL_law 597 = .ok (.iaload, 1) := by decide +kernel
theorem dL_law_598 : decode cL_law 598 = .ok (.invokevirtual 71, 3) := by decide +kernel
theorem dL_law_601 : decode cL_law 601 = .ok (.if_icmp .eq 381, 3) := by decide +kernel
theorem dL_law_604 : decode cL_law 604 = .ok (.iconst 0, 1) := by decide +kernel
theorem dL_law_605 : decode cL_law 605 = .ok (.ireturn, 1) := by decide +kernel
theorem dL_law_606 : decode cL_law 606 = .ok (.aload_n 1, 1) := by decide +kernel
theorem dL_law_607 : decode cL_law 607 = .ok (.aload_n 0, 1) := by decide +kernel
theorem dL_law_608 : decode cL_law 608 = .ok (.iload_n 3, 1) := by decide +kernel
theorem dL_law_609 : decode cL_law 609 = .ok (.iconst 1, 1) := by decide +kernel
theorem dL_law_610 : decode cL_law 610 = .ok (.iadd, 1) := by decide +kernel
theorem dL_law_611 : decode cL_law 611 = .ok (.iaload, 1) := by decide +kernel
theorem dL_law_612 : decode cL_law 612 = .ok (.aload_n 0, 1) := by decide +kernel
theorem dL_law_613 : decode cL_law 613 = .ok (.iload_n 3, 1) := by decide +kernel
theorem dL_law_614 : decode cL_law 614 = .ok (.iconst 2, 1) := by decide +kernel
theorem dL_law_615 : decode cL_law 615 = .ok (.iadd, 1) := by decide +kernel
theorem dL_law_616 : decode cL_law 616 = .ok (.iaload, 1) := by decide +kernel
theorem dL_law_617 : decode cL_law 617 = .ok (.aload_n 0, 1) := by decide +kernel
theorem dL_law_618 : decode cL_law 618 = .ok (.iload_n 3, 1) := by decide +kernel
theorem dL_law_619 : decode cL_law 619 = .ok (.iconst 3, 1) := by decide +kernel
theorem dL_law_620 : decode cL_law 620 = .ok (.iadd, 1) := by decide +kernel
theorem dL_law_621 : decode cL_law 621 = .ok (.iaload, 1) := by decide +kernel
theorem dL_law_622 : decode cL_law 622 = .ok (.invokevirtual 72, 3) := by decide +kernel
theorem dL_law_625 : decode cL_law 625 = .ok (.aload_n 2, 1) := by decide +kernel
theorem dL_law_626 : decode cL_law 626 = .ok (.aload_n 0, 1) := by decide +kernel
theorem dL_law_627 : decode cL_law 627 = .ok (.iload_n 3, 1) := by decide +kernel
theorem dL_law_628 : decode cL_law 628 = .ok (.iconst 1, 1) := by decide +kernel
theorem dL_law_629 : decode cL_law 629 = .ok (.iadd, 1) := by decide +kernel
theorem dL_law_630 : decode cL_law 630 = .ok (.iaload, 1) := by decide +kernel
theorem dL_law_631 : decode cL_law 631 = .ok (.aload_n 0, 1) := by decide +kernel
theorem dL_law_632 : decode cL_law 632 = .ok (.iload_n 3, 1) := by decide +kernel
theorem dL_law_633 : decode cL_law 633 = .ok (.iconst 2, 1) := by decide +kernel
theorem dL_law_634 : decode cL_law 634 = .ok (.iadd, 1) := by decide +kernel
theorem dL_law_635 : decode cL_law 635 = .ok (.iaload, 1) := by decide +kernel
theorem dL_law_636 : decode cL_law 636 = .ok (.aload_n 0, 1) := by decide +kernel
theorem dL_law_637 : decode cL_law 637 = .ok (.iload_n 3, 1) := by decide +kernel
theorem dL_law_638 : decode cL_law 638 = .ok (.iconst 3, 1) := by decide +kernel
theorem dL_law_639 : decode cL_law 639 = .ok (.iadd, 1) := by decide +kernel
theorem dL_law_640 : decode cL_law 640 = .ok (.iaload, 1) := by decide +kernel
theorem dL_law_641 : decode cL_law 641 = .ok (.invokevirtual 76, 3) := by decide +kernel
theorem dL_law_644 : decode cL_law 644 = .ok (.lcmp, 1) := by decide +kernel
theorem dL_law_645 : decode cL_law 645 = .ok (.ifCond .eq 337, 3) := by decide +kernel
theorem dL_law_648 : decode cL_law 648 = .ok (.iconst 0, 1) := by decide +kernel
theorem dL_law_649 : decode cL_law 649 = .ok (.ireturn, 1) := by decide +kernel
theorem dL_law_650 : decode cL_law 650 = .ok (.aload_n 1, 1) := by decide +kernel
theorem dL_law_651 : decode cL_law 651 = .ok (.aload_n 0, 1) := by decide +kernel
theorem dL_law_652 : decode cL_law 652 = .ok (.iload_n 3, 1) := by decide +kernel
theorem dL_law_653 : decode cL_law 653 = .ok (.iconst 1, 1) := by decide +kernel
theorem dL_law_654 : decode cL_law 654 = .ok (.iadd, 1) := by decide +kernel
theorem dL_law_655 : decode cL_law 655 = .ok (.iaload, 1) := by decide +kernel
theorem dL_law_656 : decode cL_law 656 = .ok (.invokevirtual 77, 3) := by decide +kernel
theorem dL_law_659 : decode cL_law 659 = .ok (.aload_n 2, 1) := by decide +kernel
theorem dL_law_660 : decode cL_law 660 = .ok (.aload_n 0, 1) := by decide +kernel
theorem dL_law_661 : decode cL_law 661 = .ok (.iload_n 3, 1) := by decide +kernel
theorem dL_law_662 : decode cL_law 662 = .ok (.iconst 1, 1) := by decide +kernel
theorem dL_law_663 : decode cL_law 663 = .ok (.iadd, 1) := by decide +kernel
theorem dL_law_664 : decode cL_law 664 = .ok (.iaload, 1) := by decide +kernel
theorem dL_law_665 : decode cL_law 665 = .ok (.invokevirtual 81, 3) := by decide +kernel
theorem dL_law_668 : decode cL_law 668 = .ok (.if_icmp .eq 314, 3) := by decide +kernel
theorem dL_law_671 : decode cL_law 671 = .ok (.iconst 0, 1) := by decide +kernel
theorem dL_law_672 : decode cL_law 672 = .ok (.ireturn, 1) := by decide +kernel
theorem dL_law_673 : decode cL_law 673 = .ok (.aload_n 1, 1) := by decide +kernel
theorem dL_law_674 : decode cL_law 674 = .ok (.aload_n 0, 1) := by decide +kernel
theorem dL_law_675 : decode cL_law 675 = .ok (.iload_n 3, 1) := by decide +kernel
theorem dL_law_676 : decode cL_law 676 = .ok (.iconst 1, 1) := by decide +kernel
theorem dL_law_677 : decode cL_law 677 = .ok (.iadd, 1) := by decide +kernel
theorem dL_law_678 : decode cL_law 678 = .ok (.iaload, 1) := by decide +kernel
theorem dL_law_679 : decode cL_law 679 = .ok (.invokevirtual 82, 3) := by decide +kernel
theorem dL_law_682 : decode cL_law 682 = .ok (.aload_n 2, 1) := by decide +kernel
theorem dL_law_683 : decode cL_law 683 = .ok (.aload_n 0, 1) := by decide +kernel
theorem dL_law_684 : decode cL_law 684 = .ok (.iload_n 3, 1) := by decide +kernel
theorem dL_law_685 : decode cL_law 685 = .ok (.iconst 1, 1) := by decide +kernel
theorem dL_law_686 : decode cL_law 686 = .ok (.iadd, 1) := by decide +kernel
theorem dL_law_687 : decode cL_law 687 = .ok (.iaload, 1) := by decide +kernel
theorem dL_law_688 : decode cL_law 688 = .ok (.invokevirtual 85, 3) := by decide +kernel
theorem dL_law_691 : decode cL_law 691 = .ok (.if_icmp .eq 291, 3) := by decide +kernel
theorem dL_law_694 : decode cL_law 694 = .ok (.iconst 0, 1) := by decide +kernel
theorem dL_law_695 : decode cL_law 695 = .ok (.ireturn, 1) := by decide +kernel
theorem dL_law_696 : decode cL_law 696 = .ok (.aload_n 1, 1) := by decide +kernel
theorem dL_law_697 : decode cL_law 697 = .ok (.aload_n 0, 1) := by decide +kernel
theorem dL_law_698 : decode cL_law 698 = .ok (.iload_n 3, 1) := by decide +kernel
theorem dL_law_699 : decode cL_law 699 = .ok (.iconst 1, 1) := by decide +kernel
theorem dL_law_700 : decode cL_law 700 = .ok (.iadd, 1) := by decide +kernel
theorem dL_law_701 : decode cL_law 701 = .ok (.iaload, 1) := by decide +kernel
theorem dL_law_702 : decode cL_law 702 = .ok (.aload_n 0, 1) := by decide +kernel
theorem dL_law_703 : decode cL_law 703 = .ok (.iload_n 3, 1) := by decide +kernel
theorem dL_law_704 : decode cL_law 704 = .ok (.iconst 2, 1) := by decide +kernel
theorem dL_law_705 : decode cL_law 705 = .ok (.iadd, 1) := by decide +kernel
theorem dL_law_706 : decode cL_law 706 = .ok (.iaload, 1) := by decide +kernel
theorem dL_law_707 : decode cL_law 707 = .ok (.invokevirtual 86, 3) := by decide +kernel
theorem dL_law_710 : decode cL_law 710 = .ok (.aload_n 2, 1) := by decide +kernel
theorem dL_law_711 : decode cL_law 711 = .ok (.aload_n 0, 1) := by decide +kernel
theorem dL_law_712 : decode cL_law 712 = .ok (.iload_n 3, 1) := by decide +kernel
theorem dL_law_713 : decode cL_law 713 = .ok (.iconst 1, 1) := by decide +kernel
theorem dL_law_714 : decode cL_law 714 = .ok (.iadd, 1) := by decide +kernel
theorem dL_law_715 : decode cL_law 715 = .ok (.iaload, 1) := by decide +kernel
theorem dL_law_716 : decode cL_law 716 = .ok (.aload_n 0, 1) := by decide +kernel
theorem dL_law_717 : decode cL_law 717 = .ok (.iload_n 3, 1) := by decide +kernel
theorem dL_law_718 : decode cL_law 718 = .ok (.iconst 2, 1) := by decide +kernel
theorem dL_law_719 : decode cL_law 719 = .ok (.iadd, 1) := by decide +kernel
theorem dL_law_720 : decode cL_law 720 = .ok (.iaload, 1) := by decide +kernel
theorem dL_law_721 : decode cL_law 721 = .ok (.invokevirtual 89, 3) := by decide +kernel
theorem dL_law_724 : decode cL_law 724 = .ok (.if_icmp .eq 258, 3) := by decide +kernel
theorem dL_law_727 : decode cL_law 727 = .ok (.iconst 0, 1) := by decide +kernel
theorem dL_law_728 : decode cL_law 728 = .ok (.ireturn, 1) := by decide +kernel
theorem dL_law_729 : decode cL_law 729 = .ok (.aload_n 1, 1) := by decide +kernel
theorem dL_law_730 : decode cL_law 730 = .ok (.aload_n 0, 1) := by decide +kernel
theorem dL_law_731 : decode cL_law 731 = .ok (.iload_n 3, 1) := by decide +kernel
theorem dL_law_732 : decode cL_law 732 = .ok (.iconst 1, 1) := by decide +kernel
theorem dL_law_733 : decode cL_law 733 = .ok (.iadd, 1) := by decide +kernel
theorem dL_law_734 : decode cL_law 734 = .ok (.iaload, 1) := by decide +kernel
theorem dL_law_735 : decode cL_law 735 = .ok (.invokevirtual 90, 3) := by decide +kernel
theorem dL_law_738 : decode cL_law 738 = .ok (.aload_n 2, 1) := by decide +kernel
theorem dL_law_739 : decode cL_law 739 = .ok (.aload_n 0, 1) := by decide +kernel
theorem dL_law_740 : decode cL_law 740 = .ok (.iload_n 3, 1) := by decide +kernel
theorem dL_law_741 : decode cL_law 741 = .ok (.iconst 1, 1) := by decide +kernel
theorem dL_law_742 : decode cL_law 742 = .ok (.iadd, 1) := by decide +kernel
theorem dL_law_743 : decode cL_law 743 = .ok (.iaload, 1) := by decide +kernel
theorem dL_law_744 : decode cL_law 744 = .ok (.invokevirtual 93, 3) := by decide +kernel
theorem dL_law_747 : decode cL_law 747 = .ok (.if_icmp .eq 235, 3) := by decide +kernel
theorem dL_law_750 : decode cL_law 750 = .ok (.iconst 0, 1) := by decide +kernel
theorem dL_law_751 : decode cL_law 751 = .ok (.ireturn, 1) := by decide +kernel
theorem dL_law_752 : decode cL_law 752 = .ok (.aload_n 1, 1) := by decide +kernel
theorem dL_law_753 : decode cL_law 753 = .ok (.aload_n 0, 1) := by decide +kernel
theorem dL_law_754 : decode cL_law 754 = .ok (.iload_n 3, 1) := by decide +kernel
theorem dL_law_755 : decode cL_law 755 = .ok (.iconst 1, 1) := by decide +kernel
theorem dL_law_756 : decode cL_law 756 = .ok (.iadd, 1) := by decide +kernel
theorem dL_law_757 : decode cL_law 757 = .ok (.iaload, 1) := by decide +kernel
theorem dL_law_758 : decode cL_law 758 = .ok (.invokevirtual 94, 3) := by decide +kernel
theorem dL_law_761 : decode cL_law 761 = .ok (.aload_n 2, 1) := by decide +kernel
theorem dL_law_762 : decode cL_law 762 = .ok (.aload_n 0, 1) := by decide +kernel
theorem dL_law_763 : decode cL_law 763 = .ok (.iload_n 3, 1) := by decide +kernel
theorem dL_law_764 : decode cL_law 764 = .ok (.iconst 1, 1) := by decide +kernel
theorem dL_law_765 : decode cL_law 765 = .ok (.iadd, 1) := by decide +kernel
theorem dL_law_766 : decode cL_law 766 = .ok (.iaload, 1) := by decide +kernel
theorem dL_law_767 : decode cL_law 767 = .ok (.invokevirtual 97, 3) := by decide +kernel
theorem dL_law_770 : decode cL_law 770 = .ok (.if_icmp .eq 212, 3) := by decide +kernel
theorem dL_law_773 : decode cL_law 773 = .ok (.iconst 0, 1) := by decide +kernel
theorem dL_law_774 : decode cL_law 774 = .ok (.ireturn, 1) := by decide +kernel
theorem dL_law_775 : decode cL_law 775 = .ok (.aload_n 1, 1) := by decide +kernel
theorem dL_law_776 : decode cL_law 776 = .ok (.invokevirtual 98, 3) := by decide +kernel
theorem dL_law_779 : decode cL_law 779 = .ok (.aload_n 2, 1) := by decide +kernel
theorem dL_law_780 : decode cL_law 780 = .ok (.invokevirtual 101, 3) := by decide +kernel
theorem dL_law_783 : decode cL_law 783 = .ok (.if_icmp .eq 199, 3) := by decide +kernel
theorem dL_law_786 : decode cL_law 786 = .ok (.iconst 0, 1) := by decide +kernel
theorem dL_law_787 : decode cL_law 787 = .ok (.ireturn, 1) := by decide +kernel
theorem dL_law_788 : decode cL_law 788 = .ok (.aload_n 1, 1) := by decide +kernel
theorem dL_law_789 : decode cL_law 789 = .ok (.aload_n 0, 1) := by decide +kernel
theorem dL_law_790 : decode cL_law 790 = .ok (.iload_n 3, 1) := by decide +kernel
theorem dL_law_791 : decode cL_law 791 = .ok (.iconst 1, 1) := by decide +kernel
theorem dL_law_792 : decode cL_law 792 = .ok (.iadd, 1) := by decide +kernel
theorem dL_law_793 : decode cL_law 793 = .ok (.iaload, 1) := by decide +kernel
theorem dL_law_794 : decode cL_law 794 = .ok (.aload_n 0, 1) := by decide +kernel
theorem dL_law_795 : decode cL_law 795 = .ok (.iload_n 3, 1) := by decide +kernel
theorem dL_law_796 : decode cL_law 796 = .ok (.iconst 2, 1) := by decide +kernel
theorem dL_law_797 : decode cL_law 797 = .ok (.iadd, 1) := by decide +kernel
theorem dL_law_798 : decode cL_law 798 = .ok (.iaload, 1) := by decide +kernel
theorem dL_law_799 : decode cL_law 799 = .ok (.aload_n 0, 1) := by decide +kernel
theorem dL_law_800 : decode cL_law 800 = .ok (.iload_n 3, 1) := by decide +kernel
theorem dL_law_801 : decode cL_law 801 = .ok (.iconst 3, 1) := by decide +kernel
theorem dL_law_802 : decode cL_law 802 = .ok (.iadd, 1) := by decide +kernel
theorem dL_law_803 : decode cL_law 803 = .ok (.iaload, 1) := by decide +kernel
theorem dL_law_804 : decode cL_law 804 = .ok (.invokevirtual 102, 3) := by decide +kernel
theorem dL_law_807 : decode cL_law 807 = .ok (.aload_n 2, 1) := by decide +kernel
theorem dL_law_808 : decode cL_law 808 = .ok (.aload_n 0, 1) := by decide +kernel
theorem dL_law_809 : decode cL_law 809 = .ok (.iload_n 3, 1) := by decide +kernel
theorem dL_law_810 : decode cL_law 810 = .ok (.iconst 1, 1) := by decide +kernel
theorem dL_law_811 : decode cL_law 811 = .ok (.iadd, 1) := by decide +kernel
theorem dL_law_812 : decode cL_law 812 = .ok (.iaload, 1) := by decide +kernel
theorem dL_law_813 : decode cL_law 813 = .ok (.aload_n 0, 1) := by decide +kernel
theorem dL_law_814 : decode cL_law 814 = .ok (.iload_n 3, 1) := by decide +kernel
theorem dL_law_815 : decode cL_law 815 = .ok (.iconst 2, 1) := by decide +kernel
theorem dL_law_816 : decode cL_law 816 = .ok (.iadd, 1) := by decide +kernel
theorem dL_law_817 : decode cL_law 817 = .ok (.iaload, 1) := by decide +kernel
theorem dL_law_818 : decode cL_law 818 = .ok (.aload_n 0, 1) := by decide +kernel
theorem dL_law_819 : decode cL_law 819 = .ok (.iload_n 3, 1) := by decide +kernel
theorem dL_law_820 : decode cL_law 820 = .ok (.iconst 3, 1) := by decide +kernel
theorem dL_law_821 : decode cL_law 821 = .ok (.iadd, 1) := by decide +kernel
theorem dL_law_822 : decode cL_law 822 = .ok (.iaload, 1) := by decide +kernel
theorem dL_law_823 : decode cL_law 823 = .ok (.invokevirtual 105, 3) := by decide +kernel
theorem dL_law_826 : decode cL_law 826 = .ok (.if_icmp .eq 156, 3) := by decide +kernel
theorem dL_law_829 : decode cL_law 829 = .ok (.iconst 0, 1) := by decide +kernel
theorem dL_law_830 : decode cL_law 830 = .ok (.ireturn, 1) := by decide +kernel
theorem dL_law_831 : decode cL_law 831 = .ok (.aload_n 1, 1) := by decide +kernel
theorem dL_law_832 : decode cL_law 832 = .ok (.aload_n 0, 1) := by decide +kernel
theorem dL_law_833 : decode cL_law 833 = .ok (.iload_n 3, 1) := by decide +kernel
theorem dL_law_834 : decode cL_law 834 = .ok (.iconst 1, 1) := by decide +kernel
theorem dL_law_835 : decode cL_law 835 = .ok (.iadd, 1) := by decide +kernel
theorem dL_law_836 : decode cL_law 836 = .ok (.iaload, 1) := by decide +kernel
theorem dL_law_837 : decode cL_law 837 = .ok (.i2l, 1) := by decide +kernel
theorem dL_law_838 : decode cL_law 838 = .ok (.bipush 32, 2) := by decide +kernel
theorem dL_law_840 : decode cL_law 840 = .ok (.lshl, 1) := by decide +kernel
theorem dL_law_841 : decode cL_law 841 = .ok (.aload_n 0, 1) := by decide +kernel
theorem dL_law_842 : decode cL_law 842 = .ok (.iload_n 3, 1) := by decide +kernel
theorem dL_law_843 : decode cL_law 843 = .ok (.iconst 2, 1) := by decide +kernel
theorem dL_law_844 : decode cL_law 844 = .ok (.iadd, 1) := by decide +kernel
theorem dL_law_845 : decode cL_law 845 = .ok (.iaload, 1) := by decide +kernel
theorem dL_law_846 : decode cL_law 846 = .ok (.i2l, 1) := by decide +kernel
theorem dL_law_847 : decode cL_law 847 = .ok (.ldc2_w 106, 3) := by decide +kernel
theorem dL_law_850 : decode cL_law 850 = .ok (.land, 1) := by decide +kernel
theorem dL_law_851 : decode cL_law 851 = .ok (.lor, 1) := by decide +kernel
theorem dL_law_852 : decode cL_law 852 = .ok (.invokevirtual 108, 3) := by decide +kernel
theorem dL_law_855 : decode cL_law 855 = .ok (.aload_n 2, 1) := by decide +kernel
theorem dL_law_856 : decode cL_law 856 = .ok (.aload_n 0, 1) := by decide +kernel
theorem dL_law_857 : decode cL_law 857 = .ok (.iload_n 3, 1) := by decide +kernel
theorem dL_law_858 : decode cL_law 858 = .ok (.iconst 1, 1) := by decide +kernel
theorem dL_law_859 : decode cL_law 859 = .ok (.iadd, 1) := by decide +kernel
theorem dL_law_860 : decode cL_law 860 = .ok (.iaload, 1) := by decide +kernel
theorem dL_law_861 : decode cL_law 861 = .ok (.i2l, 1) := by decide +kernel
theorem dL_law_862 : decode cL_law 862 = .ok (.bipush 32, 2) := by decide +kernel
theorem dL_law_864 : decode cL_law 864 = .ok (.lshl, 1) := by decide +kernel
theorem dL_law_865 : decode cL_law 865 = .ok (.aload_n 0, 1) := by decide +kernel
theorem dL_law_866 : decode cL_law 866 = .ok (.iload_n 3, 1) := by decide +kernel
theorem dL_law_867 : decode cL_law 867 = .ok (.iconst 2, 1) := by decide +kernel
theorem dL_law_868 : decode cL_law 868 = .ok (.iadd, 1) := by decide +kernel
theorem dL_law_869 : decode cL_law 869 = .ok (.iaload, 1) := by decide +kernel
theorem dL_law_870 : decode cL_law 870 = .ok (.i2l, 1) := by decide +kernel
theorem dL_law_871 : decode cL_law 871 = .ok (.ldc2_w 106, 3) := by decide +kernel
theorem dL_law_874 : decode cL_law 874 = .ok (.land, 1) := by decide +kernel
theorem dL_law_875 : decode cL_law 875 = .ok (.lor, 1) := by decide +kernel
theorem dL_law_876 : decode cL_law 876 = .ok (.invokevirtual 112, 3) := by decide +kernel
theorem dL_law_879 : decode cL_law 879 = .ok (.if_icmp .eq 103, 3) := by decide +kernel
theorem dL_law_882 : decode cL_law 882 = .ok (.iconst 0, 1) := by decide +kernel
theorem dL_law_883 : decode cL_law 883 = .ok (.ireturn, 1) := by decide +kernel
theorem dL_law_884 : decode cL_law 884 = .ok (.aload_n 1, 1) := by decide +kernel
theorem dL_law_885 : decode cL_law 885 = .ok (.invokevirtual 113, 3) := by decide +kernel
theorem dL_law_888 : decode cL_law 888 = .ok (.aload_n 2, 1) := by decide +kernel
theorem dL_law_889 : decode cL_law 889 = .ok (.invokevirtual 116, 3) := by decide +kernel
theorem dL_law_892 : decode cL_law 892 = .ok (.if_icmp .eq 90, 3) := by decide +kernel
theorem dL_law_895 : decode cL_law 895 = .ok (.iconst 0, 1) := by decide +kernel
theorem dL_law_896 : decode cL_law 896 = .ok (.ireturn, 1) := by decide +kernel
theorem dL_law_897 : decode cL_law 897 = .ok (.aload_n 1, 1) := by decide +kernel
theorem dL_law_898 : decode cL_law 898 = .ok (.invokevirtual 117, 3) := by decide +kernel
theorem dL_law_901 : decode cL_law 901 = .ok (.aload_n 2, 1) := by decide +kernel
theorem dL_law_902 : decode cL_law 902 = .ok (.invokevirtual 120, 3) := by decide +kernel
theorem dL_law_905 : decode cL_law 905 = .ok (.if_icmp .eq 77, 3) := by decide +kernel
theorem dL_law_908 : decode cL_law 908 = .ok (.iconst 0, 1) := by decide +kernel
theorem dL_law_909 : decode cL_law 909 = .ok (.ireturn, 1) := by decide +kernel
theorem dL_law_910 : decode cL_law 910 = .ok (.aload_n 1, 1) := by decide +kernel
theorem dL_law_911 : decode cL_law 911 = .ok (.invokevirtual 121, 3) := by decide +kernel
theorem dL_law_914 : decode cL_law 914 = .ok (.aload_n 2, 1) := by decide +kernel
theorem dL_law_915 : decode cL_law 915 = .ok (.invokevirtual 124, 3) := by decide +kernel
theorem dL_law_918 : decode cL_law 918 = .ok (.if_icmp .eq 64, 3) := by decide +kernel
theorem dL_law_921 : decode cL_law 921 = .ok (.iconst 0, 1) := by decide +kernel
theorem dL_law_922 : decode cL_law 922 = .ok (.ireturn, 1) := by decide +kernel
theorem dL_law_923 : decode cL_law 923 = .ok (.aload_n 1, 1) := by decide +kernel
theorem dL_law_924 : decode cL_law 924 = .ok (.invokevirtual 125, 3) := by decide +kernel
theorem dL_law_927 : decode cL_law 927 = .ok (.aload_n 2, 1) := by decide +kernel
theorem dL_law_928 : decode cL_law 928 = .ok (.invokevirtual 128, 3) := by decide +kernel
theorem dL_law_931 : decode cL_law 931 = .ok (.if_icmp .eq 51, 3) := by decide +kernel
theorem dL_law_934 : decode cL_law 934 = .ok (.iconst 0, 1) := by decide +kernel
theorem dL_law_935 : decode cL_law 935 = .ok (.ireturn, 1) := by decide +kernel
theorem dL_law_936 : decode cL_law 936 = .ok (.aload_n 1, 1) := by decide +kernel
theorem dL_law_937 : decode cL_law 937 = .ok (.aload_n 0, 1) := by decide +kernel
theorem dL_law_938 : decode cL_law 938 = .ok (.iload_n 3, 1) := by decide +kernel
theorem dL_law_939 : decode cL_law 939 = .ok (.iconst 1, 1) := by decide +kernel
theorem dL_law_940 : decode cL_law 940 = .ok (.iadd, 1) := by decide +kernel
theorem dL_law_941 : decode cL_law 941 = .ok (.iaload, 1) := by decide +kernel
theorem dL_law_942 : decode cL_law 942 = .ok (.invokevirtual 129, 3) := by decide +kernel
theorem dL_law_945 : decode cL_law 945 = .ok (.aload_n 2, 1) := by decide +kernel
theorem dL_law_946 : decode cL_law 946 = .ok (.aload_n 0, 1) := by decide +kernel
theorem dL_law_947 : decode cL_law 947 = .ok (.iload_n 3, 1) := by decide +kernel
theorem dL_law_948 : decode cL_law 948 = .ok (.iconst 1, 1) := by decide +kernel
theorem dL_law_949 : decode cL_law 949 = .ok (.iadd, 1) := by decide +kernel
theorem dL_law_950 : decode cL_law 950 = .ok (.iaload, 1) := by decide +kernel
theorem dL_law_951 : decode cL_law 951 = .ok (.invokevirtual 132, 3) := by decide +kernel
theorem dL_law_954 : decode cL_law 954 = .ok (.if_icmp .eq 28, 3) := by decide +kernel
theorem dL_law_957 : decode cL_law 957 = .ok (.iconst 0, 1) := by decide +kernel
theorem dL_law_958 : decode cL_law 958 = .ok (.ireturn, 1) := by decide +kernel
theorem dL_law_959 : decode cL_law 959 = .ok (.aload_n 1, 1) := by decide +kernel
theorem dL_law_960 : decode cL_law 960 = .ok (.aload_n 0, 1) := by decide +kernel
theorem dL_law_961 : decode cL_law 961 = .ok (.iload_n 3, 1) := by decide +kernel
theorem dL_law_962 : decode cL_law 962 = .ok (.iconst 1, 1) := by decide +kernel
theorem dL_law_963 : decode cL_law 963 = .ok (.iadd, 1) := by decide +kernel
theorem dL_law_964 : decode cL_law 964 = .ok (.iaload, 1) := by decide +kernel
theorem dL_law_965 : decode cL_law 965 = .ok (.invokevirtual 133, 3) := by decide +kernel
theorem dL_law_968 : decode cL_law 968 = .ok (.aload_n 2, 1) := by decide +kernel
theorem dL_law_969 : decode cL_law 969 = .ok (.aload_n 0, 1) := by decide +kernel
theorem dL_law_970 : decode cL_law 970 = .ok (.iload_n 3, 1) := by decide +kernel
theorem dL_law_971 : decode cL_law 971 = .ok (.iconst 1, 1) := by decide +kernel
theorem dL_law_972 : decode cL_law 972 = .ok (.iadd, 1) := by decide +kernel
theorem dL_law_973 : decode cL_law 973 = .ok (.iaload, 1) := by decide +kernel
theorem dL_law_974 : decode cL_law 974 = .ok (.invokevirtual 136, 3) := by decide +kernel
theorem dL_law_977 : decode cL_law 977 = .ok (.if_icmp .eq 5, 3) := by decide +kernel
theorem dL_law_980 : decode cL_law 980 = .ok (.iconst 0, 1) := by decide +kernel
theorem dL_law_981 : decode cL_law 981 = .ok (.ireturn, 1) := by decide +kernel
theorem dL_law_982 : decode cL_law 982 = .ok (.iinc 3 4, 3) := by decide +kernel
theorem dL_law_985 : decode cL_law 985 = .ok (.goto (-967), 3) := by decide +kernel
theorem dL_law_988 : decode cL_law 988 = .ok (.iconst 1, 1) := by decide +kernel
theorem dL_law_989 : decode cL_law 989 = .ok (.ireturn, 1) := by decide +kernel
