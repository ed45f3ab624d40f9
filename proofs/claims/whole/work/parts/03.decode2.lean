theorem dX7_count_185 : decode cX7_count 185 = .ok (.getfield 10, 3) := by decide +kernel
theorem dX7_count_188 : decode cX7_count 188 = .ok (.getfield 260, 3) := by decide +kernel
theorem dX7_count_191 : decode cX7_count 191 = .ok (.iload_n 1, 1) := by decide +kernel
theorem dX7_count_192 : decode cX7_count 192 = .ok (.bipush 12, 2) := by decide +kernel
theorem dX7_count_194 : decode cX7_count 194 = .ok (.isub, 1) := by decide +kernel
theorem dX7_count_195 : decode cX7_count 195 = .ok (.iaload, 1) := by decide +kernel
theorem dX7_count_196 : decode cX7_count 196 = .ok (.ireturn, 1) := by decide +kernel
theorem dX7_count_197 : decode cX7_count 197 = .ok (.aload_n 0, 1) := by decide +kernel
theorem dX7_count_198 : decode cX7_count 198 = .ok (.getfield 34, 3) := by decide +kernel
theorem dX7_count_201 : decode cX7_count 201 = .ok (.getfield 113, 3) := by decide +kernel
theorem dX7_count_204 : decode cX7_count 204 = .ok (.ireturn, 1) := by decide +kernel
theorem dX7_count_205 : decode cX7_count 205 = .ok (.aload_n 0, 1) := by decide +kernel
theorem dX7_count_206 : decode cX7_count 206 = .ok (.getfield 19, 3) := by decide +kernel
theorem dX7_count_209 : decode cX7_count 209 = .ok (.getfield 263, 3) := by decide +kernel
theorem dX7_count_212 : decode cX7_count 212 = .ok (.ireturn, 1) := by decide +kernel
theorem dX7_count_213 : decode cX7_count 213 = .ok (.bipush (-2), 2) := by decide +kernel
theorem dX7_count_215 : decode cX7_count 215 = .ok (.ireturn, 1) := by decide +kernel
theorem dX7_step_0 : decode cX7_step 0 = .ok (.iload_n 1, 1) := by decide +kernel
theorem dX7_step_1 : decode cX7_step 1 = .ok (.invokestatic 124, 3) := by decide +kernel
theorem dX7_step_4 : decode cX7_step 4 = .ok (.ifCond .ne 5, 3) := by decide +kernel
theorem dX7_step_7 : decode cX7_step 7 = .ok (.iconst (-1), 1) := by decide +kernel
theorem dX7_step_8 : decode cX7_step 8 = .ok (.ireturn, 1) := by decide +kernel
theorem dX7_step_9 : decode cX7_step 9 = .ok (.iload_n 2, 1) := by decide +kernel
theorem dX7_step_10 : decode cX7_step 10 = .ok (.iconst 0, 1) := by decide +kernel
theorem dX7_step_11 : decode cX7_step 11 = .ok (.iconst 1, 1) := by decide +kernel
theorem dX7_step_12 : decode cX7_step 12 = .ok (.invokestatic 209, 3) := by decide +kernel
theorem dX7_step_15 : decode cX7_step 15 = .ok (.ifCond .eq 6, 3) := by decide +kernel
theorem dX7_step_18 : decode cX7_step 18 = .ok (.bipush (-2), 2) := by decide +kernel
theorem dX7_step_20 : decode cX7_step 20 = .ok (.ireturn, 1) := by decide +kernel
theorem dX7_step_21 : decode cX7_step 21 = .ok (.aload_n 0, 1) := by decide +kernel
theorem dX7_step_22 : decode cX7_step 22 = .ok (.getfield 10, 3) := by decide +kernel
theorem dX7_step_25 : decode cX7_step 25 = .ok (.getfield 260, 3) := by decide +kernel
theorem dX7_step_28 : decode cX7_step 28 = .ok (.iconst 2, 1) := by decide +kernel
theorem dX7_step_29 : decode cX7_step 29 = .ok (.iaload, 1) := by decide +kernel
theorem dX7_step_30 : decode cX7_step 30 = .ok (.istore_n 3, 1) := by decide +kernel
theorem dX7_step_31 : decode cX7_step 31 = .ok (.aload_n 0, 1) := by decide +kernel
theorem dX7_step_32 : decode cX7_step 32 = .ok (.getfield 52, 3) := by decide +kernel
theorem dX7_step_35 : decode cX7_step 35 = .ok (.aload_n 0, 1) := by decide +kernel
theorem dX7_step_36 : decode cX7_step 36 = .ok (.getfield 10, 3) := by decide +kernel
theorem dX7_step_39 : decode cX7_step 39 = .ok (.iload_n 3, 1) := by decide +kernel
theorem dX7_step_40 : decode cX7_step 40 = .ok (.invokevirtual 215, 3) := by decide +kernel
theorem dX7_step_43 : decode cX7_step 43 = .ok (.aload_n 0, 1) := by decide +kernel
theorem dX7_step_44 : decode cX7_step 44 = .ok (.getfield 52, 3) := by decide +kernel
theorem dX7_step_47 : decode cX7_step 47 = .ok (.aload_n 0, 1) := by decide +kernel
theorem dX7_step_48 : decode cX7_step 48 = .ok (.getfield 10, 3) := by decide +kernel
theorem dX7_step_51 : decode cX7_step 51 = .ok (.iload_n 1, 1) := by decide +kernel
theorem dX7_step_52 : decode cX7_step 52 = .ok (.iload_n 3, 1) := by decide +kernel
theorem dX7_step_53 : decode cX7_step 53 = .ok (.invokevirtual 266, 3) := by decide +kernel
theorem dX7_step_56 : decode cX7_step 56 = .ok (.istore 4, 2) := by decide +kernel
theorem dX7_step_58 : decode cX7_step 58 = .ok (.iload_n 2, 1) := by decide +kernel
theorem dX7_step_59 : decode cX7_step 59 = .ok (.ifCond .ne 6, 3) := by decide +kernel
theorem dX7_step_62 : decode cX7_step 62 = .ok (.iload 4, 2) := by decide +kernel
theorem dX7_step_64 : decode cX7_step 64 = .ok (.ireturn, 1) := by decide +kernel
theorem dX7_step_65 : decode cX7_step 65 = .ok (.aload_n 0, 1) := by decide +kernel
theorem dX7_step_66 : decode cX7_step 66 = .ok (.getfield 10, 3) := by decide +kernel
theorem dX7_step_69 : decode cX7_step 69 = .ok (.iload 4, 2) := by decide +kernel
theorem dX7_step_71 : decode cX7_step 71 = .ok (.invokevirtual 137, 3) := by decide +kernel
theorem dX7_step_74 : decode cX7_step 74 = .ok (.ifCond .ne 5, 3) := by decide +kernel
theorem dX7_step_77 : decode cX7_step 77 = .ok (.iconst 0, 1) := by decide +kernel
theorem dX7_step_78 : decode cX7_step 78 = .ok (.ireturn, 1) := by decide +kernel
theorem dX7_step_79 : decode cX7_step 79 = .ok (.aload_n 0, 1) := by decide +kernel
theorem dX7_step_80 : decode cX7_step 80 = .ok (.getfield 52, 3) := by decide +kernel
theorem dX7_step_83 : decode cX7_step 83 = .ok (.aload_n 0, 1) := by decide +kernel
theorem dX7_step_84 : decode cX7_step 84 = .ok (.getfield 10, 3) := by decide +kernel
theorem dX7_step_87 : decode cX7_step 87 = .ok (.getfield 140, 3) := by decide +kernel
theorem dX7_step_90 : decode cX7_step 90 = .ok (.iload 4, 2) := by decide +kernel
theorem dX7_step_92 : decode cX7_step 92 = .ok (.aaload, 1) := by decide +kernel
theorem dX7_step_93 : decode cX7_step 93 = .ok (.iload_n 1, 1) := by decide +kernel
theorem dX7_step_94 : decode cX7_step 94 = .ok (.iload_n 3, 1) := by decide +kernel
theorem dX7_step_95 : decode cX7_step 95 = .ok (.invokevirtual 270, 3) := by decide +kernel
theorem dX7_step_98 : decode cX7_step 98 = .ok (.ifCond .ne 7, 3) := by decide +kernel
theorem dX7_step_101 : decode cX7_step 101 = .ok (.iconst 1, 1) := by decide +kernel
theorem dX7_step_102 : decode cX7_step 102 = .ok (.goto 4, 3) := by decide +kernel
theorem dX7_step_105 : decode cX7_step 105 = .ok (.iconst 0, 1) := by decide +kernel
theorem dX7_step_106 : decode cX7_step 106 = .ok (.invokestatic 166, 3) := by decide +kernel
theorem dX7_step_109 : decode cX7_step 109 = .ok (.ireturn, 1) := by decide +kernel
theorem dX7_fewestGuards_0 : decode cX7_fewestGuards 0 = .ok (.aload_n 0, 1) := by decide +kernel
theorem dX7_fewestGuards_1 : decode cX7_fewestGuards 1 = .ok (.getfield 10, 3) := by decide +kernel
theorem dX7_fewestGuards_4 : decode cX7_fewestGuards 4 = .ok (.iload_n 1, 1) := by decide +kernel
theorem dX7_fewestGuards_5 : decode cX7_fewestGuards 5 = .ok (.invokevirtual 137, 3) := by decide +kernel
theorem dX7_fewestGuards_8 : decode cX7_fewestGuards 8 = .ok (.ifCond .ne 5, 3) := by decide +kernel
theorem dX7_fewestGuards_11 : decode cX7_fewestGuards 11 = .ok (.iconst (-1), 1) := by decide +kernel
theorem dX7_fewestGuards_12 : decode cX7_fewestGuards 12 = .ok (.ireturn, 1) := by decide +kernel
theorem dX7_fewestGuards_13 : decode cX7_fewestGuards 13 = .ok (.aload_n 0, 1) := by decide +kernel
theorem dX7_fewestGuards_14 : decode cX7_fewestGuards 14 = .ok (.getfield 10, 3) := by decide +kernel
theorem dX7_fewestGuards_17 : decode cX7_fewestGuards 17 = .ok (.getfield 92, 3) := by decide +kernel
theorem dX7_fewestGuards_20 : decode cX7_fewestGuards 20 = .ok (.aload_n 0, 1) := by decide +kernel
theorem dX7_fewestGuards_21 : decode cX7_fewestGuards 21 = .ok (.getfield 10, 3) := by decide +kernel
theorem dX7_fewestGuards_24 : decode cX7_fewestGuards 24 = .ok (.getfield 140, 3) := by decide +kernel
theorem dX7_fewestGuards_27 : decode cX7_fewestGuards 27 = .ok (.iload_n 1, 1) := by decide +kernel
theorem dX7_fewestGuards_28 : decode cX7_fewestGuards 28 = .ok (.aaload, 1) := by decide +kernel
theorem dX7_fewestGuards_29 : decode cX7_fewestGuards 29 = .ok (.getfield 144, 3) := by decide +kernel
theorem dX7_fewestGuards_32 : decode cX7_fewestGuards 32 = .ok (.iaload, 1) := by decide +kernel
theorem dX7_fewestGuards_33 : decode cX7_fewestGuards 33 = .ok (.istore_n 2, 1) := by decide +kernel
theorem dX7_fewestGuards_34 : decode cX7_fewestGuards 34 = .ok (.aload_n 0, 1) := by decide +kernel
theorem dX7_fewestGuards_35 : decode cX7_fewestGuards 35 = .ok (.getfield 10, 3) := by decide +kernel
theorem dX7_fewestGuards_38 : decode cX7_fewestGuards 38 = .ok (.getfield 92, 3) := by decide +kernel
theorem dX7_fewestGuards_41 : decode cX7_fewestGuards 41 = .ok (.aload_n 0, 1) := by decide +kernel
theorem dX7_fewestGuards_42 : decode cX7_fewestGuards 42 = .ok (.getfield 10, 3) := by decide +kernel
theorem dX7_fewestGuards_45 : decode cX7_fewestGuards 45 = .ok (.getfield 140, 3) := by decide +kernel
theorem dX7_fewestGuards_48 : decode cX7_fewestGuards 48 = .ok (.iload_n 1, 1) := by decide +kernel
theorem dX7_fewestGuards_49 : decode cX7_fewestGuards 49 = .ok (.aaload, 1) := by decide +kernel
theorem dX7_fewestGuards_50 : decode cX7_fewestGuards 50 = .ok (.getfield 149, 3) := by decide +kernel
theorem dX7_fewestGuards_53 : decode cX7_fewestGuards 53 = .ok (.iaload, 1) := by decide +kernel
theorem dX7_fewestGuards_54 : decode cX7_fewestGuards 54 = .ok (.istore_n 3, 1) := by decide +kernel
theorem dX7_fewestGuards_55 : decode cX7_fewestGuards 55 = .ok (.iconst 0, 1) := by decide +kernel
theorem dX7_fewestGuards_56 : decode cX7_fewestGuards 56 = .ok (.istore 4, 2) := by decide +kernel
theorem dX7_fewestGuards_58 : decode cX7_fewestGuards 58 = .ok (.iload 4, 2) := by decide +kernel
theorem dX7_fewestGuards_60 : decode cX7_fewestGuards 60 = .ok (.bipush 40, 2) := by decide +kernel
theorem dX7_fewestGuards_62 : decode cX7_fewestGuards 62 = .ok (.if_icmp .gt 51, 3) := by decide +kernel
theorem dX7_fewestGuards_65 : decode cX7_fewestGuards 65 = .ok (.aload_n 0, 1) := by decide +kernel
theorem dX7_fewestGuards_66 : decode cX7_fewestGuards 66 = .ok (.getfield 10, 3) := by decide +kernel
theorem dX7_fewestGuards_69 : decode cX7_fewestGuards 69 = .ok (.iload 4, 2) := by decide +kernel
theorem dX7_fewestGuards_71 : decode cX7_fewestGuards 71 = .ok (.invokevirtual 274, 3) := by decide +kernel
theorem dX7_fewestGuards_74 : decode cX7_fewestGuards 74 = .ok (.istore 5, 2) := by decide +kernel
theorem dX7_fewestGuards_76 : decode cX7_fewestGuards 76 = .ok (.iload_n 3, 1) := by decide +kernel
theorem dX7_fewestGuards_77 : decode cX7_fewestGuards 77 = .ok (.aload_n 0, 1) := by decide +kernel
theorem dX7_fewestGuards_78 : decode cX7_fewestGuards 78 = .ok (.getfield 10, 3) := by decide +kernel
theorem dX7_fewestGuards_81 : decode cX7_fewestGuards 81 = .ok (.iload_n 2, 1) := by decide +kernel
theorem dX7_fewestGuards_82 : decode cX7_fewestGuards 82 = .ok (.iload 5, 2) := by decide +kernel
theorem dX7_fewestGuards_84 : decode cX7_fewestGuards 84 = .ok (.invokevirtual 277, 3) := by decide +kernel
theorem dX7_fewestGuards_87 : decode cX7_fewestGuards 87 = .ok (.if_icmp .gt 20, 3) := by decide +kernel
theorem dX7_fewestGuards_90 : decode cX7_fewestGuards 90 = .ok (.iload_n 2, 1) := by decide +kernel
theorem dX7_fewestGuards_91 : decode cX7_fewestGuards 91 = .ok (.aload_n 0, 1) := by decide +kernel
theorem dX7_fewestGuards_92 : decode cX7_fewestGuards 92 = .ok (.getfield 10, 3) := by decide +kernel
theorem dX7_fewestGuards_95 : decode cX7_fewestGuards 95 = .ok (.iload_n 3, 1) := by decide +kernel
theorem dX7_fewestGuards_96 : decode cX7_fewestGuards 96 = .ok (.iload 5, 2) := by decide +kernel
theorem dX7_fewestGuards_98 : decode cX7_fewestGuards 98 = .ok (.invokevirtual 277, 3) := by decide +kernel
theorem dX7_fewestGuards_101 : decode cX7_fewestGuards 101 = .ok (.if_icmp .gt 6, 3) := by decide +kernel
theorem dX7_fewestGuards_104 : decode cX7_fewestGuards 104 = .ok (.iload 4, 2) := by decide +kernel
theorem dX7_fewestGuards_106 : decode cX7_fewestGuards 106 = .ok (.ireturn, 1) := by decide +kernel
theorem dX7_fewestGuards_107 : decode cX7_fewestGuards 107 = .ok (.iinc 4 1, 3) := by decide +kernel
theorem dX7_fewestGuards_110 : decode cX7_fewestGuards 110 = .ok (.goto (-52), 3) := by decide +kernel
theorem dX7_fewestGuards_113 : decode cX7_fewestGuards 113 = .ok (.bipush (-6), 2) := by decide +kernel
theorem dX7_fewestGuards_115 : decode cX7_fewestGuards 115 = .ok (.ireturn, 1) := by decide +kernel
theorem dX7_mostPrice_0 : decode cX7_mostPrice 0 = .ok (.iload_n 1, 1) := by decide +kernel
theorem dX7_mostPrice_1 : decode cX7_mostPrice 1 = .ok (.invokestatic 124, 3) := by decide +kernel
theorem dX7_mostPrice_4 : decode cX7_mostPrice 4 = .ok (.ifCond .ne 5, 3) := by decide +kernel
theorem dX7_mostPrice_7 : decode cX7_mostPrice 7 = .ok (.iconst (-1), 1) := by decide +kernel
theorem dX7_mostPrice_8 : decode cX7_mostPrice 8 = .ok (.ireturn, 1) := by decide +kernel
theorem dX7_mostPrice_9 : decode cX7_mostPrice 9 = .ok (.sipush 999, 3) := by decide +kernel
theorem dX7_mostPrice_12 : decode cX7_mostPrice 12 = .ok (.istore_n 2, 1) := by decide +kernel
theorem dX7_mostPrice_13 : decode cX7_mostPrice 13 = .ok (.iconst 0, 1) := by decide +kernel
theorem dX7_mostPrice_14 : decode cX7_mostPrice 14 = .ok (.istore_n 3, 1) := by decide +kernel
theorem dX7_mostPrice_15 : decode cX7_mostPrice 15 = .ok (.iload_n 3, 1) := by decide +kernel
theorem dX7_mostPrice_16 : decode cX7_mostPrice 16 = .ok (.aload_n 0, 1) := by decide +kernel
theorem dX7_mostPrice_17 : decode cX7_mostPrice 17 = .ok (.getfield 10, 3) := by decide +kernel
theorem dX7_mostPrice_20 : decode cX7_mostPrice 20 = .ok (.getfield 226, 3) := by decide +kernel
theorem dX7_mostPrice_23 : decode cX7_mostPrice 23 = .ok (.if_icmp .ge 57, 3) := by decide +kernel
theorem dX7_mostPrice_26 : decode cX7_mostPrice 26 = .ok (.aload_n 0, 1) := by decide +kernel
theorem dX7_mostPrice_27 : decode cX7_mostPrice 27 = .ok (.getfield 10, 3) := by decide +kernel
theorem dX7_mostPrice_30 : decode cX7_mostPrice 30 = .ok (.getfield 140, 3) := by decide +kernel
theorem dX7_mostPrice_33 : decode cX7_mostPrice 33 = .ok (.iload_n 3, 1) := by decide +kernel
theorem dX7_mostPrice_34 : decode cX7_mostPrice 34 = .ok (.aaload, 1) := by decide +kernel
theorem dX7_mostPrice_35 : decode cX7_mostPrice 35 = .ok (.astore 4, 2) := by decide +kernel
theorem dX7_mostPrice_37 : decode cX7_mostPrice 37 = .ok (.aload 4, 2) := by decide +kernel
theorem dX7_mostPrice_39 : decode cX7_mostPrice 39 = .ok (.iload_n 1, 1) := by decide +kernel
theorem dX7_mostPrice_40 : decode cX7_mostPrice 40 = .ok (.invokevirtual 280, 3) := by decide +kernel
theorem dX7_mostPrice_43 : decode cX7_mostPrice 43 = .ok (.ifCond .eq 31, 3) := by decide +kernel
theorem dX7_mostPrice_46 : decode cX7_mostPrice 46 = .ok (.iload_n 2, 1) := by decide +kernel
theorem dX7_mostPrice_47 : decode cX7_mostPrice 47 = .ok (.aload_n 0, 1) := by decide +kernel
theorem dX7_mostPrice_48 : decode cX7_mostPrice 48 = .ok (.getfield 10, 3) := by decide +kernel
theorem dX7_mostPrice_51 : decode cX7_mostPrice 51 = .ok (.aload 4, 2) := by decide +kernel
theorem dX7_mostPrice_53 : decode cX7_mostPrice 53 = .ok (.aload_n 0, 1) := by decide +kernel
theorem dX7_mostPrice_54 : decode cX7_mostPrice 54 = .ok (.getfield 10, 3) := by decide +kernel
theorem dX7_mostPrice_57 : decode cX7_mostPrice 57 = .ok (.getfield 92, 3) := by decide +kernel
theorem dX7_mostPrice_60 : decode cX7_mostPrice 60 = .ok (.aload 4, 2) := by decide +kernel
theorem dX7_mostPrice_62 : decode cX7_mostPrice 62 = .ok (.iload_n 1, 1) := by decide +kernel
theorem dX7_mostPrice_63 : decode cX7_mostPrice 63 = .ok (.invokevirtual 283, 3) := by decide +kernel
theorem dX7_mostPrice_66 : decode cX7_mostPrice 66 = .ok (.iaload, 1) := by decide +kernel
theorem dX7_mostPrice_67 : decode cX7_mostPrice 67 = .ok (.invokevirtual 286, 3) := by decide +kernel
theorem dX7_mostPrice_70 : decode cX7_mostPrice 70 = .ok (.invokestatic 290, 3) := by decide +kernel
theorem dX7_mostPrice_73 : decode cX7_mostPrice 73 = .ok (.istore_n 2, 1) := by decide +kernel
theorem dX7_mostPrice_74 : decode cX7_mostPrice 74 = .ok (.iinc 3 1, 3) := by decide +kernel
theorem dX7_mostPrice_77 : decode cX7_mostPrice 77 = .ok (.goto (-62), 3) := by decide +kernel
theorem dX7_mostPrice_80 : decode cX7_mostPrice 80 = .ok (.iload_n 2, 1) := by decide +kernel
theorem dX7_mostPrice_81 : decode cX7_mostPrice 81 = .ok (.ireturn, 1) := by decide +kernel
theorem dX7_ifHonest_0 : decode cX7_ifHonest 0 = .ok (.aload_n 0, 1) := by decide +kernel
theorem dX7_ifHonest_1 : decode cX7_ifHonest 1 = .ok (.invokevirtual 88, 3) := by decide +kernel
theorem dX7_ifHonest_4 : decode cX7_ifHonest 4 = .ok (.ireturn, 1) := by decide +kernel
theorem dX7_wouldHave_0 : decode cX7_wouldHave 0 = .ok (.aload_n 0, 1) := by decide +kernel
theorem dX7_wouldHave_1 : decode cX7_wouldHave 1 = .ok (.getfield 10, 3) := by decide +kernel
theorem dX7_wouldHave_4 : decode cX7_wouldHave 4 = .ok (.iload_n 1, 1) := by decide +kernel
theorem dX7_wouldHave_5 : decode cX7_wouldHave 5 = .ok (.invokevirtual 176, 3) := by decide +kernel
theorem dX7_wouldHave_8 : decode cX7_wouldHave 8 = .ok (.ifCond .eq 14, 3) := by decide +kernel
theorem dX7_wouldHave_11 : decode cX7_wouldHave 11 = .ok (.aload_n 0, 1) := by decide +kernel
theorem dX7_wouldHave_12 : decode cX7_wouldHave 12 = .ok (.getfield 10, 3) := by decide +kernel
theorem dX7_wouldHave_15 : decode cX7_wouldHave 15 = .ok (.iload_n 2, 1) := by decide +kernel
theorem dX7_wouldHave_16 : decode cX7_wouldHave 16 = .ok (.invokevirtual 137, 3) := by decide +kernel
theorem dX7_wouldHave_19 : decode cX7_wouldHave 19 = .ok (.ifCond .ne 5, 3) := by decide +kernel
theorem dX7_wouldHave_22 : decode cX7_wouldHave 22 = .ok (.iconst (-1), 1) := by decide +kernel
theorem dX7_wouldHave_23 : decode cX7_wouldHave 23 = .ok (.ireturn, 1) := by decide +kernel
theorem dX7_wouldHave_24 : decode cX7_wouldHave 24 = .ok (.iload_n 3, 1) := by decide +kernel
theorem dX7_wouldHave_25 : decode cX7_wouldHave 25 = .ok (.iconst 0, 1) := by decide +kernel
theorem dX7_wouldHave_26 : decode cX7_wouldHave 26 = .ok (.iconst 1, 1) := by decide +kernel
theorem dX7_wouldHave_27 : decode cX7_wouldHave 27 = .ok (.invokestatic 209, 3) := by decide +kernel
theorem dX7_wouldHave_30 : decode cX7_wouldHave 30 = .ok (.ifCond .eq 6, 3) := by decide +kernel
theorem dX7_wouldHave_33 : decode cX7_wouldHave 33 = .ok (.bipush (-2), 2) := by decide +kernel
theorem dX7_wouldHave_35 : decode cX7_wouldHave 35 = .ok (.ireturn, 1) := by decide +kernel
theorem dX7_wouldHave_36 : decode cX7_wouldHave 36 = .ok (.aload_n 0, 1) := by decide +kernel
theorem dX7_wouldHave_37 : decode cX7_wouldHave 37 = .ok (.getfield 10, 3) := by decide +kernel
theorem dX7_wouldHave_40 : decode cX7_wouldHave 40 = .ok (.getfield 179, 3) := by decide +kernel
theorem dX7_wouldHave_43 : decode cX7_wouldHave 43 = .ok (.iload_n 1, 1) := by decide +kernel
theorem dX7_wouldHave_44 : decode cX7_wouldHave 44 = .ok (.aaload, 1) := by decide +kernel
theorem dX7_wouldHave_45 : decode cX7_wouldHave 45 = .ok (.astore 4, 2) := by decide +kernel
theorem dX7_wouldHave_47 : decode cX7_wouldHave 47 = .ok (.aload_n 0, 1) := by decide +kernel
theorem dX7_wouldHave_48 : decode cX7_wouldHave 48 = .ok (.getfield 10, 3) := by decide +kernel
theorem dX7_wouldHave_51 : decode cX7_wouldHave 51 = .ok (.getfield 140, 3) := by decide +kernel
theorem dX7_wouldHave_54 : decode cX7_wouldHave 54 = .ok (.iload_n 2, 1) := by decide +kernel
theorem dX7_wouldHave_55 : decode cX7_wouldHave 55 = .ok (.aaload, 1) := by decide +kernel
theorem dX7_wouldHave_56 : decode cX7_wouldHave 56 = .ok (.astore 5, 2) := by decide +kernel
theorem dX7_wouldHave_58 : decode cX7_wouldHave 58 = .ok (.aload 5, 2) := by decide +kernel
theorem dX7_wouldHave_60 : decode cX7_wouldHave 60 = .ok (.aload 4, 2) := by decide +kernel
theorem dX7_wouldHave_62 : decode cX7_wouldHave 62 = .ok (.getfield 183, 3) := by decide +kernel
theorem dX7_wouldHave_65 : decode cX7_wouldHave 65 = .ok (.invokevirtual 280, 3) := by decide +kernel
theorem dX7_wouldHave_68 : decode cX7_wouldHave 68 = .ok (.ifCond .ne 6, 3) := by decide +kernel
theorem dX7_wouldHave_71 : decode cX7_wouldHave 71 = .ok (.bipush (-5), 2) := by decide +kernel
theorem dX7_wouldHave_73 : decode cX7_wouldHave 73 = .ok (.ireturn, 1) := by decide +kernel
theorem dX7_wouldHave_74 : decode cX7_wouldHave 74 = .ok (.iload_n 3, 1) := by decide +kernel
theorem dX7_wouldHave_75 : decode cX7_wouldHave 75 = .ok (.iconst 1, 1) := by decide +kernel
theorem dX7_wouldHave_76 : decode cX7_wouldHave 76 = .ok (.if_icmp .ne 19, 3) := by decide +kernel
theorem dX7_wouldHave_79 : decode cX7_wouldHave 79 = .ok (.aload 4, 2) := by decide +kernel
theorem dX7_wouldHave_81 : decode cX7_wouldHave 81 = .ok (.getfield 186, 3) := by decide +kernel
theorem dX7_wouldHave_84 : decode cX7_wouldHave 84 = .ok (.aload_n 0, 1) := by decide +kernel
theorem dX7_wouldHave_85 : decode cX7_wouldHave 85 = .ok (.getfield 10, 3) := by decide +kernel
theorem dX7_wouldHave_88 : decode cX7_wouldHave 88 = .ok (.aload 4, 2) := by decide +kernel
theorem dX7_wouldHave_90 : decode cX7_wouldHave 90 = .ok (.invokevirtual 295, 3) := by decide +kernel
theorem dX7_wouldHave_93 : decode cX7_wouldHave 93 = .ok (.isub, 1) := by decide +kernel
theorem dX7_wouldHave_94 : decode cX7_wouldHave 94 = .ok (.ireturn, 1) := by decide +kernel
theorem dX7_wouldHave_95 : decode cX7_wouldHave 95 = .ok (.aload 4, 2) := by decide +kernel
theorem dX7_wouldHave_97 : decode cX7_wouldHave 97 = .ok (.getfield 186, 3) := by decide +kernel
theorem dX7_wouldHave_100 : decode cX7_wouldHave 100 = .ok (.aload 4, 2) := by decide +kernel
theorem dX7_wouldHave_102 : decode cX7_wouldHave 102 = .ok (.getfield 189, 3) := by decide +kernel
theorem dX7_wouldHave_105 : decode cX7_wouldHave 105 = .ok (.aload_n 0, 1) := by decide +kernel
theorem dX7_wouldHave_106 : decode cX7_wouldHave 106 = .ok (.getfield 10, 3) := by decide +kernel
theorem dX7_wouldHave_109 : decode cX7_wouldHave 109 = .ok (.getfield 92, 3) := by decide +kernel
theorem dX7_wouldHave_112 : decode cX7_wouldHave 112 = .ok (.aload 5, 2) := by decide +kernel
theorem dX7_wouldHave_114 : decode cX7_wouldHave 114 = .ok (.aload 4, 2) := by decide +kernel
theorem dX7_wouldHave_116 : decode cX7_wouldHave 116 = .ok (.getfield 183, 3) := by decide +kernel
theorem dX7_wouldHave_119 : decode cX7_wouldHave 119 = .ok (.invokevirtual 283, 3) := by decide +kernel
theorem dX7_wouldHave_122 : decode cX7_wouldHave 122 = .ok (.iaload, 1) := by decide +kernel
theorem dX7_wouldHave_123 : decode cX7_wouldHave 123 = .ok (.imul, 1) := by decide +kernel
theorem dX7_wouldHave_124 : decode cX7_wouldHave 124 = .ok (.iadd, 1) := by decide +kernel
theorem dX7_wouldHave_125 : decode cX7_wouldHave 125 = .ok (.ireturn, 1) := by decide +kernel
theorem dX7_put_0 : decode cX7_put 0 = .ok (.lload_n 1, 1) := by decide +kernel
theorem dX7_put_1 : decode cX7_put 1 = .ok (.invokestatic 299, 3) := by decide +kernel
theorem dX7_put_4 : decode cX7_put 4 = .ok (.istore_n 3, 1) := by decide +kernel
theorem dX7_put_5 : decode cX7_put 5 = .ok (.iload_n 3, 1) := by decide +kernel
theorem dX7_put_6 : decode cX7_put 6 = .ok (.ifCond .ne 6, 3) := by decide +kernel
theorem dX7_put_9 : decode cX7_put 9 = .ok (.bipush (-2), 2) := by decide +kernel
theorem dX7_put_11 : decode cX7_put 11 = .ok (.ireturn, 1) := by decide +kernel
theorem dX7_put_12 : decode cX7_put 12 = .ok (.aload_n 0, 1) := by decide +kernel
theorem dX7_put_13 : decode cX7_put 13 = .ok (.getfield 34, 3) := by decide +kernel
theorem dX7_put_16 : decode cX7_put 16 = .ok (.getfield 113, 3) := by decide +kernel
theorem dX7_put_19 : decode cX7_put 19 = .ok (.iload_n 3, 1) := by decide +kernel
theorem dX7_put_20 : decode cX7_put 20 = .ok (.iadd, 1) := by decide +kernel
theorem dX7_put_21 : decode cX7_put 21 = .ok (.bipush 80, 2) := by decide +kernel
theorem dX7_put_23 : decode cX7_put 23 = .ok (.if_icmp .le 6, 3) := by decide +kernel
theorem dX7_put_26 : decode cX7_put 26 = .ok (.bipush (-4), 2) := by decide +kernel
theorem dX7_put_28 : decode cX7_put 28 = .ok (.ireturn, 1) := by decide +kernel
theorem dX7_put_29 : decode cX7_put 29 = .ok (.iload_n 3, 1) := by decide +kernel
theorem dX7_put_30 : decode cX7_put 30 = .ok (.iconst 1, 1) := by decide +kernel
theorem dX7_put_31 : decode cX7_put 31 = .ok (.isub, 1) := by decide +kernel
theorem dX7_put_32 : decode cX7_put 32 = .ok (.istore 4, 2) := by decide +kernel
theorem dX7_put_34 : decode cX7_put 34 = .ok (.iload 4, 2) := by decide +kernel
theorem dX7_put_36 : decode cX7_put 36 = .ok (.ifCond .lt 28, 3) := by decide +kernel
theorem dX7_put_39 : decode cX7_put 39 = .ok (.aload_n 0, 1) := by decide +kernel
theorem dX7_put_40 : decode cX7_put 40 = .ok (.getfield 34, 3) := by decide +kernel
theorem dX7_put_43 : decode cX7_put 43 = .ok (.lload_n 1, 1) := by decide +kernel
theorem dX7_put_44 : decode cX7_put 44 = .ok (.bipush 8, 2) := by decide +kernel
theorem dX7_put_46 : decode cX7_put 46 = .ok (.iload 4, 2) := by decide +kernel
theorem dX7_put_48 : decode cX7_put 48 = .ok (.imul, 1) := by decide +kernel
theorem dX7_put_49 : decode cX7_put 49 = .ok (.lushr, 1) := by decide +kernel
theorem dX7_put_50 : decode cX7_put 50 = .ok (.l2i, 1) := by decide +kernel
theorem dX7_put_51 : decode cX7_put 51 = .ok (.sipush 255, 3) := by decide +kernel
theorem dX7_put_54 : decode cX7_put 54 = .ok (.iand, 1) := by decide +kernel
theorem dX7_put_55 : decode cX7_put 55 = .ok (.invokevirtual 117, 3) := by decide +kernel
theorem dX7_put_58 : decode cX7_put 58 = .ok (.iinc 4 (-1), 3) := by decide +kernel
theorem dX7_put_61 : decode cX7_put 61 = .ok (.goto (-27), 3) := by decide +kernel
theorem dX7_put_64 : decode cX7_put 64 = .ok (.aload_n 0, 1) := by decide +kernel
theorem dX7_put_65 : decode cX7_put 65 = .ok (.getfield 34, 3) := by decide +kernel
theorem dX7_put_68 : decode cX7_put 68 = .ok (.getfield 113, 3) := by decide +kernel
theorem dX7_put_71 : decode cX7_put 71 = .ok (.ireturn, 1) := by decide +kernel
theorem dX7_wipe_0 : decode cX7_wipe 0 = .ok (.aload_n 0, 1) := by decide +kernel
theorem dX7_wipe_1 : decode cX7_wipe 1 = .ok (.getfield 34, 3) := by decide +kernel
theorem dX7_wipe_4 : decode cX7_wipe 4 = .ok (.getfield 113, 3) := by decide +kernel
theorem dX7_wipe_7 : decode cX7_wipe 7 = .ok (.istore_n 1, 1) := by decide +kernel
theorem dX7_wipe_8 : decode cX7_wipe 8 = .ok (.aload_n 0, 1) := by decide +kernel
theorem dX7_wipe_9 : decode cX7_wipe 9 = .ok (.getfield 34, 3) := by decide +kernel
theorem dX7_wipe_12 : decode cX7_wipe 12 = .ok (.iconst 0, 1) := by decide +kernel
theorem dX7_wipe_13 : decode cX7_wipe 13 = .ok (.putfield 113, 3) := by decide +kernel
theorem dX7_wipe_16 : decode cX7_wipe 16 = .ok (.iload_n 1, 1) := by decide +kernel
theorem dX7_wipe_17 : decode cX7_wipe 17 = .ok (.ireturn, 1) := by decide +kernel
theorem dX7_fault_0 : decode cX7_fault 0 = .ok (.aload_n 0, 1) := by decide +kernel
theorem dX7_fault_1 : decode cX7_fault 1 = .ok (.getfield 43, 3) := by decide +kernel
theorem dX7_fault_4 : decode cX7_fault 4 = .ok (.invokevirtual 303, 3) := by decide +kernel
theorem dX7_fault_7 : decode cX7_fault 7 = .ok (.ireturn, 1) := by decide +kernel
theorem dX7_carryOut_0 : decode cX7_carryOut 0 = .ok (.aload_n 0, 1) := by decide +kernel
theorem dX7_carryOut_1 : decode cX7_carryOut 1 = .ok (.getfield 43, 3) := by decide +kernel
theorem dX7_carryOut_4 : decode cX7_carryOut 4 = .ok (.invokevirtual 303, 3) := by decide +kernel
theorem dX7_carryOut_7 : decode cX7_carryOut 7 = .ok (.bipush (-6), 2) := by decide +kernel
theorem dX7_carryOut_9 : decode cX7_carryOut 9 = .ok (.if_icmp .eq 6, 3) := by decide +kernel
theorem dX7_carryOut_12 : decode cX7_carryOut 12 = .ok (.bipush (-3), 2) := by decide +kernel
theorem dX7_carryOut_14 : decode cX7_carryOut 14 = .ok (.ireturn, 1) := by decide +kernel
theorem dX7_carryOut_15 : decode cX7_carryOut 15 = .ok (.aload_n 0, 1) := by decide +kernel
theorem dX7_carryOut_16 : decode cX7_carryOut 16 = .ok (.getfield 19, 3) := by decide +kernel
theorem dX7_carryOut_19 : decode cX7_carryOut 19 = .ok (.aload_n 0, 1) := by decide +kernel
theorem dX7_carryOut_20 : decode cX7_carryOut 20 = .ok (.getfield 10, 3) := by decide +kernel
theorem dX7_carryOut_23 : decode cX7_carryOut 23 = .ok (.invokevirtual 63, 3) := by decide +kernel
theorem dX7_carryOut_26 : decode cX7_carryOut 26 = .ok (.aload_n 0, 1) := by decide +kernel
theorem dX7_carryOut_27 : decode cX7_carryOut 27 = .ok (.getfield 43, 3) := by decide +kernel
theorem dX7_carryOut_30 : decode cX7_carryOut 30 = .ok (.iconst 0, 1) := by decide +kernel
theorem dX7_carryOut_31 : decode cX7_carryOut 31 = .ok (.putfield 306, 3) := by decide +kernel
theorem dX7_carryOut_34 : decode cX7_carryOut 34 = .ok (.iconst 0, 1) := by decide +kernel
theorem dX7_carryOut_35 : decode cX7_carryOut 35 = .ok (.istore_n 1, 1) := by decide +kernel
theorem dX7_carryOut_36 : decode cX7_carryOut 36 = .ok (.iload_n 1, 1) := by decide +kernel
theorem dX7_carryOut_37 : decode cX7_carryOut 37 = .ok (.bipush 80, 2) := by decide +kernel
theorem dX7_carryOut_39 : decode cX7_carryOut 39 = .ok (.if_icmp .ge 36, 3) := by decide +kernel
theorem dX7_carryOut_42 : decode cX7_carryOut 42 = .ok (.aload_n 0, 1) := by decide +kernel
theorem dX7_carryOut_43 : decode cX7_carryOut 43 = .ok (.getfield 43, 3) := by decide +kernel
theorem dX7_carryOut_46 : decode cX7_carryOut 46 = .ok (.invokevirtual 309, 3) := by decide +kernel
theorem dX7_carryOut_49 : decode cX7_carryOut 49 = .ok (.ifCond .eq 26, 3) := by decide +kernel
theorem dX7_carryOut_52 : decode cX7_carryOut 52 = .ok (.aload_n 0, 1) := by decide +kernel
theorem dX7_carryOut_53 : decode cX7_carryOut 53 = .ok (.invokevirtual 312, 3) := by decide +kernel
theorem dX7_carryOut_56 : decode cX7_carryOut 56 = .ok (.ifCond .lt 19, 3) := by decide +kernel
theorem dX7_carryOut_59 : decode cX7_carryOut 59 = .ok (.iinc 1 1, 3) := by decide +kernel
theorem dX7_carryOut_62 : decode cX7_carryOut 62 = .ok (.aload_n 0, 1) := by decide +kernel
theorem dX7_carryOut_63 : decode cX7_carryOut 63 = .ok (.getfield 43, 3) := by decide +kernel
theorem dX7_carryOut_66 : decode cX7_carryOut 66 = .ok (.bipush 59, 2) := by decide +kernel
theorem dX7_carryOut_68 : decode cX7_carryOut 68 = .ok (.invokevirtual 315, 3) := by decide +kernel
theorem dX7_carryOut_71 : decode cX7_carryOut 71 = .ok (.pop, 1) := by decide +kernel
theorem dX7_carryOut_72 : decode cX7_carryOut 72 = .ok (.goto (-36), 3) := by decide +kernel
theorem dX7_carryOut_75 : decode cX7_carryOut 75 = .ok (.aload_n 0, 1) := by decide +kernel
theorem dX7_carryOut_76 : decode cX7_carryOut 76 = .ok (.getfield 34, 3) := by decide +kernel
theorem dX7_carryOut_79 : decode cX7_carryOut 79 = .ok (.iconst 0, 1) := by decide +kernel
theorem dX7_carryOut_80 : decode cX7_carryOut 80 = .ok (.putfield 113, 3) := by decide +kernel
theorem dX7_carryOut_83 : decode cX7_carryOut 83 = .ok (.aload_n 0, 1) := by decide +kernel
theorem dX7_carryOut_84 : decode cX7_carryOut 84 = .ok (.iload_n 1, 1) := by decide +kernel
theorem dX7_carryOut_85 : decode cX7_carryOut 85 = .ok (.invokevirtual 71, 3) := by decide +kernel
theorem dX7_carryOut_88 : decode cX7_carryOut 88 = .ok (.ireturn, 1) := by decide +kernel
theorem dX7_undo_0 : decode cX7_undo 0 = .ok (.aload_n 0, 1) := by decide +kernel
theorem dX7_undo_1 : decode cX7_undo 1 = .ok (.getfield 19, 3) := by decide +kernel
theorem dX7_undo_4 : decode cX7_undo 4 = .ok (.getfield 263, 3) := by decide +kernel
theorem dX7_undo_7 : decode cX7_undo 7 = .ok (.ifCond .ne 6, 3) := by decide +kernel
theorem dX7_undo_10 : decode cX7_undo 10 = .ok (.bipush (-5), 2) := by decide +kernel
theorem dX7_undo_12 : decode cX7_undo 12 = .ok (.ireturn, 1) := by decide +kernel
theorem dX7_undo_13 : decode cX7_undo 13 = .ok (.aload_n 0, 1) := by decide +kernel
theorem dX7_undo_14 : decode cX7_undo 14 = .ok (.getfield 19, 3) := by decide +kernel
theorem dX7_undo_17 : decode cX7_undo 17 = .ok (.aload_n 0, 1) := by decide +kernel
theorem dX7_undo_18 : decode cX7_undo 18 = .ok (.getfield 10, 3) := by decide +kernel
theorem dX7_undo_21 : decode cX7_undo 21 = .ok (.invokevirtual 318, 3) := by decide +kernel
theorem dX7_undo_24 : decode cX7_undo 24 = .ok (.aload_n 0, 1) := by decide +kernel
theorem dX7_undo_25 : decode cX7_undo 25 = .ok (.getfield 19, 3) := by decide +kernel
theorem dX7_undo_28 : decode cX7_undo 28 = .ok (.getfield 263, 3) := by decide +kernel
theorem dX7_undo_31 : decode cX7_undo 31 = .ok (.ireturn, 1) := by decide +kernel
theorem dX7_save_0 : decode cX7_save 0 = .ok (.iload_n 1, 1) := by decide +kernel
theorem dX7_save_1 : decode cX7_save 1 = .ok (.iconst 0, 1) := by decide +kernel
theorem dX7_save_2 : decode cX7_save 2 = .ok (.iconst 1, 1) := by decide +kernel
theorem dX7_save_3 : decode cX7_save 3 = .ok (.invokestatic 209, 3) := by decide +kernel
theorem dX7_save_6 : decode cX7_save 6 = .ok (.ifCond .eq 6, 3) := by decide +kernel
theorem dX7_save_9 : decode cX7_save 9 = .ok (.bipush (-2), 2) := by decide +kernel
theorem dX7_save_11 : decode cX7_save 11 = .ok (.ireturn, 1) := by decide +kernel
theorem dX7_save_12 : decode cX7_save 12 = .ok (.aload_n 0, 1) := by decide +kernel
theorem dX7_save_13 : decode cX7_save 13 = .ok (.getfield 23, 3) := by decide +kernel
theorem dX7_save_16 : decode cX7_save 16 = .ok (.iload_n 1, 1) := by decide +kernel
theorem dX7_save_17 : decode cX7_save 17 = .ok (.aaload, 1) := by decide +kernel
theorem dX7_save_18 : decode cX7_save 18 = .ok (.aload_n 0, 1) := by decide +kernel
theorem dX7_save_19 : decode cX7_save 19 = .ok (.getfield 10, 3) := by decide +kernel
theorem dX7_save_22 : decode cX7_save 22 = .ok (.invokevirtual 321, 3) := by decide +kernel
theorem dX7_save_25 : decode cX7_save 25 = .ok (.aload_n 0, 1) := by decide +kernel
theorem dX7_save_26 : decode cX7_save 26 = .ok (.getfield 27, 3) := by decide +kernel
theorem dX7_save_29 : decode cX7_save 29 = .ok (.iload_n 1, 1) := by decide +kernel
theorem dX7_save_30 : decode cX7_save 30 = .ok (.iconst 1, 1) := by decide +kernel
theorem dX7_save_31 : decode cX7_save 31 = .ok (.bastore, 1) := by decide +kernel
theorem dX7_save_32 : decode cX7_save 32 = .ok (.aload_n 0, 1) := by decide +kernel
theorem dX7_save_33 : decode cX7_save 33 = .ok (.getfield 10, 3) := by decide +kernel
theorem dX7_save_36 : decode cX7_save 36 = .ok (.getfield 229, 3) := by decide +kernel
theorem dX7_save_39 : decode cX7_save 39 = .ok (.ireturn, 1) := by decide +kernel
theorem dX7_restore_0 : decode cX7_restore 0 = .ok (.iload_n 1, 1) := by decide +kernel
theorem dX7_restore_1 : decode cX7_restore 1 = .ok (.iconst 0, 1) := by decide +kernel
theorem dX7_restore_2 : decode cX7_restore 2 = .ok (.iconst 1, 1) := by decide +kernel
theorem dX7_restore_3 : decode cX7_restore 3 = .ok (.invokestatic 209, 3) := by decide +kernel
theorem dX7_restore_6 : decode cX7_restore 6 = .ok (.ifCond .eq 6, 3) := by decide +kernel
theorem dX7_restore_9 : decode cX7_restore 9 = .ok (.bipush (-2), 2) := by decide +kernel
theorem dX7_restore_11 : decode cX7_restore 11 = .ok (.ireturn, 1) := by decide +kernel
theorem dX7_restore_12 : decode cX7_restore 12 = .ok (.aload_n 0, 1) := by decide +kernel
theorem dX7_restore_13 : decode cX7_restore 13 = .ok (.getfield 27, 3) := by decide +kernel
theorem dX7_restore_16 : decode cX7_restore 16 = .ok (.iload_n 1, 1) := by decide +kernel
theorem dX7_restore_17 : decode cX7_restore 17 = .ok (.baload, 1) := by decide +kernel
theorem dX7_restore_18 : decode cX7_restore 18 = .ok (.ifCond .ne 6, 3) := by decide +kernel
theorem dX7_restore_21 : decode cX7_restore 21 = .ok (.bipush (-5), 2) := by decide +kernel
theorem dX7_restore_23 : decode cX7_restore 23 = .ok (.ireturn, 1) := by decide +kernel
theorem dX7_restore_24 : decode cX7_restore 24 = .ok (.aload_n 0, 1) := by decide +kernel
theorem dX7_restore_25 : decode cX7_restore 25 = .ok (.getfield 19, 3) := by decide +kernel
theorem dX7_restore_28 : decode cX7_restore 28 = .ok (.aload_n 0, 1) := by decide +kernel
theorem dX7_restore_29 : decode cX7_restore 29 = .ok (.getfield 10, 3) := by decide +kernel
theorem dX7_restore_32 : decode cX7_restore 32 = .ok (.invokevirtual 63, 3) := by decide +kernel
theorem dX7_restore_35 : decode cX7_restore 35 = .ok (.aload_n 0, 1) := by decide +kernel
theorem dX7_restore_36 : decode cX7_restore 36 = .ok (.getfield 10, 3) := by decide +kernel
theorem dX7_restore_39 : decode cX7_restore 39 = .ok (.aload_n 0, 1) := by decide +kernel
theorem dX7_restore_40 : decode cX7_restore 40 = .ok (.getfield 23, 3) := by decide +kernel
theorem dX7_restore_43 : decode cX7_restore 43 = .ok (.iload_n 1, 1) := by decide +kernel
theorem dX7_restore_44 : decode cX7_restore 44 = .ok (.aaload, 1) := by decide +kernel
theorem dX7_restore_45 : decode cX7_restore 45 = .ok (.invokevirtual 321, 3) := by decide +kernel
theorem dX7_restore_48 : decode cX7_restore 48 = .ok (.aload_n 0, 1) := by decide +kernel
theorem dX7_restore_49 : decode cX7_restore 49 = .ok (.aload_n 0, 1) := by decide +kernel
theorem dX7_restore_50 : decode cX7_restore 50 = .ok (.getfield 10, 3) := by decide +kernel
theorem dX7_restore_53 : decode cX7_restore 53 = .ok (.getfield 229, 3) := by decide +kernel
theorem dX7_restore_56 : decode cX7_restore 56 = .ok (.invokevirtual 71, 3) := by decide +kernel
theorem dX7_restore_59 : decode cX7_restore 59 = .ok (.ireturn, 1) := by decide +kernel
theorem dX7_isOutside_0 : decode cX7_isOutside 0 = .ok (.iload_n 0, 1) := by decide +kernel
theorem dX7_isOutside_1 : decode cX7_isOutside 1 = .ok (.iload_n 1, 1) := by decide +kernel
theorem dX7_isOutside_2 : decode cX7_isOutside 2 = .ok (.if_icmp .lt 8, 3) := by decide +kernel
theorem dX7_isOutside_5 : decode cX7_isOutside 5 = .ok (.iload_n 0, 1) := by decide +kernel
theorem dX7_isOutside_6 : decode cX7_isOutside 6 = .ok (.iload_n 2, 1) := by decide +kernel
theorem dX7_isOutside_7 : decode cX7_isOutside 7 = .ok (.if_icmp .le 7, 3) := by decide +kernel
theorem dX7_isOutside_10 : decode cX7_isOutside 10 = .ok (.iconst 1, 1) := by decide +kernel
theorem dX7_isOutside_11 : decode cX7_isOutside 11 = .ok (.goto 4, 3) := by decide +kernel
theorem dX7_isOutside_14 : decode cX7_isOutside 14 = .ok (.iconst 0, 1) := by decide +kernel
theorem dX7_isOutside_15 : decode cX7_isOutside 15 = .ok (.ireturn, 1) := by decide +kernel
theorem dX7_isTown_0 : decode cX7_isTown 0 = .ok (.iload_n 0, 1) := by decide +kernel
theorem dX7_isTown_1 : decode cX7_isTown 1 = .ok (.iconst 0, 1) := by decide +kernel
theorem dX7_isTown_2 : decode cX7_isTown 2 = .ok (.bipush 7, 2) := by decide +kernel
theorem dX7_isTown_4 : decode cX7_isTown 4 = .ok (.invokestatic 209, 3) := by decide +kernel
theorem dX7_isTown_7 : decode cX7_isTown 7 = .ok (.ifCond .ne 7, 3) := by decide +kernel
theorem dX7_isTown_10 : decode cX7_isTown 10 = .ok (.iconst 1, 1) := by decide +kernel
theorem dX7_isTown_11 : decode cX7_isTown 11 = .ok (.goto 4, 3) := by decide +kernel
theorem dX7_isTown_14 : decode cX7_isTown 14 = .ok (.iconst 0, 1) := by decide +kernel
theorem dX7_isTown_15 : decode cX7_isTown 15 = .ok (.ireturn, 1) := by decide +kernel
theorem dX7_bit_0 : decode cX7_bit 0 = .ok (.iload_n 0, 1) := by decide +kernel
theorem dX7_bit_1 : decode cX7_bit 1 = .ok (.ifCond .eq 7, 3) := by decide +kernel
theorem dX7_bit_4 : decode cX7_bit 4 = .ok (.iconst 1, 1) := by decide +kernel
theorem dX7_bit_5 : decode cX7_bit 5 = .ok (.goto 4, 3) := by decide +kernel
theorem dX7_bit_8 : decode cX7_bit 8 = .ok (.iconst 0, 1) := by decide +kernel
theorem dX7_bit_9 : decode cX7_bit 9 = .ok (.ireturn, 1) := by decide +kernel
theorem dX7_recorded_0 : decode cX7_recorded 0 = .ok (.iload_n 1, 1) := by decide +kernel
theorem dX7_recorded_1 : decode cX7_recorded 1 = .ok (.ifCond .lt 10, 3) := by decide +kernel
theorem dX7_recorded_4 : decode cX7_recorded 4 = .ok (.aload_n 0, 1) := by decide +kernel
theorem dX7_recorded_5 : decode cX7_recorded 5 = .ok (.getfield 19, 3) := by decide +kernel
theorem dX7_recorded_8 : decode cX7_recorded 8 = .ok (.invokevirtual 324, 3) := by decide +kernel
theorem dX7_recorded_11 : decode cX7_recorded 11 = .ok (.iload_n 1, 1) := by decide +kernel
theorem dX7_recorded_12 : decode cX7_recorded 12 = .ok (.ireturn, 1) := by decide +kernel
theorem dX7_findHonestPrices_0 : decode cX7_findHonestPrices 0 = .ok (.aload_n 0, 1) := by decide +kernel
theorem dX7_findHonestPrices_1 : decode cX7_findHonestPrices 1 = .ok (.getfield 10, 3) := by decide +kernel
theorem dX7_findHonestPrices_4 : decode cX7_findHonestPrices 4 = .ok (.getfield 92, 3) := by decide +kernel
theorem dX7_findHonestPrices_7 : decode cX7_findHonestPrices 7 = .ok (.iconst 0, 1) := by decide +kernel
theorem dX7_findHonestPrices_8 : decode cX7_findHonestPrices 8 = .ok (.aload_n 0, 1) := by decide +kernel
theorem dX7_findHonestPrices_9 : decode cX7_findHonestPrices 9 = .ok (.getfield 59, 3) := by decide +kernel
theorem dX7_findHonestPrices_12 : decode cX7_findHonestPrices 12 = .ok (.iconst 0, 1) := by decide +kernel
theorem dX7_findHonestPrices_13 : decode cX7_findHonestPrices 13 = .ok (.bipush 8, 2) := by decide +kernel
theorem dX7_findHonestPrices_15 : decode cX7_findHonestPrices 15 = .ok (.invokestatic 95, 3) := by decide +kernel
theorem dX7_findHonestPrices_18 : decode cX7_findHonestPrices 18 = .ok (.iconst 0, 1) := by decide +kernel
theorem dX7_findHonestPrices_19 : decode cX7_findHonestPrices 19 = .ok (.istore_n 1, 1) := by decide +kernel
theorem dX7_findHonestPrices_20 : decode cX7_findHonestPrices 20 = .ok (.iload_n 1, 1) := by decide +kernel
theorem dX7_findHonestPrices_21 : decode cX7_findHonestPrices 21 = .ok (.bipush 8, 2) := by decide +kernel
theorem dX7_findHonestPrices_23 : decode cX7_findHonestPrices 23 = .ok (.if_icmp .ge 64, 3) := by decide +kernel
theorem dX7_findHonestPrices_26 : decode cX7_findHonestPrices 26 = .ok (.iconst 0, 1) := by decide +kernel
theorem dX7_findHonestPrices_27 : decode cX7_findHonestPrices 27 = .ok (.istore_n 2, 1) := by decide +kernel
theorem dX7_findHonestPrices_28 : decode cX7_findHonestPrices 28 = .ok (.iload_n 2, 1) := by decide +kernel
theorem dX7_findHonestPrices_29 : decode cX7_findHonestPrices 29 = .ok (.aload_n 0, 1) := by decide +kernel
theorem dX7_findHonestPrices_30 : decode cX7_findHonestPrices 30 = .ok (.getfield 10, 3) := by decide +kernel
theorem dX7_findHonestPrices_33 : decode cX7_findHonestPrices 33 = .ok (.getfield 226, 3) := by decide +kernel
theorem dX7_findHonestPrices_36 : decode cX7_findHonestPrices 36 = .ok (.if_icmp .ge 45, 3) := by decide +kernel
theorem dX7_findHonestPrices_39 : decode cX7_findHonestPrices 39 = .ok (.aload_n 0, 1) := by decide +kernel
theorem dX7_findHonestPrices_40 : decode cX7_findHonestPrices 40 = .ok (.getfield 10, 3) := by decide +kernel
theorem dX7_findHonestPrices_43 : decode cX7_findHonestPrices 43 = .ok (.getfield 140, 3) := by decide +kernel
theorem dX7_findHonestPrices_46 : decode cX7_findHonestPrices 46 = .ok (.iload_n 2, 1) := by decide +kernel
theorem dX7_findHonestPrices_47 : decode cX7_findHonestPrices 47 = .ok (.aaload, 1) := by decide +kernel
theorem dX7_findHonestPrices_48 : decode cX7_findHonestPrices 48 = .ok (.astore_n 3, 1) := by decide +kernel
theorem dX7_findHonestPrices_49 : decode cX7_findHonestPrices 49 = .ok (.aload_n 0, 1) := by decide +kernel
theorem dX7_findHonestPrices_50 : decode cX7_findHonestPrices 50 = .ok (.aload_n 3, 1) := by decide +kernel
theorem dX7_findHonestPrices_51 : decode cX7_findHonestPrices 51 = .ok (.aload_n 3, 1) := by decide +kernel
theorem dX7_findHonestPrices_52 : decode cX7_findHonestPrices 52 = .ok (.getfield 144, 3) := by decide +kernel
theorem dX7_findHonestPrices_55 : decode cX7_findHonestPrices 55 = .ok (.aload_n 3, 1) := by decide +kernel
theorem dX7_findHonestPrices_56 : decode cX7_findHonestPrices 56 = .ok (.getfield 149, 3) := by decide +kernel
theorem dX7_findHonestPrices_59 : decode cX7_findHonestPrices 59 = .ok (.invokevirtual 327, 3) := by decide +kernel
theorem dX7_findHonestPrices_62 : decode cX7_findHonestPrices 62 = .ok (.aload_n 0, 1) := by decide +kernel
theorem dX7_findHonestPrices_63 : decode cX7_findHonestPrices 63 = .ok (.aload_n 3, 1) := by decide +kernel
theorem dX7_findHonestPrices_64 : decode cX7_findHonestPrices 64 = .ok (.aload_n 3, 1) := by decide +kernel
theorem dX7_findHonestPrices_65 : decode cX7_findHonestPrices 65 = .ok (.getfield 149, 3) := by decide +kernel
theorem dX7_findHonestPrices_68 : decode cX7_findHonestPrices 68 = .ok (.aload_n 3, 1) := by decide +kernel
theorem dX7_findHonestPrices_69 : decode cX7_findHonestPrices 69 = .ok (.getfield 144, 3) := by decide +kernel
theorem dX7_findHonestPrices_72 : decode cX7_findHonestPrices 72 = .ok (.invokevirtual 327, 3) := by decide +kernel
theorem dX7_findHonestPrices_75 : decode cX7_findHonestPrices 75 = .ok (.iinc 2 1, 3) := by decide +kernel
theorem dX7_findHonestPrices_78 : decode cX7_findHonestPrices 78 = .ok (.goto (-50), 3) := by decide +kernel
theorem dX7_findHonestPrices_81 : decode cX7_findHonestPrices 81 = .ok (.iinc 1 1, 3) := by decide +kernel
theorem dX7_findHonestPrices_84 : decode cX7_findHonestPrices 84 = .ok (.goto (-64), 3) := by decide +kernel
theorem dX7_findHonestPrices_87 : decode cX7_findHonestPrices 87 = .ok (.iconst 0, 1) := by decide +kernel
theorem dX7_findHonestPrices_88 : decode cX7_findHonestPrices 88 = .ok (.istore_n 1, 1) := by decide +kernel
theorem dX7_findHonestPrices_89 : decode cX7_findHonestPrices 89 = .ok (.iconst 0, 1) := by decide +kernel
theorem dX7_findHonestPrices_90 : decode cX7_findHonestPrices 90 = .ok (.istore_n 2, 1) := by decide +kernel
theorem dX7_findHonestPrices_91 : decode cX7_findHonestPrices 91 = .ok (.iload_n 2, 1) := by decide +kernel
theorem dX7_findHonestPrices_92 : decode cX7_findHonestPrices 92 = .ok (.bipush 8, 2) := by decide +kernel
theorem dX7_findHonestPrices_94 : decode cX7_findHonestPrices 94 = .ok (.if_icmp .ge 38, 3) := by decide +kernel
theorem dX7_findHonestPrices_97 : decode cX7_findHonestPrices 97 = .ok (.iload_n 1, 1) := by decide +kernel
theorem dX7_findHonestPrices_98 : decode cX7_findHonestPrices 98 = .ok (.aload_n 0, 1) := by decide +kernel
theorem dX7_findHonestPrices_99 : decode cX7_findHonestPrices 99 = .ok (.getfield 59, 3) := by decide +kernel
theorem dX7_findHonestPrices_102 : decode cX7_findHonestPrices 102 = .ok (.iload_n 2, 1) := by decide +kernel
theorem dX7_findHonestPrices_103 : decode cX7_findHonestPrices 103 = .ok (.iaload, 1) := by decide +kernel
theorem dX7_findHonestPrices_104 : decode cX7_findHonestPrices 104 = .ok (.aload_n 0, 1) := by decide +kernel
theorem dX7_findHonestPrices_105 : decode cX7_findHonestPrices 105 = .ok (.getfield 10, 3) := by decide +kernel
theorem dX7_findHonestPrices_108 : decode cX7_findHonestPrices 108 = .ok (.getfield 92, 3) := by decide +kernel
theorem dX7_findHonestPrices_111 : decode cX7_findHonestPrices 111 = .ok (.iload_n 2, 1) := by decide +kernel
theorem dX7_findHonestPrices_112 : decode cX7_findHonestPrices 112 = .ok (.iaload, 1) := by decide +kernel
theorem dX7_findHonestPrices_113 : decode cX7_findHonestPrices 113 = .ok (.if_icmp .eq 7, 3) := by decide +kernel
theorem dX7_findHonestPrices_116 : decode cX7_findHonestPrices 116 = .ok (.iconst 1, 1) := by decide +kernel
theorem dX7_findHonestPrices_117 : decode cX7_findHonestPrices 117 = .ok (.goto 4, 3) := by decide +kernel
theorem dX7_findHonestPrices_120 : decode cX7_findHonestPrices 120 = .ok (.iconst 0, 1) := by decide +kernel
theorem dX7_findHonestPrices_121 : decode cX7_findHonestPrices 121 = .ok (.invokestatic 166, 3) := by decide +kernel
theorem dX7_findHonestPrices_124 : decode cX7_findHonestPrices 124 = .ok (.iadd, 1) := by decide +kernel
theorem dX7_findHonestPrices_125 : decode cX7_findHonestPrices 125 = .ok (.istore_n 1, 1) := by decide +kernel
theorem dX7_findHonestPrices_126 : decode cX7_findHonestPrices 126 = .ok (.iinc 2 1, 3) := by decide +kernel
theorem dX7_findHonestPrices_129 : decode cX7_findHonestPrices 129 = .ok (.goto (-38), 3) := by decide +kernel
theorem dX7_findHonestPrices_132 : decode cX7_findHonestPrices 132 = .ok (.iload_n 1, 1) := by decide +kernel
theorem dX7_findHonestPrices_133 : decode cX7_findHonestPrices 133 = .ok (.ireturn, 1) := by decide +kernel
theorem dX7_lowerEnd_0 : decode cX7_lowerEnd 0 = .ok (.aload_n 0, 1) := by decide +kernel
theorem dX7_lowerEnd_1 : decode cX7_lowerEnd 1 = .ok (.getfield 59, 3) := by decide +kernel
theorem dX7_lowerEnd_4 : decode cX7_lowerEnd 4 = .ok (.iload_n 3, 1) := by decide +kernel
theorem dX7_lowerEnd_5 : decode cX7_lowerEnd 5 = .ok (.aload_n 0, 1) := by decide +kernel
theorem dX7_lowerEnd_6 : decode cX7_lowerEnd 6 = .ok (.getfield 59, 3) := by decide +kernel
theorem dX7_lowerEnd_9 : decode cX7_lowerEnd 9 = .ok (.iload_n 3, 1) := by decide +kernel
theorem dX7_lowerEnd_10 : decode cX7_lowerEnd 10 = .ok (.iaload, 1) := by decide +kernel
theorem dX7_lowerEnd_11 : decode cX7_lowerEnd 11 = .ok (.aload_n 0, 1) := by decide +kernel
theorem dX7_lowerEnd_12 : decode cX7_lowerEnd 12 = .ok (.getfield 10, 3) := by decide +kernel
theorem dX7_lowerEnd_15 : decode cX7_lowerEnd 15 = .ok (.aload_n 1, 1) := by decide +kernel
theorem dX7_lowerEnd_16 : decode cX7_lowerEnd 16 = .ok (.aload_n 0, 1) := by decide +kernel
theorem dX7_lowerEnd_17 : decode cX7_lowerEnd 17 = .ok (.getfield 59, 3) := by decide +kernel
theorem dX7_lowerEnd_20 : decode cX7_lowerEnd 20 = .ok (.iload_n 2, 1) := by decide +kernel
theorem dX7_lowerEnd_21 : decode cX7_lowerEnd 21 = .ok (.iaload, 1) := by decide +kernel
theorem dX7_lowerEnd_22 : decode cX7_lowerEnd 22 = .ok (.invokevirtual 286, 3) := by decide +kernel
theorem dX7_lowerEnd_25 : decode cX7_lowerEnd 25 = .ok (.invokestatic 290, 3) := by decide +kernel
theorem dX7_lowerEnd_28 : decode cX7_lowerEnd 28 = .ok (.iastore, 1) := by decide +kernel
theorem dX7_lowerEnd_29 : decode cX7_lowerEnd 29 = .ok (.return_, 1) := by decide +kernel
theorem dX7_hidingTowns_0 : decode cX7_hidingTowns 0 = .ok (.aload_n 0, 1) := by decide +kernel
theorem dX7_hidingTowns_1 : decode cX7_hidingTowns 1 = .ok (.getfield 10, 3) := by decide +kernel
theorem dX7_hidingTowns_4 : decode cX7_hidingTowns 4 = .ok (.getfield 260, 3) := by decide +kernel
theorem dX7_hidingTowns_7 : decode cX7_hidingTowns 7 = .ok (.iconst 2, 1) := by decide +kernel
theorem dX7_hidingTowns_8 : decode cX7_hidingTowns 8 = .ok (.iaload, 1) := by decide +kernel
theorem dX7_hidingTowns_9 : decode cX7_hidingTowns 9 = .ok (.istore_n 1, 1) := by decide +kernel
theorem dX7_hidingTowns_10 : decode cX7_hidingTowns 10 = .ok (.aload_n 0, 1) := by decide +kernel
theorem dX7_hidingTowns_11 : decode cX7_hidingTowns 11 = .ok (.getfield 52, 3) := by decide +kernel
theorem dX7_hidingTowns_14 : decode cX7_hidingTowns 14 = .ok (.aload_n 0, 1) := by decide +kernel
theorem dX7_hidingTowns_15 : decode cX7_hidingTowns 15 = .ok (.getfield 10, 3) := by decide +kernel
theorem dX7_hidingTowns_18 : decode cX7_hidingTowns 18 = .ok (.iload_n 1, 1) := by decide +kernel
theorem dX7_hidingTowns_19 : decode cX7_hidingTowns 19 = .ok (.invokevirtual 215, 3) := by decide +kernel
theorem dX7_hidingTowns_22 : decode cX7_hidingTowns 22 = .ok (.aload_n 0, 1) := by decide +kernel
theorem dX7_hidingTowns_23 : decode cX7_hidingTowns 23 = .ok (.getfield 56, 3) := by decide +kernel
theorem dX7_hidingTowns_26 : decode cX7_hidingTowns 26 = .ok (.aload_n 0, 1) := by decide +kernel
theorem dX7_hidingTowns_27 : decode cX7_hidingTowns 27 = .ok (.getfield 10, 3) := by decide +kernel
theorem dX7_hidingTowns_30 : decode cX7_hidingTowns 30 = .ok (.iload_n 1, 1) := by decide +kernel
theorem dX7_hidingTowns_31 : decode cX7_hidingTowns 31 = .ok (.invokevirtual 215, 3) := by decide +kernel
theorem dX7_hidingTowns_34 : decode cX7_hidingTowns 34 = .ok (.iconst 0, 1) := by decide +kernel
theorem dX7_hidingTowns_35 : decode cX7_hidingTowns 35 = .ok (.istore_n 2, 1) := by decide +kernel
theorem dX7_hidingTowns_36 : decode cX7_hidingTowns 36 = .ok (.iconst 0, 1) := by decide +kernel
theorem dX7_hidingTowns_37 : decode cX7_hidingTowns 37 = .ok (.istore_n 3, 1) := by decide +kernel
theorem dX7_hidingTowns_38 : decode cX7_hidingTowns 38 = .ok (.iload_n 3, 1) := by decide +kernel
theorem dX7_hidingTowns_39 : decode cX7_hidingTowns 39 = .ok (.bipush 8, 2) := by decide +kernel
theorem dX7_hidingTowns_41 : decode cX7_hidingTowns 41 = .ok (.if_icmp .ge 41, 3) := by decide +kernel
theorem dX7_hidingTowns_44 : decode cX7_hidingTowns 44 = .ok (.aload_n 0, 1) := by decide +kernel
theorem dX7_hidingTowns_45 : decode cX7_hidingTowns 45 = .ok (.getfield 52, 3) := by decide +kernel
theorem dX7_hidingTowns_48 : decode cX7_hidingTowns 48 = .ok (.getfield 219, 3) := by decide +kernel
theorem dX7_hidingTowns_51 : decode cX7_hidingTowns 51 = .ok (.iload_n 1, 1) := by decide +kernel
theorem dX7_hidingTowns_52 : decode cX7_hidingTowns 52 = .ok (.aaload, 1) := by decide +kernel
theorem dX7_hidingTowns_53 : decode cX7_hidingTowns 53 = .ok (.iload_n 3, 1) := by decide +kernel
theorem dX7_hidingTowns_54 : decode cX7_hidingTowns 54 = .ok (.laload, 1) := by decide +kernel
theorem dX7_hidingTowns_55 : decode cX7_hidingTowns 55 = .ok (.aload_n 0, 1) := by decide +kernel
theorem dX7_hidingTowns_56 : decode cX7_hidingTowns 56 = .ok (.getfield 56, 3) := by decide +kernel
theorem dX7_hidingTowns_59 : decode cX7_hidingTowns 59 = .ok (.getfield 219, 3) := by decide +kernel
theorem dX7_hidingTowns_62 : decode cX7_hidingTowns 62 = .ok (.iload_n 1, 1) := by decide +kernel
theorem dX7_hidingTowns_63 : decode cX7_hidingTowns 63 = .ok (.aaload, 1) := by decide +kernel
theorem dX7_hidingTowns_64 : decode cX7_hidingTowns 64 = .ok (.iload_n 3, 1) := by decide +kernel
theorem dX7_hidingTowns_65 : decode cX7_hidingTowns 65 = .ok (.laload, 1) := by decide +kernel
theorem dX7_hidingTowns_66 : decode cX7_hidingTowns 66 = .ok (.lcmp, 1) := by decide +kernel
theorem dX7_hidingTowns_67 : decode cX7_hidingTowns 67 = .ok (.ifCond .le 9, 3) := by decide +kernel
theorem dX7_hidingTowns_70 : decode cX7_hidingTowns 70 = .ok (.iload_n 2, 1) := by decide +kernel
theorem dX7_hidingTowns_71 : decode cX7_hidingTowns 71 = .ok (.iconst 1, 1) := by decide +kernel
theorem dX7_hidingTowns_72 : decode cX7_hidingTowns 72 = .ok (.iload_n 3, 1) := by decide +kernel
theorem dX7_hidingTowns_73 : decode cX7_hidingTowns 73 = .ok (.ishl, 1) := by decide +kernel
theorem dX7_hidingTowns_74 : decode cX7_hidingTowns 74 = .ok (.ior, 1) := by decide +kernel
theorem dX7_hidingTowns_75 : decode cX7_hidingTowns 75 = .ok (.istore_n 2, 1) := by decide +kernel
theorem dX7_hidingTowns_76 : decode cX7_hidingTowns 76 = .ok (.iinc 3 1, 3) := by decide +kernel
theorem dX7_hidingTowns_79 : decode cX7_hidingTowns 79 = .ok (.goto (-41), 3) := by decide +kernel
theorem dX7_hidingTowns_82 : decode cX7_hidingTowns 82 = .ok (.iload_n 2, 1) := by decide +kernel
theorem dX7_hidingTowns_83 : decode cX7_hidingTowns 83 = .ok (.ireturn, 1) := by decide +kernel
theorem dX7_countSigns_0 : decode cX7_countSigns 0 = .ok (.lload_n 0, 1) := by decide +kernel
theorem dX7_countSigns_1 : decode cX7_countSigns 1 = .ok (.lstore_n 2, 1) := by decide +kernel
theorem dX7_countSigns_2 : decode cX7_countSigns 2 = .ok (.iconst 0, 1) := by decide +kernel
theorem dX7_countSigns_3 : decode cX7_countSigns 3 = .ok (.istore 4, 2) := by decide +kernel
theorem dX7_countSigns_5 : decode cX7_countSigns 5 = .ok (.iload 4, 2) := by decide +kernel
theorem dX7_countSigns_7 : decode cX7_countSigns 7 = .ok (.bipush 8, 2) := by decide +kernel
theorem dX7_countSigns_9 : decode cX7_countSigns 9 = .ok (.if_icmp .ge 38, 3) := by decide +kernel
theorem dX7_countSigns_12 : decode cX7_countSigns 12 = .ok (.lload_n 2, 1) := by decide +kernel
theorem dX7_countSigns_13 : decode cX7_countSigns 13 = .ok (.lconst 0, 1) := by decide +kernel
theorem dX7_countSigns_14 : decode cX7_countSigns 14 = .ok (.lcmp, 1) := by decide +kernel
theorem dX7_countSigns_15 : decode cX7_countSigns 15 = .ok (.ifCond .eq 32, 3) := by decide +kernel
theorem dX7_countSigns_18 : decode cX7_countSigns 18 = .ok (.lload_n 2, 1) := by decide +kernel
theorem dX7_countSigns_19 : decode cX7_countSigns 19 = .ok (.ldc2_w 331, 3) := by decide +kernel
theorem dX7_countSigns_22 : decode cX7_countSigns 22 = .ok (.land, 1) := by decide +kernel
theorem dX7_countSigns_23 : decode cX7_countSigns 23 = .ok (.l2i, 1) := by decide +kernel
theorem dX7_countSigns_24 : decode cX7_countSigns 24 = .ok (.bipush 33, 2) := by decide +kernel
theorem dX7_countSigns_26 : decode cX7_countSigns 26 = .ok (.bipush 126, 2) := by decide +kernel
theorem dX7_countSigns_28 : decode cX7_countSigns 28 = .ok (.invokestatic 209, 3) := by decide +kernel
theorem dX7_countSigns_31 : decode cX7_countSigns 31 = .ok (.ifCond .eq 5, 3) := by decide +kernel
theorem dX7_countSigns_34 : decode cX7_countSigns 34 = .ok (.iconst 0, 1) := by decide +kernel
theorem dX7_countSigns_35 : decode cX7_countSigns 35 = .ok (.ireturn, 1) := by decide +kernel
theorem dX7_countSigns_36 : decode cX7_countSigns 36 = .ok (.lload_n 2, 1) := by decide +kernel
theorem dX7_countSigns_37 : decode cX7_countSigns 37 = .ok (.bipush 8, 2) := by decide +kernel
theorem dX7_countSigns_39 : decode cX7_countSigns 39 = .ok (.lushr, 1) := by decide +kernel
theorem dX7_countSigns_40 : decode cX7_countSigns 40 = .ok (.lstore_n 2, 1) := by decide +kernel
theorem dX7_countSigns_41 : decode cX7_countSigns 41 = .ok (.iinc 4 1, 3) := by decide +kernel
theorem dX7_countSigns_44 : decode cX7_countSigns 44 = .ok (.goto (-39), 3) := by decide +kernel
theorem dX7_countSigns_47 : decode cX7_countSigns 47 = .ok (.iload 4, 2) := by decide +kernel
theorem dX7_countSigns_49 : decode cX7_countSigns 49 = .ok (.ireturn, 1) := by decide +kernel
theorem dX7_obey_0 : decode cX7_obey 0 = .ok (.aload_n 0, 1) := by decide +kernel
theorem dX7_obey_1 : decode cX7_obey 1 = .ok (.getfield 43, 3) := by decide +kernel
theorem dX7_obey_4 : decode cX7_obey 4 = .ok (.getfield 333, 3) := by decide +kernel
theorem dX7_obey_7 : decode cX7_obey 7 = .ok (.tableswitch 270 98 115 #[180, 158, 270, 270, 270, 136, 247, 270, 270, 270, 270, 270, 270, 224, 114, 270, 85, 202], 85) := by decide +kernel
theorem dX7_obey_92 : decode cX7_obey 92 = .ok (.aload_n 0, 1) := by decide +kernel
theorem dX7_obey_93 : decode cX7_obey 93 = .ok (.getfield 10, 3) := by decide +kernel
theorem dX7_obey_96 : decode cX7_obey 96 = .ok (.aload_n 0, 1) := by decide +kernel
theorem dX7_obey_97 : decode cX7_obey 97 = .ok (.getfield 43, 3) := by decide +kernel
theorem dX7_obey_100 : decode cX7_obey 100 = .ok (.getfield 336, 3) := by decide +kernel
theorem dX7_obey_103 : decode cX7_obey 103 = .ok (.aload_n 0, 1) := by decide +kernel
theorem dX7_obey_104 : decode cX7_obey 104 = .ok (.getfield 43, 3) := by decide +kernel
theorem dX7_obey_107 : decode cX7_obey 107 = .ok (.getfield 339, 3) := by decide +kernel
theorem dX7_obey_110 : decode cX7_obey 110 = .ok (.aload_n 0, 1) := by decide +kernel
theorem dX7_obey_111 : decode cX7_obey 111 = .ok (.getfield 43, 3) := by decide +kernel
theorem dX7_obey_114 : decode cX7_obey 114 = .ok (.getfield 342, 3) := by decide +kernel
theorem dX7_obey_117 : decode cX7_obey 117 = .ok (.invokevirtual 75, 3) := by decide +kernel
theorem dX7_obey_120 : decode cX7_obey 120 = .ok (.ireturn, 1) := by decide +kernel
theorem dX7_obey_121 : decode cX7_obey 121 = .ok (.aload_n 0, 1) := by decide +kernel
theorem dX7_obey_122 : decode cX7_obey 122 = .ok (.getfield 10, 3) := by decide +kernel
theorem dX7_obey_125 : decode cX7_obey 125 = .ok (.aload_n 0, 1) := by decide +kernel
theorem dX7_obey_126 : decode cX7_obey 126 = .ok (.getfield 43, 3) := by decide +kernel
theorem dX7_obey_129 : decode cX7_obey 129 = .ok (.getfield 336, 3) := by decide +kernel
theorem dX7_obey_132 : decode cX7_obey 132 = .ok (.aload_n 0, 1) := by decide +kernel
theorem dX7_obey_133 : decode cX7_obey 133 = .ok (.getfield 43, 3) := by decide +kernel
theorem dX7_obey_136 : decode cX7_obey 136 = .ok (.getfield 342, 3) := by decide +kernel
theorem dX7_obey_139 : decode cX7_obey 139 = .ok (.invokevirtual 79, 3) := by decide +kernel
theorem dX7_obey_142 : decode cX7_obey 142 = .ok (.ireturn, 1) := by decide +kernel
theorem dX7_obey_143 : decode cX7_obey 143 = .ok (.aload_n 0, 1) := by decide +kernel
theorem dX7_obey_144 : decode cX7_obey 144 = .ok (.getfield 10, 3) := by decide +kernel
theorem dX7_obey_147 : decode cX7_obey 147 = .ok (.aload_n 0, 1) := by decide +kernel
theorem dX7_obey_148 : decode cX7_obey 148 = .ok (.getfield 43, 3) := by decide +kernel
theorem dX7_obey_151 : decode cX7_obey 151 = .ok (.getfield 336, 3) := by decide +kernel
theorem dX7_obey_154 : decode cX7_obey 154 = .ok (.aload_n 0, 1) := by decide +kernel
theorem dX7_obey_155 : decode cX7_obey 155 = .ok (.getfield 43, 3) := by decide +kernel
theorem dX7_obey_158 : decode cX7_obey 158 = .ok (.getfield 342, 3) := by decide +kernel
theorem dX7_obey_161 : decode cX7_obey 161 = .ok (.invokevirtual 82, 3) := by decide +kernel
theorem dX7_obey_164 : decode cX7_obey 164 = .ok (.ireturn, 1) := by decide +kernel
theorem dX7_obey_165 : decode cX7_obey 165 = .ok (.aload_n 0, 1) := by decide +kernel
theorem dX7_obey_166 : decode cX7_obey 166 = .ok (.getfield 10, 3) := by decide +kernel
theorem dX7_obey_169 : decode cX7_obey 169 = .ok (.aload_n 0, 1) := by decide +kernel
theorem dX7_obey_170 : decode cX7_obey 170 = .ok (.getfield 43, 3) := by decide +kernel
theorem dX7_obey_173 : decode cX7_obey 173 = .ok (.getfield 336, 3) := by decide +kernel
theorem dX7_obey_176 : decode cX7_obey 176 = .ok (.aload_n 0, 1) := by decide +kernel
theorem dX7_obey_177 : decode cX7_obey 177 = .ok (.getfield 43, 3) := by decide +kernel
theorem dX7_obey_180 : decode cX7_obey 180 = .ok (.getfield 342, 3) := by decide +kernel
theorem dX7_obey_183 : decode cX7_obey 183 = .ok (.invokevirtual 101, 3) := by decide +kernel
theorem dX7_obey_186 : decode cX7_obey 186 = .ok (.ireturn, 1) := by decide +kernel
theorem dX7_obey_187 : decode cX7_obey 187 = .ok (.aload_n 0, 1) := by decide +kernel
theorem dX7_obey_188 : decode cX7_obey 188 = .ok (.getfield 10, 3) := by decide +kernel
theorem dX7_obey_191 : decode cX7_obey 191 = .ok (.aload_n 0, 1) := by decide +kernel
theorem dX7_obey_192 : decode cX7_obey 192 = .ok (.getfield 43, 3) := by decide +kernel
theorem dX7_obey_195 : decode cX7_obey 195 = .ok (.getfield 336, 3) := by decide +kernel
theorem dX7_obey_198 : decode cX7_obey 198 = .ok (.aload_n 0, 1) := by decide +kernel
theorem dX7_obey_199 : decode cX7_obey 199 = .ok (.getfield 43, 3) := by decide +kernel
theorem dX7_obey_202 : decode cX7_obey 202 = .ok (.getfield 342, 3) := by decide +kernel
theorem dX7_obey_205 : decode cX7_obey 205 = .ok (.invokevirtual 104, 3) := by decide +kernel
theorem dX7_obey_208 : decode cX7_obey 208 = .ok (.ireturn, 1) := by decide +kernel
theorem dX7_obey_209 : decode cX7_obey 209 = .ok (.aload_n 0, 1) := by decide +kernel
theorem dX7_obey_210 : decode cX7_obey 210 = .ok (.getfield 10, 3) := by decide +kernel
theorem dX7_obey_213 : decode cX7_obey 213 = .ok (.aload_n 0, 1) := by decide +kernel
theorem dX7_obey_214 : decode cX7_obey 214 = .ok (.getfield 43, 3) := by decide +kernel
theorem dX7_obey_217 : decode cX7_obey 217 = .ok (.getfield 336, 3) := by decide +kernel
theorem dX7_obey_220 : decode cX7_obey 220 = .ok (.aload_n 0, 1) := by decide +kernel
theorem dX7_obey_221 : decode cX7_obey 221 = .ok (.getfield 43, 3) := by decide +kernel
theorem dX7_obey_224 : decode cX7_obey 224 = .ok (.getfield 342, 3) := by decide +kernel
theorem dX7_obey_227 : decode cX7_obey 227 = .ok (.invokevirtual 107, 3) := by decide +kernel
theorem dX7_obey_230 : decode cX7_obey 230 = .ok (.ireturn, 1) := by decide +kernel
theorem dX7_obey_231 : decode cX7_obey 231 = .ok (.aload_n 0, 1) := by decide +kernel
theorem dX7_obey_232 : decode cX7_obey 232 = .ok (.getfield 10, 3) := by decide +kernel
theorem dX7_obey_235 : decode cX7_obey 235 = .ok (.aload_n 0, 1) := by decide +kernel
theorem dX7_obey_236 : decode cX7_obey 236 = .ok (.getfield 43, 3) := by decide +kernel
theorem dX7_obey_239 : decode cX7_obey 239 = .ok (.getfield 336, 3) := by decide +kernel
theorem dX7_obey_242 : decode cX7_obey 242 = .ok (.aload_n 0, 1) := by decide +kernel
theorem dX7_obey_243 : decode cX7_obey 243 = .ok (.getfield 43, 3) := by decide +kernel
theorem dX7_obey_246 : decode cX7_obey 246 = .ok (.getfield 342, 3) := by decide +kernel
theorem dX7_obey_249 : decode cX7_obey 249 = .ok (.iconst 0, 1) := by decide +kernel
theorem dX7_obey_250 : decode cX7_obey 250 = .ok (.invokevirtual 110, 3) := by decide +kernel
theorem dX7_obey_253 : decode cX7_obey 253 = .ok (.ireturn, 1) := by decide +kernel
theorem dX7_obey_254 : decode cX7_obey 254 = .ok (.aload_n 0, 1) := by decide +kernel
theorem dX7_obey_255 : decode cX7_obey 255 = .ok (.getfield 10, 3) := by decide +kernel
theorem dX7_obey_258 : decode cX7_obey 258 = .ok (.aload_n 0, 1) := by decide +kernel
theorem dX7_obey_259 : decode cX7_obey 259 = .ok (.getfield 43, 3) := by decide +kernel
theorem dX7_obey_262 : decode cX7_obey 262 = .ok (.getfield 336, 3) := by decide +kernel
theorem dX7_obey_265 : decode cX7_obey 265 = .ok (.aload_n 0, 1) := by decide +kernel
theorem dX7_obey_266 : decode cX7_obey 266 = .ok (.getfield 43, 3) := by decide +kernel
theorem dX7_obey_269 : decode cX7_obey 269 = .ok (.getfield 342, 3) := by decide +kernel
theorem dX7_obey_272 : decode cX7_obey 272 = .ok (.iconst 1, 1) := by decide +kernel
theorem dX7_obey_273 : decode cX7_obey 273 = .ok (.invokevirtual 110, 3) := by decide +kernel
theorem dX7_obey_276 : decode cX7_obey 276 = .ok (.ireturn, 1) := by decide +kernel
theorem dX7_obey_277 : decode cX7_obey 277 = .ok (.bipush (-3), 2) := by decide +kernel
theorem dX7_obey_279 : decode cX7_obey 279 = .ok (.ireturn, 1) := by decide +kernel
theorem dX8_init_0 : decode cX8_init 0 = .ok (.aload_n 0, 1) := by decide +kernel
theorem dX8_init_1 : decode cX8_init 1 = .ok (.invokespecial 1, 3) := by decide +kernel
theorem dX8_init_4 : decode cX8_init 4 = .ok (.aload_n 0, 1) := by decide +kernel
theorem dX8_init_5 : decode cX8_init 5 = .ok (.sipush 151, 3) := by decide +kernel
theorem dX8_init_8 : decode cX8_init 8 = .ok (.newarray .int, 2) := by decide +kernel
theorem dX8_init_10 : decode cX8_init 10 = .ok (.putfield 7, 3) := by decide +kernel
theorem dX8_init_13 : decode cX8_init 13 = .ok (.aload_n 0, 1) := by decide +kernel
theorem dX8_init_14 : decode cX8_init 14 = .ok (.sipush 151, 3) := by decide +kernel
theorem dX8_init_17 : decode cX8_init 17 = .ok (.newarray .int, 2) := by decide +kernel
theorem dX8_init_19 : decode cX8_init 19 = .ok (.putfield 13, 3) := by decide +kernel
theorem dX8_init_22 : decode cX8_init 22 = .ok (.aload_n 0, 1) := by decide +kernel
theorem dX8_init_23 : decode cX8_init 23 = .ok (.sipush 906, 3) := by decide +kernel
theorem dX8_init_26 : decode cX8_init 26 = .ok (.newarray .int, 2) := by decide +kernel
theorem dX8_init_28 : decode cX8_init 28 = .ok (.putfield 16, 3) := by decide +kernel
theorem dX8_init_31 : decode cX8_init 31 = .ok (.aload_n 0, 1) := by decide +kernel
theorem dX8_init_32 : decode cX8_init 32 = .ok (.sipush 302, 3) := by decide +kernel
theorem dX8_init_35 : decode cX8_init 35 = .ok (.newarray .int, 2) := by decide +kernel
theorem dX8_init_37 : decode cX8_init 37 = .ok (.putfield 19, 3) := by decide +kernel
theorem dX8_init_40 : decode cX8_init 40 = .ok (.aload_n 0, 1) := by decide +kernel
theorem dX8_init_41 : decode cX8_init 41 = .ok (.bipush 80, 2) := by decide +kernel
theorem dX8_init_43 : decode cX8_init 43 = .ok (.newarray .int, 2) := by decide +kernel
theorem dX8_init_45 : decode cX8_init 45 = .ok (.putfield 22, 3) := by decide +kernel
theorem dX8_init_48 : decode cX8_init 48 = .ok (.aload_n 0, 1) := by decide +kernel
theorem dX8_init_49 : decode cX8_init 49 = .ok (.bipush 40, 2) := by decide +kernel
theorem dX8_init_51 : decode cX8_init 51 = .ok (.newarray .long, 2) := by decide +kernel
theorem dX8_init_53 : decode cX8_init 53 = .ok (.putfield 25, 3) := by decide +kernel
theorem dX8_init_56 : decode cX8_init 56 = .ok (.iconst 0, 1) := by decide +kernel
theorem dX8_init_57 : decode cX8_init 57 = .ok (.istore_n 1, 1) := by decide +kernel
theorem dX8_init_58 : decode cX8_init 58 = .ok (.iload_n 1, 1) := by decide +kernel
theorem dX8_init_59 : decode cX8_init 59 = .ok (.bipush 8, 2) := by decide +kernel
theorem dX8_init_61 : decode cX8_init 61 = .ok (.if_icmp .ge 19, 3) := by decide +kernel
theorem dX8_init_64 : decode cX8_init 64 = .ok (.aload_n 0, 1) := by decide +kernel
theorem dX8_init_65 : decode cX8_init 65 = .ok (.getfield 7, 3) := by decide +kernel
theorem dX8_init_68 : decode cX8_init 68 = .ok (.iconst 0, 1) := by decide +kernel
theorem dX8_init_69 : decode cX8_init 69 = .ok (.iload_n 1, 1) := by decide +kernel
theorem dX8_init_70 : decode cX8_init 70 = .ok (.iadd, 1) := by decide +kernel
theorem dX8_init_71 : decode cX8_init 71 = .ok (.bipush 100, 2) := by decide +kernel
theorem dX8_init_73 : decode cX8_init 73 = .ok (.iastore, 1) := by decide +kernel
theorem dX8_init_74 : decode cX8_init 74 = .ok (.iinc 1 1, 3) := by decide +kernel
theorem dX8_init_77 : decode cX8_init 77 = .ok (.goto (-19), 3) := by decide +kernel
theorem dX8_init_80 : decode cX8_init 80 = .ok (.aload_n 0, 1) := by decide +kernel
theorem dX8_init_81 : decode cX8_init 81 = .ok (.getfield 7, 3) := by decide +kernel
theorem dX8_init_84 : decode cX8_init 84 = .ok (.sipush 142, 3) := by decide +kernel
theorem dX8_init_87 : decode cX8_init 87 = .ok (.bipush 20, 2) := by decide +kernel
theorem dX8_init_89 : decode cX8_init 89 = .ok (.iastore, 1) := by decide +kernel
theorem dX8_init_90 : decode cX8_init 90 = .ok (.aload_n 0, 1) := by decide +kernel
theorem dX8_init_91 : decode cX8_init 91 = .ok (.getfield 7, 3) := by decide +kernel
theorem dX8_init_94 : decode cX8_init 94 = .ok (.sipush 143, 3) := by decide +kernel
theorem dX8_init_97 : decode cX8_init 97 = .ok (.bipush 10, 2) := by decide +kernel
theorem dX8_init_99 : decode cX8_init 99 = .ok (.iastore, 1) := by decide +kernel
theorem dX8_init_100 : decode cX8_init 100 = .ok (.aload_n 0, 1) := by decide +kernel
theorem dX8_init_101 : decode cX8_init 101 = .ok (.getfield 7, 3) := by decide +kernel
theorem dX8_init_104 : decode cX8_init 104 = .ok (.sipush 144, 3) := by decide +kernel
theorem dX8_init_107 : decode cX8_init 107 = .ok (.iconst 3, 1) := by decide +kernel
theorem dX8_init_108 : decode cX8_init 108 = .ok (.iastore, 1) := by decide +kernel
theorem dX8_init_109 : decode cX8_init 109 = .ok (.aload_n 0, 1) := by decide +kernel
theorem dX8_init_110 : decode cX8_init 110 = .ok (.getfield 7, 3) := by decide +kernel
theorem dX8_init_113 : decode cX8_init 113 = .ok (.sipush 145, 3) := by decide +kernel
theorem dX8_init_116 : decode cX8_init 116 = .ok (.bipush 12, 2) := by decide +kernel
theorem dX8_init_118 : decode cX8_init 118 = .ok (.iastore, 1) := by decide +kernel
theorem dX8_init_119 : decode cX8_init 119 = .ok (.aload_n 0, 1) := by decide +kernel
theorem dX8_init_120 : decode cX8_init 120 = .ok (.getfield 7, 3) := by decide +kernel
theorem dX8_init_123 : decode cX8_init 123 = .ok (.sipush 146, 3) := by decide +kernel
theorem dX8_init_126 : decode cX8_init 126 = .ok (.iconst 1, 1) := by decide +kernel
theorem dX8_init_127 : decode cX8_init 127 = .ok (.iastore, 1) := by decide +kernel
theorem dX8_init_128 : decode cX8_init 128 = .ok (.return_, 1) := by decide +kernel
theorem dX8_in_0 : decode cX8_in 0 = .ok (.iload_n 0, 1) := by decide +kernel
theorem dX8_in_1 : decode cX8_in 1 = .ok (.iload_n 1, 1) := by decide +kernel
theorem dX8_in_2 : decode cX8_in 2 = .ok (.if_icmp .lt 12, 3) := by decide +kernel
theorem dX8_in_5 : decode cX8_in 5 = .ok (.iload_n 0, 1) := by decide +kernel
theorem dX8_in_6 : decode cX8_in 6 = .ok (.iload_n 2, 1) := by decide +kernel
theorem dX8_in_7 : decode cX8_in 7 = .ok (.if_icmp .gt 7, 3) := by decide +kernel
theorem dX8_in_10 : decode cX8_in 10 = .ok (.iconst 1, 1) := by decide +kernel
theorem dX8_in_11 : decode cX8_in 11 = .ok (.goto 4, 3) := by decide +kernel
theorem dX8_in_14 : decode cX8_in 14 = .ok (.iconst 0, 1) := by decide +kernel
theorem dX8_in_15 : decode cX8_in 15 = .ok (.ireturn, 1) := by decide +kernel
theorem dX8_isTown_0 : decode cX8_isTown 0 = .ok (.iload_n 0, 1) := by decide +kernel
theorem dX8_isTown_1 : decode cX8_isTown 1 = .ok (.iconst 0, 1) := by decide +kernel
theorem dX8_isTown_2 : decode cX8_isTown 2 = .ok (.bipush 7, 2) := by decide +kernel
theorem dX8_isTown_4 : decode cX8_isTown 4 = .ok (.invokestatic 29, 3) := by decide +kernel
theorem dX8_isTown_7 : decode cX8_isTown 7 = .ok (.ireturn, 1) := by decide +kernel
theorem dX8_isRoad_0 : decode cX8_isRoad 0 = .ok (.iload_n 1, 1) := by decide +kernel
theorem dX8_isRoad_1 : decode cX8_isRoad 1 = .ok (.iconst 0, 1) := by decide +kernel
theorem dX8_isRoad_2 : decode cX8_isRoad 2 = .ok (.aload_n 0, 1) := by decide +kernel
theorem dX8_isRoad_3 : decode cX8_isRoad 3 = .ok (.getfield 7, 3) := by decide +kernel
theorem dX8_isRoad_6 : decode cX8_isRoad 6 = .ok (.bipush 8, 2) := by decide +kernel
theorem dX8_isRoad_8 : decode cX8_isRoad 8 = .ok (.iaload, 1) := by decide +kernel
theorem dX8_isRoad_9 : decode cX8_isRoad 9 = .ok (.iconst 1, 1) := by decide +kernel
theorem dX8_isRoad_10 : decode cX8_isRoad 10 = .ok (.isub, 1) := by decide +kernel
theorem dX8_isRoad_11 : decode cX8_isRoad 11 = .ok (.invokestatic 29, 3) := by decide +kernel
theorem dX8_isRoad_14 : decode cX8_isRoad 14 = .ok (.ireturn, 1) := by decide +kernel
theorem dX8_isCart_0 : decode cX8_isCart 0 = .ok (.iload_n 1, 1) := by decide +kernel
theorem dX8_isCart_1 : decode cX8_isCart 1 = .ok (.iconst 0, 1) := by decide +kernel
theorem dX8_isCart_2 : decode cX8_isCart 2 = .ok (.aload_n 0, 1) := by decide +kernel
theorem dX8_isCart_3 : decode cX8_isCart 3 = .ok (.getfield 7, 3) := by decide +kernel
theorem dX8_isCart_6 : decode cX8_isCart 6 = .ok (.bipush 93, 2) := by decide +kernel
theorem dX8_isCart_8 : decode cX8_isCart 8 = .ok (.iaload, 1) := by decide +kernel
theorem dX8_isCart_9 : decode cX8_isCart 9 = .ok (.iconst 1, 1) := by decide +kernel
theorem dX8_isCart_10 : decode cX8_isCart 10 = .ok (.isub, 1) := by decide +kernel
theorem dX8_isCart_11 : decode cX8_isCart 11 = .ok (.invokestatic 29, 3) := by decide +kernel
theorem dX8_isCart_14 : decode cX8_isCart 14 = .ok (.ireturn, 1) := by decide +kernel
theorem dX8_ofOneRoad_0 : decode cX8_ofOneRoad 0 = .ok (.bipush 9, 2) := by decide +kernel
theorem dX8_ofOneRoad_2 : decode cX8_ofOneRoad 2 = .ok (.bipush 6, 2) := by decide +kernel
theorem dX8_ofOneRoad_4 : decode cX8_ofOneRoad 4 = .ok (.iload_n 0, 1) := by decide +kernel
theorem dX8_ofOneRoad_5 : decode cX8_ofOneRoad 5 = .ok (.imul, 1) := by decide +kernel
theorem dX8_ofOneRoad_6 : decode cX8_ofOneRoad 6 = .ok (.iadd, 1) := by decide +kernel
theorem dX8_ofOneRoad_7 : decode cX8_ofOneRoad 7 = .ok (.iload_n 1, 1) := by decide +kernel
theorem dX8_ofOneRoad_8 : decode cX8_ofOneRoad 8 = .ok (.iadd, 1) := by decide +kernel
theorem dX8_ofOneRoad_9 : decode cX8_ofOneRoad 9 = .ok (.ireturn, 1) := by decide +kernel
theorem dX8_ofOneCart_0 : decode cX8_ofOneCart 0 = .ok (.bipush 94, 2) := by decide +kernel
theorem dX8_ofOneCart_2 : decode cX8_ofOneCart 2 = .ok (.bipush 8, 2) := by decide +kernel
theorem dX8_ofOneCart_4 : decode cX8_ofOneCart 4 = .ok (.iload_n 0, 1) := by decide +kernel
theorem dX8_ofOneCart_5 : decode cX8_ofOneCart 5 = .ok (.imul, 1) := by decide +kernel
theorem dX8_ofOneCart_6 : decode cX8_ofOneCart 6 = .ok (.iadd, 1) := by decide +kernel
theorem dX8_ofOneCart_7 : decode cX8_ofOneCart 7 = .ok (.iload_n 1, 1) := by decide +kernel
theorem dX8_ofOneCart_8 : decode cX8_ofOneCart 8 = .ok (.iadd, 1) := by decide +kernel
theorem dX8_ofOneCart_9 : decode cX8_ofOneCart 9 = .ok (.ireturn, 1) := by decide +kernel
theorem dX8_record_0 : decode cX8_record 0 = .ok (.aload_n 0, 1) := by decide +kernel
theorem dX8_record_1 : decode cX8_record 1 = .ok (.getfield 33, 3) := by decide +kernel
theorem dX8_record_4 : decode cX8_record 4 = .ok (.bipush 6, 2) := by decide +kernel
theorem dX8_record_6 : decode cX8_record 6 = .ok (.if_icmp .ne 44, 3) := by decide +kernel
theorem dX8_record_9 : decode cX8_record 9 = .ok (.iconst 0, 1) := by decide +kernel
theorem dX8_record_10 : decode cX8_record 10 = .ok (.istore_n 1, 1) := by decide +kernel
theorem dX8_record_11 : decode cX8_record 11 = .ok (.iload_n 1, 1) := by decide +kernel
theorem dX8_record_12 : decode cX8_record 12 = .ok (.sipush 755, 3) := by decide +kernel
theorem dX8_record_15 : decode cX8_record 15 = .ok (.if_icmp .ge 25, 3) := by decide +kernel
theorem dX8_record_18 : decode cX8_record 18 = .ok (.aload_n 0, 1) := by decide +kernel
theorem dX8_record_19 : decode cX8_record 19 = .ok (.getfield 16, 3) := by decide +kernel
theorem dX8_record_22 : decode cX8_record 22 = .ok (.iload_n 1, 1) := by decide +kernel
theorem dX8_record_23 : decode cX8_record 23 = .ok (.aload_n 0, 1) := by decide +kernel
theorem dX8_record_24 : decode cX8_record 24 = .ok (.getfield 16, 3) := by decide +kernel
theorem dX8_record_27 : decode cX8_record 27 = .ok (.iload_n 1, 1) := by decide +kernel
theorem dX8_record_28 : decode cX8_record 28 = .ok (.sipush 151, 3) := by decide +kernel
theorem dX8_record_31 : decode cX8_record 31 = .ok (.iadd, 1) := by decide +kernel
theorem dX8_record_32 : decode cX8_record 32 = .ok (.iaload, 1) := by decide +kernel
theorem dX8_record_33 : decode cX8_record 33 = .ok (.iastore, 1) := by decide +kernel
theorem dX8_record_34 : decode cX8_record 34 = .ok (.iinc 1 1, 3) := by decide +kernel
theorem dX8_record_37 : decode cX8_record 37 = .ok (.goto (-26), 3) := by decide +kernel
theorem dX8_record_40 : decode cX8_record 40 = .ok (.aload_n 0, 1) := by decide +kernel
theorem dX8_record_41 : decode cX8_record 41 = .ok (.dup, 1) := by decide +kernel
theorem dX8_record_42 : decode cX8_record 42 = .ok (.getfield 33, 3) := by decide +kernel
theorem dX8_record_45 : decode cX8_record 45 = .ok (.iconst 1, 1) := by decide +kernel
theorem dX8_record_46 : decode cX8_record 46 = .ok (.isub, 1) := by decide +kernel
theorem dX8_record_47 : decode cX8_record 47 = .ok (.putfield 33, 3) := by decide +kernel
theorem dX8_record_50 : decode cX8_record 50 = .ok (.iconst 0, 1) := by decide +kernel
theorem dX8_record_51 : decode cX8_record 51 = .ok (.istore_n 1, 1) := by decide +kernel
theorem dX8_record_52 : decode cX8_record 52 = .ok (.iload_n 1, 1) := by decide +kernel
theorem dX8_record_53 : decode cX8_record 53 = .ok (.sipush 151, 3) := by decide +kernel
theorem dX8_record_56 : decode cX8_record 56 = .ok (.if_icmp .ge 30, 3) := by decide +kernel
theorem dX8_record_59 : decode cX8_record 59 = .ok (.aload_n 0, 1) := by decide +kernel
theorem dX8_record_60 : decode cX8_record 60 = .ok (.getfield 16, 3) := by decide +kernel
theorem dX8_record_63 : decode cX8_record 63 = .ok (.sipush 151, 3) := by decide +kernel
theorem dX8_record_66 : decode cX8_record 66 = .ok (.aload_n 0, 1) := by decide +kernel
theorem dX8_record_67 : decode cX8_record 67 = .ok (.getfield 33, 3) := by decide +kernel
theorem dX8_record_70 : decode cX8_record 70 = .ok (.imul, 1) := by decide +kernel
theorem dX8_record_71 : decode cX8_record 71 = .ok (.iload_n 1, 1) := by decide +kernel
theorem dX8_record_72 : decode cX8_record 72 = .ok (.iadd, 1) := by decide +kernel
theorem dX8_record_73 : decode cX8_record 73 = .ok (.aload_n 0, 1) := by decide +kernel
theorem dX8_record_74 : decode cX8_record 74 = .ok (.getfield 13, 3) := by decide +kernel
theorem dX8_record_77 : decode cX8_record 77 = .ok (.iload_n 1, 1) := by decide +kernel
theorem dX8_record_78 : decode cX8_record 78 = .ok (.iaload, 1) := by decide +kernel
theorem dX8_record_79 : decode cX8_record 79 = .ok (.iastore, 1) := by decide +kernel
theorem dX8_record_80 : decode cX8_record 80 = .ok (.iinc 1 1, 3) := by decide +kernel
theorem dX8_record_83 : decode cX8_record 83 = .ok (.goto (-31), 3) := by decide +kernel
theorem dX8_record_86 : decode cX8_record 86 = .ok (.aload_n 0, 1) := by decide +kernel
theorem dX8_record_87 : decode cX8_record 87 = .ok (.dup, 1) := by decide +kernel
theorem dX8_record_88 : decode cX8_record 88 = .ok (.getfield 33, 3) := by decide +kernel
theorem dX8_record_91 : decode cX8_record 91 = .ok (.iconst 1, 1) := by decide +kernel
theorem dX8_record_92 : decode cX8_record 92 = .ok (.iadd, 1) := by decide +kernel
theorem dX8_record_93 : decode cX8_record 93 = .ok (.putfield 33, 3) := by decide +kernel
theorem dX8_record_96 : decode cX8_record 96 = .ok (.return_, 1) := by decide +kernel
theorem dX8_putAside_0 : decode cX8_putAside 0 = .ok (.iconst 0, 1) := by decide +kernel
theorem dX8_putAside_1 : decode cX8_putAside 1 = .ok (.istore_n 1, 1) := by decide +kernel
theorem dX8_putAside_2 : decode cX8_putAside 2 = .ok (.iload_n 1, 1) := by decide +kernel
theorem dX8_putAside_3 : decode cX8_putAside 3 = .ok (.sipush 151, 3) := by decide +kernel
theorem dX8_putAside_6 : decode cX8_putAside 6 = .ok (.if_icmp .ge 21, 3) := by decide +kernel
theorem dX8_putAside_9 : decode cX8_putAside 9 = .ok (.aload_n 0, 1) := by decide +kernel
theorem dX8_putAside_10 : decode cX8_putAside 10 = .ok (.getfield 13, 3) := by decide +kernel
theorem dX8_putAside_13 : decode cX8_putAside 13 = .ok (.iload_n 1, 1) := by decide +kernel
theorem dX8_putAside_14 : decode cX8_putAside 14 = .ok (.aload_n 0, 1) := by decide +kernel
theorem dX8_putAside_15 : decode cX8_putAside 15 = .ok (.getfield 7, 3) := by decide +kernel
theorem dX8_putAside_18 : decode cX8_putAside 18 = .ok (.iload_n 1, 1) := by decide +kernel
theorem dX8_putAside_19 : decode cX8_putAside 19 = .ok (.iaload, 1) := by decide +kernel
theorem dX8_putAside_20 : decode cX8_putAside 20 = .ok (.iastore, 1) := by decide +kernel
theorem dX8_putAside_21 : decode cX8_putAside 21 = .ok (.iinc 1 1, 3) := by decide +kernel
theorem dX8_putAside_24 : decode cX8_putAside 24 = .ok (.goto (-22), 3) := by decide +kernel
theorem dX8_putAside_27 : decode cX8_putAside 27 = .ok (.return_, 1) := by decide +kernel
theorem dX8_putBack_0 : decode cX8_putBack 0 = .ok (.iconst 0, 1) := by decide +kernel
theorem dX8_putBack_1 : decode cX8_putBack 1 = .ok (.istore_n 1, 1) := by decide +kernel
theorem dX8_putBack_2 : decode cX8_putBack 2 = .ok (.iload_n 1, 1) := by decide +kernel
theorem dX8_putBack_3 : decode cX8_putBack 3 = .ok (.sipush 151, 3) := by decide +kernel
theorem dX8_putBack_6 : decode cX8_putBack 6 = .ok (.if_icmp .ge 21, 3) := by decide +kernel
theorem dX8_putBack_9 : decode cX8_putBack 9 = .ok (.aload_n 0, 1) := by decide +kernel
theorem dX8_putBack_10 : decode cX8_putBack 10 = .ok (.getfield 7, 3) := by decide +kernel
theorem dX8_putBack_13 : decode cX8_putBack 13 = .ok (.iload_n 1, 1) := by decide +kernel
theorem dX8_putBack_14 : decode cX8_putBack 14 = .ok (.aload_n 0, 1) := by decide +kernel
theorem dX8_putBack_15 : decode cX8_putBack 15 = .ok (.getfield 13, 3) := by decide +kernel
theorem dX8_putBack_18 : decode cX8_putBack 18 = .ok (.iload_n 1, 1) := by decide +kernel
theorem dX8_putBack_19 : decode cX8_putBack 19 = .ok (.iaload, 1) := by decide +kernel
theorem dX8_putBack_20 : decode cX8_putBack 20 = .ok (.iastore, 1) := by decide +kernel
theorem dX8_putBack_21 : decode cX8_putBack 21 = .ok (.iinc 1 1, 3) := by decide +kernel
theorem dX8_putBack_24 : decode cX8_putBack 24 = .ok (.goto (-22), 3) := by decide +kernel
theorem dX8_putBack_27 : decode cX8_putBack 27 = .ok (.return_, 1) := by decide +kernel
theorem dX8_changed_0 : decode cX8_changed 0 = .ok (.iload_n 1, 1) := by decide +kernel
theorem dX8_changed_1 : decode cX8_changed 1 = .ok (.ifCond .lt 7, 3) := by decide +kernel
theorem dX8_changed_4 : decode cX8_changed 4 = .ok (.aload_n 0, 1) := by decide +kernel
theorem dX8_changed_5 : decode cX8_changed 5 = .ok (.invokevirtual 37, 3) := by decide +kernel
theorem dX8_changed_8 : decode cX8_changed 8 = .ok (.iload_n 1, 1) := by decide +kernel
theorem dX8_changed_9 : decode cX8_changed 9 = .ok (.ireturn, 1) := by decide +kernel
theorem dX8_becomes_0 : decode cX8_becomes 0 = .ok (.aload_n 0, 1) := by decide +kernel
theorem dX8_becomes_1 : decode cX8_becomes 1 = .ok (.getfield 7, 3) := by decide +kernel
theorem dX8_becomes_4 : decode cX8_becomes 4 = .ok (.iload_n 1, 1) := by decide +kernel
theorem dX8_becomes_5 : decode cX8_becomes 5 = .ok (.iaload, 1) := by decide +kernel
theorem dX8_becomes_6 : decode cX8_becomes 6 = .ok (.istore_n 3, 1) := by decide +kernel
theorem dX8_becomes_7 : decode cX8_becomes 7 = .ok (.aload_n 0, 1) := by decide +kernel
theorem dX8_becomes_8 : decode cX8_becomes 8 = .ok (.getfield 7, 3) := by decide +kernel
theorem dX8_becomes_11 : decode cX8_becomes 11 = .ok (.iload_n 1, 1) := by decide +kernel
theorem dX8_becomes_12 : decode cX8_becomes 12 = .ok (.iload_n 2, 1) := by decide +kernel
theorem dX8_becomes_13 : decode cX8_becomes 13 = .ok (.iastore, 1) := by decide +kernel
theorem dX8_becomes_14 : decode cX8_becomes 14 = .ok (.iload_n 3, 1) := by decide +kernel
theorem dX8_becomes_15 : decode cX8_becomes 15 = .ok (.ireturn, 1) := by decide +kernel
theorem dX8_chanceBy_0 : decode cX8_chanceBy 0 = .ok (.aload_n 0, 1) := by decide +kernel
theorem dX8_chanceBy_1 : decode cX8_chanceBy 1 = .ok (.getfield 7, 3) := by decide +kernel
theorem dX8_chanceBy_4 : decode cX8_chanceBy 4 = .ok (.sipush 143, 3) := by decide +kernel
theorem dX8_chanceBy_7 : decode cX8_chanceBy 7 = .ok (.iaload, 1) := by decide +kernel
theorem dX8_chanceBy_8 : decode cX8_chanceBy 8 = .ok (.iload_n 1, 1) := by decide +kernel
theorem dX8_chanceBy_9 : decode cX8_chanceBy 9 = .ok (.imul, 1) := by decide +kernel
theorem dX8_chanceBy_10 : decode cX8_chanceBy 10 = .ok (.istore_n 2, 1) := by decide +kernel
theorem dX8_chanceBy_11 : decode cX8_chanceBy 11 = .ok (.iload_n 2, 1) := by decide +kernel
theorem dX8_chanceBy_12 : decode cX8_chanceBy 12 = .ok (.bipush 90, 2) := by decide +kernel
theorem dX8_chanceBy_14 : decode cX8_chanceBy 14 = .ok (.if_icmp .le 8, 3) := by decide +kernel
theorem dX8_chanceBy_17 : decode cX8_chanceBy 17 = .ok (.bipush 90, 2) := by decide +kernel
theorem dX8_chanceBy_19 : decode cX8_chanceBy 19 = .ok (.goto 4, 3) := by decide +kernel
theorem dX8_chanceBy_22 : decode cX8_chanceBy 22 = .ok (.iload_n 2, 1) := by decide +kernel
theorem dX8_chanceBy_23 : decode cX8_chanceBy 23 = .ok (.ireturn, 1) := by decide +kernel
theorem dX8_chanceOf_0 : decode cX8_chanceOf 0 = .ok (.aload_n 0, 1) := by decide +kernel
theorem dX8_chanceOf_1 : decode cX8_chanceOf 1 = .ok (.aload_n 0, 1) := by decide +kernel
theorem dX8_chanceOf_2 : decode cX8_chanceOf 2 = .ok (.getfield 7, 3) := by decide +kernel
theorem dX8_chanceOf_5 : decode cX8_chanceOf 5 = .ok (.iload_n 1, 1) := by decide +kernel
theorem dX8_chanceOf_6 : decode cX8_chanceOf 6 = .ok (.iconst 3, 1) := by decide +kernel
theorem dX8_chanceOf_7 : decode cX8_chanceOf 7 = .ok (.invokestatic 40, 3) := by decide +kernel
theorem dX8_chanceOf_10 : decode cX8_chanceOf 10 = .ok (.iaload, 1) := by decide +kernel
theorem dX8_chanceOf_11 : decode cX8_chanceOf 11 = .ok (.invokevirtual 44, 3) := by decide +kernel
theorem dX8_chanceOf_14 : decode cX8_chanceOf 14 = .ok (.ireturn, 1) := by decide +kernel
theorem dX8_end_0 : decode cX8_end 0 = .ok (.aload_n 0, 1) := by decide +kernel
theorem dX8_end_1 : decode cX8_end 1 = .ok (.getfield 7, 3) := by decide +kernel
theorem dX8_end_4 : decode cX8_end 4 = .ok (.iload_n 1, 1) := by decide +kernel
theorem dX8_end_5 : decode cX8_end 5 = .ok (.iload_n 2, 1) := by decide +kernel
theorem dX8_end_6 : decode cX8_end 6 = .ok (.invokestatic 40, 3) := by decide +kernel
theorem dX8_end_9 : decode cX8_end 9 = .ok (.iaload, 1) := by decide +kernel
theorem dX8_end_10 : decode cX8_end 10 = .ok (.ireturn, 1) := by decide +kernel
theorem dX8_mostHidden_0 : decode cX8_mostHidden 0 = .ok (.bipush 100, 2) := by decide +kernel
theorem dX8_mostHidden_2 : decode cX8_mostHidden 2 = .ok (.iload_n 1, 1) := by decide +kernel
theorem dX8_mostHidden_3 : decode cX8_mostHidden 3 = .ok (.imul, 1) := by decide +kernel
theorem dX8_mostHidden_4 : decode cX8_mostHidden 4 = .ok (.iload_n 2, 1) := by decide +kernel
theorem dX8_mostHidden_5 : decode cX8_mostHidden 5 = .ok (.aload_n 0, 1) := by decide +kernel
theorem dX8_mostHidden_6 : decode cX8_mostHidden 6 = .ok (.getfield 7, 3) := by decide +kernel
theorem dX8_mostHidden_9 : decode cX8_mostHidden 9 = .ok (.sipush 142, 3) := by decide +kernel
theorem dX8_mostHidden_12 : decode cX8_mostHidden 12 = .ok (.iaload, 1) := by decide +kernel
theorem dX8_mostHidden_13 : decode cX8_mostHidden 13 = .ok (.imul, 1) := by decide +kernel
theorem dX8_mostHidden_14 : decode cX8_mostHidden 14 = .ok (.iadd, 1) := by decide +kernel
theorem dX8_mostHidden_15 : decode cX8_mostHidden 15 = .ok (.bipush 100, 2) := by decide +kernel
theorem dX8_mostHidden_17 : decode cX8_mostHidden 17 = .ok (.iload_n 2, 1) := by decide +kernel
theorem dX8_mostHidden_18 : decode cX8_mostHidden 18 = .ok (.isub, 1) := by decide +kernel
theorem dX8_mostHidden_19 : decode cX8_mostHidden 19 = .ok (.idiv, 1) := by decide +kernel
theorem dX8_mostHidden_20 : decode cX8_mostHidden 20 = .ok (.ireturn, 1) := by decide +kernel
theorem dX8_mostAt_0 : decode cX8_mostAt 0 = .ok (.aload_n 0, 1) := by decide +kernel
theorem dX8_mostAt_1 : decode cX8_mostAt 1 = .ok (.getfield 7, 3) := by decide +kernel
theorem dX8_mostAt_4 : decode cX8_mostAt 4 = .ok (.iconst 0, 1) := by decide +kernel
theorem dX8_mostAt_5 : decode cX8_mostAt 5 = .ok (.aload_n 0, 1) := by decide +kernel
theorem dX8_mostAt_6 : decode cX8_mostAt 6 = .ok (.iload_n 1, 1) := by decide +kernel
theorem dX8_mostAt_7 : decode cX8_mostAt 7 = .ok (.iload_n 2, 1) := by decide +kernel
theorem dX8_mostAt_8 : decode cX8_mostAt 8 = .ok (.invokevirtual 48, 3) := by decide +kernel
theorem dX8_mostAt_11 : decode cX8_mostAt 11 = .ok (.iadd, 1) := by decide +kernel
theorem dX8_mostAt_12 : decode cX8_mostAt 12 = .ok (.iaload, 1) := by decide +kernel
theorem dX8_mostAt_13 : decode cX8_mostAt 13 = .ok (.istore_n 3, 1) := by decide +kernel
theorem dX8_mostAt_14 : decode cX8_mostAt 14 = .ok (.iload_n 3, 1) := by decide +kernel
theorem dX8_mostAt_15 : decode cX8_mostAt 15 = .ok (.aload_n 0, 1) := by decide +kernel
theorem dX8_mostAt_16 : decode cX8_mostAt 16 = .ok (.getfield 7, 3) := by decide +kernel
theorem dX8_mostAt_19 : decode cX8_mostAt 19 = .ok (.iload_n 1, 1) := by decide +kernel
theorem dX8_mostAt_20 : decode cX8_mostAt 20 = .ok (.iconst 2, 1) := by decide +kernel
theorem dX8_mostAt_21 : decode cX8_mostAt 21 = .ok (.invokestatic 40, 3) := by decide +kernel
theorem dX8_mostAt_24 : decode cX8_mostAt 24 = .ok (.iaload, 1) := by decide +kernel
theorem dX8_mostAt_25 : decode cX8_mostAt 25 = .ok (.iadd, 1) := by decide +kernel
theorem dX8_mostAt_26 : decode cX8_mostAt 26 = .ok (.istore 4, 2) := by decide +kernel
theorem dX8_mostAt_28 : decode cX8_mostAt 28 = .ok (.aload_n 0, 1) := by decide +kernel
theorem dX8_mostAt_29 : decode cX8_mostAt 29 = .ok (.iload_n 3, 1) := by decide +kernel
theorem dX8_mostAt_30 : decode cX8_mostAt 30 = .ok (.aload_n 0, 1) := by decide +kernel
theorem dX8_mostAt_31 : decode cX8_mostAt 31 = .ok (.iload_n 1, 1) := by decide +kernel
theorem dX8_mostAt_32 : decode cX8_mostAt 32 = .ok (.invokevirtual 51, 3) := by decide +kernel
theorem dX8_mostAt_35 : decode cX8_mostAt 35 = .ok (.invokevirtual 54, 3) := by decide +kernel
theorem dX8_mostAt_38 : decode cX8_mostAt 38 = .ok (.istore 5, 2) := by decide +kernel
theorem dX8_mostAt_40 : decode cX8_mostAt 40 = .ok (.iload 4, 2) := by decide +kernel
theorem dX8_mostAt_42 : decode cX8_mostAt 42 = .ok (.iload 5, 2) := by decide +kernel
theorem dX8_mostAt_44 : decode cX8_mostAt 44 = .ok (.if_icmp .ge 8, 3) := by decide +kernel
theorem dX8_mostAt_47 : decode cX8_mostAt 47 = .ok (.iload 4, 2) := by decide +kernel
theorem dX8_mostAt_49 : decode cX8_mostAt 49 = .ok (.goto 5, 3) := by decide +kernel
theorem dX8_mostAt_52 : decode cX8_mostAt 52 = .ok (.iload 5, 2) := by decide +kernel
theorem dX8_mostAt_54 : decode cX8_mostAt 54 = .ok (.ireturn, 1) := by decide +kernel
theorem dX8_isHonest_0 : decode cX8_isHonest 0 = .ok (.aload_n 0, 1) := by decide +kernel
theorem dX8_isHonest_1 : decode cX8_isHonest 1 = .ok (.getfield 7, 3) := by decide +kernel
theorem dX8_isHonest_4 : decode cX8_isHonest 4 = .ok (.iconst 0, 1) := by decide +kernel
theorem dX8_isHonest_5 : decode cX8_isHonest 5 = .ok (.aload_n 0, 1) := by decide +kernel
theorem dX8_isHonest_6 : decode cX8_isHonest 6 = .ok (.iload_n 1, 1) := by decide +kernel
theorem dX8_isHonest_7 : decode cX8_isHonest 7 = .ok (.iconst 1, 1) := by decide +kernel
theorem dX8_isHonest_8 : decode cX8_isHonest 8 = .ok (.iload_n 2, 1) := by decide +kernel
theorem dX8_isHonest_9 : decode cX8_isHonest 9 = .ok (.isub, 1) := by decide +kernel
theorem dX8_isHonest_10 : decode cX8_isHonest 10 = .ok (.invokevirtual 48, 3) := by decide +kernel
theorem dX8_isHonest_13 : decode cX8_isHonest 13 = .ok (.iadd, 1) := by decide +kernel
theorem dX8_isHonest_14 : decode cX8_isHonest 14 = .ok (.iaload, 1) := by decide +kernel
theorem dX8_isHonest_15 : decode cX8_isHonest 15 = .ok (.aload_n 0, 1) := by decide +kernel
theorem dX8_isHonest_16 : decode cX8_isHonest 16 = .ok (.iload_n 1, 1) := by decide +kernel
theorem dX8_isHonest_17 : decode cX8_isHonest 17 = .ok (.iload_n 2, 1) := by decide +kernel
theorem dX8_isHonest_18 : decode cX8_isHonest 18 = .ok (.invokevirtual 57, 3) := by decide +kernel
theorem dX8_isHonest_21 : decode cX8_isHonest 21 = .ok (.if_icmp .gt 7, 3) := by decide +kernel
theorem dX8_isHonest_24 : decode cX8_isHonest 24 = .ok (.iconst 1, 1) := by decide +kernel
theorem dX8_isHonest_25 : decode cX8_isHonest 25 = .ok (.goto 4, 3) := by decide +kernel
theorem dX8_isHonest_28 : decode cX8_isHonest 28 = .ok (.iconst 0, 1) := by decide +kernel
theorem dX8_isHonest_29 : decode cX8_isHonest 29 = .ok (.ireturn, 1) := by decide +kernel
theorem dX8_dishonest_0 : decode cX8_dishonest 0 = .ok (.bipush (-6), 2) := by decide +kernel
theorem dX8_dishonest_2 : decode cX8_dishonest 2 = .ok (.istore_n 1, 1) := by decide +kernel
theorem dX8_dishonest_3 : decode cX8_dishonest 3 = .ok (.iconst 2, 1) := by decide +kernel
theorem dX8_dishonest_4 : decode cX8_dishonest 4 = .ok (.aload_n 0, 1) := by decide +kernel
theorem dX8_dishonest_5 : decode cX8_dishonest 5 = .ok (.getfield 7, 3) := by decide +kernel
theorem dX8_dishonest_8 : decode cX8_dishonest 8 = .ok (.bipush 8, 2) := by decide +kernel
theorem dX8_dishonest_10 : decode cX8_dishonest 10 = .ok (.iaload, 1) := by decide +kernel
theorem dX8_dishonest_11 : decode cX8_dishonest 11 = .ok (.imul, 1) := by decide +kernel
theorem dX8_dishonest_12 : decode cX8_dishonest 12 = .ok (.iconst 1, 1) := by decide +kernel
theorem dX8_dishonest_13 : decode cX8_dishonest 13 = .ok (.isub, 1) := by decide +kernel
theorem dX8_dishonest_14 : decode cX8_dishonest 14 = .ok (.istore_n 2, 1) := by decide +kernel
theorem dX8_dishonest_15 : decode cX8_dishonest 15 = .ok (.iload_n 2, 1) := by decide +kernel
theorem dX8_dishonest_16 : decode cX8_dishonest 16 = .ok (.ifCond .lt 28, 3) := by decide +kernel
theorem dX8_dishonest_19 : decode cX8_dishonest 19 = .ok (.aload_n 0, 1) := by decide +kernel
theorem dX8_dishonest_20 : decode cX8_dishonest 20 = .ok (.iload_n 2, 1) := by decide +kernel
theorem dX8_dishonest_21 : decode cX8_dishonest 21 = .ok (.iconst 2, 1) := by decide +kernel
theorem dX8_dishonest_22 : decode cX8_dishonest 22 = .ok (.idiv, 1) := by decide +kernel
theorem dX8_dishonest_23 : decode cX8_dishonest 23 = .ok (.iload_n 2, 1) := by decide +kernel
theorem dX8_dishonest_24 : decode cX8_dishonest 24 = .ok (.iconst 2, 1) := by decide +kernel
theorem dX8_dishonest_25 : decode cX8_dishonest 25 = .ok (.irem, 1) := by decide +kernel
theorem dX8_dishonest_26 : decode cX8_dishonest 26 = .ok (.invokevirtual 60, 3) := by decide +kernel
theorem dX8_dishonest_29 : decode cX8_dishonest 29 = .ok (.ifCond .eq 7, 3) := by decide +kernel
theorem dX8_dishonest_32 : decode cX8_dishonest 32 = .ok (.iload_n 1, 1) := by decide +kernel
theorem dX8_dishonest_33 : decode cX8_dishonest 33 = .ok (.goto 4, 3) := by decide +kernel
theorem dX8_dishonest_36 : decode cX8_dishonest 36 = .ok (.iload_n 2, 1) := by decide +kernel
theorem dX8_dishonest_37 : decode cX8_dishonest 37 = .ok (.istore_n 1, 1) := by decide +kernel
theorem dX8_dishonest_38 : decode cX8_dishonest 38 = .ok (.iinc 2 (-1), 3) := by decide +kernel
theorem dX8_dishonest_41 : decode cX8_dishonest 41 = .ok (.goto (-26), 3) := by decide +kernel
theorem dX8_dishonest_44 : decode cX8_dishonest 44 = .ok (.iload_n 1, 1) := by decide +kernel
theorem dX8_dishonest_45 : decode cX8_dishonest 45 = .ok (.ireturn, 1) := by decide +kernel
theorem dX8_makes_0 : decode cX8_makes 0 = .ok (.iconst 0, 1) := by decide +kernel
theorem dX8_makes_1 : decode cX8_makes 1 = .ok (.istore_n 1, 1) := by decide +kernel
theorem dX8_makes_2 : decode cX8_makes 2 = .ok (.aload_n 0, 1) := by decide +kernel
theorem dX8_makes_3 : decode cX8_makes 3 = .ok (.invokevirtual 64, 3) := by decide +kernel
theorem dX8_makes_6 : decode cX8_makes 6 = .ok (.istore_n 2, 1) := by decide +kernel
theorem dX8_makes_7 : decode cX8_makes 7 = .ok (.iload_n 2, 1) := by decide +kernel
theorem dX8_makes_8 : decode cX8_makes 8 = .ok (.bipush (-6), 2) := by decide +kernel
theorem dX8_makes_10 : decode cX8_makes 10 = .ok (.if_icmp .eq 48, 3) := by decide +kernel
theorem dX8_makes_13 : decode cX8_makes 13 = .ok (.aload_n 0, 1) := by decide +kernel
theorem dX8_makes_14 : decode cX8_makes 14 = .ok (.iload_n 2, 1) := by decide +kernel
theorem dX8_makes_15 : decode cX8_makes 15 = .ok (.iconst 2, 1) := by decide +kernel
theorem dX8_makes_16 : decode cX8_makes 16 = .ok (.idiv, 1) := by decide +kernel
theorem dX8_makes_17 : decode cX8_makes 17 = .ok (.iconst 1, 1) := by decide +kernel
theorem dX8_makes_18 : decode cX8_makes 18 = .ok (.iload_n 2, 1) := by decide +kernel
theorem dX8_makes_19 : decode cX8_makes 19 = .ok (.iconst 2, 1) := by decide +kernel
theorem dX8_makes_20 : decode cX8_makes 20 = .ok (.irem, 1) := by decide +kernel
theorem dX8_makes_21 : decode cX8_makes 21 = .ok (.isub, 1) := by decide +kernel
theorem dX8_makes_22 : decode cX8_makes 22 = .ok (.invokevirtual 48, 3) := by decide +kernel
theorem dX8_makes_25 : decode cX8_makes 25 = .ok (.istore_n 3, 1) := by decide +kernel
theorem dX8_makes_26 : decode cX8_makes 26 = .ok (.iload_n 1, 1) := by decide +kernel
theorem dX8_makes_27 : decode cX8_makes 27 = .ok (.iconst 1, 1) := by decide +kernel
theorem dX8_makes_28 : decode cX8_makes 28 = .ok (.iload_n 3, 1) := by decide +kernel
theorem dX8_makes_29 : decode cX8_makes 29 = .ok (.ishl, 1) := by decide +kernel
theorem dX8_makes_30 : decode cX8_makes 30 = .ok (.ior, 1) := by decide +kernel
theorem dX8_makes_31 : decode cX8_makes 31 = .ok (.istore_n 1, 1) := by decide +kernel
theorem dX8_makes_32 : decode cX8_makes 32 = .ok (.aload_n 0, 1) := by decide +kernel
theorem dX8_makes_33 : decode cX8_makes 33 = .ok (.getfield 7, 3) := by decide +kernel
theorem dX8_makes_36 : decode cX8_makes 36 = .ok (.iconst 0, 1) := by decide +kernel
theorem dX8_makes_37 : decode cX8_makes 37 = .ok (.iload_n 3, 1) := by decide +kernel
theorem dX8_makes_38 : decode cX8_makes 38 = .ok (.iadd, 1) := by decide +kernel
theorem dX8_makes_39 : decode cX8_makes 39 = .ok (.aload_n 0, 1) := by decide +kernel
theorem dX8_makes_40 : decode cX8_makes 40 = .ok (.iload_n 2, 1) := by decide +kernel
theorem dX8_makes_41 : decode cX8_makes 41 = .ok (.iconst 2, 1) := by decide +kernel
theorem dX8_makes_42 : decode cX8_makes 42 = .ok (.idiv, 1) := by decide +kernel
theorem dX8_makes_43 : decode cX8_makes 43 = .ok (.iload_n 2, 1) := by decide +kernel
theorem dX8_makes_44 : decode cX8_makes 44 = .ok (.iconst 2, 1) := by decide +kernel
theorem dX8_makes_45 : decode cX8_makes 45 = .ok (.irem, 1) := by decide +kernel
theorem dX8_makes_46 : decode cX8_makes 46 = .ok (.invokevirtual 57, 3) := by decide +kernel
theorem dX8_makes_49 : decode cX8_makes 49 = .ok (.iastore, 1) := by decide +kernel
theorem dX8_makes_50 : decode cX8_makes 50 = .ok (.aload_n 0, 1) := by decide +kernel
theorem dX8_makes_51 : decode cX8_makes 51 = .ok (.invokevirtual 64, 3) := by decide +kernel
theorem dX8_makes_54 : decode cX8_makes 54 = .ok (.istore_n 2, 1) := by decide +kernel
theorem dX8_makes_55 : decode cX8_makes 55 = .ok (.goto (-48), 3) := by decide +kernel
theorem dX8_makes_58 : decode cX8_makes 58 = .ok (.iconst 0, 1) := by decide +kernel
theorem dX8_makes_59 : decode cX8_makes 59 = .ok (.istore_n 3, 1) := by decide +kernel
theorem dX8_makes_60 : decode cX8_makes 60 = .ok (.iconst 0, 1) := by decide +kernel
theorem dX8_makes_61 : decode cX8_makes 61 = .ok (.istore 4, 2) := by decide +kernel
theorem dX8_makes_63 : decode cX8_makes 63 = .ok (.iload 4, 2) := by decide +kernel
theorem dX8_makes_65 : decode cX8_makes 65 = .ok (.bipush 8, 2) := by decide +kernel
theorem dX8_makes_67 : decode cX8_makes 67 = .ok (.if_icmp .ge 18, 3) := by decide +kernel
theorem dX8_makes_70 : decode cX8_makes 70 = .ok (.iload_n 3, 1) := by decide +kernel
theorem dX8_makes_71 : decode cX8_makes 71 = .ok (.iload_n 1, 1) := by decide +kernel
theorem dX8_makes_72 : decode cX8_makes 72 = .ok (.iload 4, 2) := by decide +kernel
theorem dX8_makes_74 : decode cX8_makes 74 = .ok (.ishr, 1) := by decide +kernel
theorem dX8_makes_75 : decode cX8_makes 75 = .ok (.iconst 1, 1) := by decide +kernel
theorem dX8_makes_76 : decode cX8_makes 76 = .ok (.iand, 1) := by decide +kernel
theorem dX8_makes_77 : decode cX8_makes 77 = .ok (.iadd, 1) := by decide +kernel
theorem dX8_makes_78 : decode cX8_makes 78 = .ok (.istore_n 3, 1) := by decide +kernel
theorem dX8_makes_79 : decode cX8_makes 79 = .ok (.iinc 4 1, 3) := by decide +kernel
theorem dX8_makes_82 : decode cX8_makes 82 = .ok (.goto (-19), 3) := by decide +kernel
theorem dX8_makes_85 : decode cX8_makes 85 = .ok (.iload_n 3, 1) := by decide +kernel
theorem dX8_makes_86 : decode cX8_makes 86 = .ok (.ireturn, 1) := by decide +kernel
theorem dX8_power_0 : decode cX8_power 0 = .ok (.lconst 1, 1) := by decide +kernel
theorem dX8_power_1 : decode cX8_power 1 = .ok (.lstore_n 1, 1) := by decide +kernel
theorem dX8_power_2 : decode cX8_power 2 = .ok (.iconst 0, 1) := by decide +kernel
theorem dX8_power_3 : decode cX8_power 3 = .ok (.istore_n 3, 1) := by decide +kernel
theorem dX8_power_4 : decode cX8_power 4 = .ok (.iload_n 3, 1) := by decide +kernel
theorem dX8_power_5 : decode cX8_power 5 = .ok (.iload_n 0, 1) := by decide +kernel
theorem dX8_power_6 : decode cX8_power 6 = .ok (.if_icmp .ge 15, 3) := by decide +kernel
theorem dX8_power_9 : decode cX8_power 9 = .ok (.ldc2_w 68, 3) := by decide +kernel
theorem dX8_power_12 : decode cX8_power 12 = .ok (.lload_n 1, 1) := by decide +kernel
theorem dX8_power_13 : decode cX8_power 13 = .ok (.lmul, 1) := by decide +kernel
theorem dX8_power_14 : decode cX8_power 14 = .ok (.lstore_n 1, 1) := by decide +kernel
theorem dX8_power_15 : decode cX8_power 15 = .ok (.iinc 3 1, 3) := by decide +kernel
theorem dX8_power_18 : decode cX8_power 18 = .ok (.goto (-14), 3) := by decide +kernel
theorem dX8_power_21 : decode cX8_power 21 = .ok (.lload_n 1, 1) := by decide +kernel
theorem dX8_power_22 : decode cX8_power 22 = .ok (.lreturn, 1) := by decide +kernel
theorem dX8_by_0 : decode cX8_by 0 = .ok (.aload_n 0, 1) := by decide +kernel
theorem dX8_by_1 : decode cX8_by 1 = .ok (.getfield 25, 3) := by decide +kernel
theorem dX8_by_4 : decode cX8_by 4 = .ok (.bipush 8, 2) := by decide +kernel
theorem dX8_by_6 : decode cX8_by 6 = .ok (.iload_n 3, 1) := by decide +kernel
theorem dX8_by_7 : decode cX8_by 7 = .ok (.iconst 1, 1) := by decide +kernel
theorem dX8_by_8 : decode cX8_by 8 = .ok (.isub, 1) := by decide +kernel
theorem dX8_by_9 : decode cX8_by 9 = .ok (.imul, 1) := by decide +kernel
theorem dX8_by_10 : decode cX8_by 10 = .ok (.aload_n 0, 1) := by decide +kernel
theorem dX8_by_11 : decode cX8_by 11 = .ok (.iload_n 1, 1) := by decide +kernel
theorem dX8_by_12 : decode cX8_by 12 = .ok (.iconst 1, 1) := by decide +kernel
theorem dX8_by_13 : decode cX8_by 13 = .ok (.iload_n 2, 1) := by decide +kernel
theorem dX8_by_14 : decode cX8_by 14 = .ok (.isub, 1) := by decide +kernel
theorem dX8_by_15 : decode cX8_by 15 = .ok (.invokevirtual 48, 3) := by decide +kernel
theorem dX8_by_18 : decode cX8_by 18 = .ok (.iadd, 1) := by decide +kernel
theorem dX8_by_19 : decode cX8_by 19 = .ok (.laload, 1) := by decide +kernel
theorem dX8_by_20 : decode cX8_by 20 = .ok (.lstore 5, 2) := by decide +kernel
theorem dX8_by_22 : decode cX8_by 22 = .ok (.aload_n 0, 1) := by decide +kernel
theorem dX8_by_23 : decode cX8_by 23 = .ok (.iload_n 1, 1) := by decide +kernel
theorem dX8_by_24 : decode cX8_by 24 = .ok (.invokevirtual 51, 3) := by decide +kernel
theorem dX8_by_27 : decode cX8_by 27 = .ok (.i2l, 1) := by decide +kernel
theorem dX8_by_28 : decode cX8_by 28 = .ok (.lstore 7, 2) := by decide +kernel
theorem dX8_by_30 : decode cX8_by 30 = .ok (.iload 4, 2) := by decide +kernel
theorem dX8_by_32 : decode cX8_by 32 = .ok (.ifCond .eq 33, 3) := by decide +kernel
theorem dX8_by_35 : decode cX8_by 35 = .ok (.ldc2_w 68, 3) := by decide +kernel
theorem dX8_by_38 : decode cX8_by 38 = .ok (.lload 7, 2) := by decide +kernel
theorem dX8_by_40 : decode cX8_by 40 = .ok (.lsub, 1) := by decide +kernel
theorem dX8_by_41 : decode cX8_by 41 = .ok (.lload 5, 2) := by decide +kernel
theorem dX8_by_43 : decode cX8_by 43 = .ok (.lmul, 1) := by decide +kernel
theorem dX8_by_44 : decode cX8_by 44 = .ok (.lload 7, 2) := by decide +kernel
theorem dX8_by_46 : decode cX8_by 46 = .ok (.aload_n 0, 1) := by decide +kernel
theorem dX8_by_47 : decode cX8_by 47 = .ok (.getfield 7, 3) := by decide +kernel
theorem dX8_by_50 : decode cX8_by 50 = .ok (.sipush 142, 3) := by decide +kernel
theorem dX8_by_53 : decode cX8_by 53 = .ok (.iaload, 1) := by decide +kernel
theorem dX8_by_54 : decode cX8_by 54 = .ok (.i2l, 1) := by decide +kernel
theorem dX8_by_55 : decode cX8_by 55 = .ok (.lmul, 1) := by decide +kernel
theorem dX8_by_56 : decode cX8_by 56 = .ok (.iload_n 3, 1) := by decide +kernel
theorem dX8_by_57 : decode cX8_by 57 = .ok (.iconst 1, 1) := by decide +kernel
theorem dX8_by_58 : decode cX8_by 58 = .ok (.isub, 1) := by decide +kernel
theorem dX8_by_59 : decode cX8_by 59 = .ok (.invokestatic 70, 3) := by decide +kernel
theorem dX8_by_62 : decode cX8_by 62 = .ok (.lmul, 1) := by decide +kernel
theorem dX8_by_63 : decode cX8_by 63 = .ok (.lsub, 1) := by decide +kernel
theorem dX8_by_64 : decode cX8_by 64 = .ok (.lreturn, 1) := by decide +kernel
theorem dX8_by_65 : decode cX8_by 65 = .ok (.ldc2_w 68, 3) := by decide +kernel
theorem dX8_by_68 : decode cX8_by 68 = .ok (.lload 5, 2) := by decide +kernel
theorem dX8_by_70 : decode cX8_by 70 = .ok (.lmul, 1) := by decide +kernel
theorem dX8_by_71 : decode cX8_by 71 = .ok (.aload_n 0, 1) := by decide +kernel
theorem dX8_by_72 : decode cX8_by 72 = .ok (.getfield 7, 3) := by decide +kernel
theorem dX8_by_75 : decode cX8_by 75 = .ok (.iload_n 1, 1) := by decide +kernel
theorem dX8_by_76 : decode cX8_by 76 = .ok (.iconst 2, 1) := by decide +kernel
theorem dX8_by_77 : decode cX8_by 77 = .ok (.invokestatic 40, 3) := by decide +kernel
theorem dX8_by_80 : decode cX8_by 80 = .ok (.iaload, 1) := by decide +kernel
theorem dX8_by_81 : decode cX8_by 81 = .ok (.i2l, 1) := by decide +kernel
theorem dX8_by_82 : decode cX8_by 82 = .ok (.iload_n 3, 1) := by decide +kernel
theorem dX8_by_83 : decode cX8_by 83 = .ok (.invokestatic 70, 3) := by decide +kernel
theorem dX8_by_86 : decode cX8_by 86 = .ok (.lmul, 1) := by decide +kernel
theorem dX8_by_87 : decode cX8_by 87 = .ok (.lsub, 1) := by decide +kernel
theorem dX8_by_88 : decode cX8_by 88 = .ok (.lreturn, 1) := by decide +kernel
theorem dX8_workOut_0 : decode cX8_workOut 0 = .ok (.iconst 0, 1) := by decide +kernel
theorem dX8_workOut_1 : decode cX8_workOut 1 = .ok (.istore_n 3, 1) := by decide +kernel
theorem dX8_workOut_2 : decode cX8_workOut 2 = .ok (.iload_n 3, 1) := by decide +kernel
theorem dX8_workOut_3 : decode cX8_workOut 3 = .ok (.bipush 8, 2) := by decide +kernel
theorem dX8_workOut_5 : decode cX8_workOut 5 = .ok (.if_icmp .ge 24, 3) := by decide +kernel
theorem dX8_workOut_8 : decode cX8_workOut 8 = .ok (.aload_n 0, 1) := by decide +kernel
theorem dX8_workOut_9 : decode cX8_workOut 9 = .ok (.getfield 25, 3) := by decide +kernel
theorem dX8_workOut_12 : decode cX8_workOut 12 = .ok (.iload_n 3, 1) := by decide +kernel
theorem dX8_workOut_13 : decode cX8_workOut 13 = .ok (.aload_n 0, 1) := by decide +kernel
theorem dX8_workOut_14 : decode cX8_workOut 14 = .ok (.getfield 7, 3) := by decide +kernel
theorem dX8_workOut_17 : decode cX8_workOut 17 = .ok (.iconst 0, 1) := by decide +kernel
theorem dX8_workOut_18 : decode cX8_workOut 18 = .ok (.iload_n 3, 1) := by decide +kernel
theorem dX8_workOut_19 : decode cX8_workOut 19 = .ok (.iadd, 1) := by decide +kernel
theorem dX8_workOut_20 : decode cX8_workOut 20 = .ok (.iaload, 1) := by decide +kernel
theorem dX8_workOut_21 : decode cX8_workOut 21 = .ok (.i2l, 1) := by decide +kernel
theorem dX8_workOut_22 : decode cX8_workOut 22 = .ok (.lastore, 1) := by decide +kernel
theorem dX8_workOut_23 : decode cX8_workOut 23 = .ok (.iinc 3 1, 3) := by decide +kernel
theorem dX8_workOut_26 : decode cX8_workOut 26 = .ok (.goto (-24), 3) := by decide +kernel
theorem dX8_workOut_29 : decode cX8_workOut 29 = .ok (.iconst 1, 1) := by decide +kernel
theorem dX8_workOut_30 : decode cX8_workOut 30 = .ok (.istore_n 3, 1) := by decide +kernel
theorem dX8_workOut_31 : decode cX8_workOut 31 = .ok (.iload_n 3, 1) := by decide +kernel
theorem dX8_workOut_32 : decode cX8_workOut 32 = .ok (.iload_n 1, 1) := by decide +kernel
theorem dX8_workOut_33 : decode cX8_workOut 33 = .ok (.if_icmp .gt 196, 3) := by decide +kernel
theorem dX8_workOut_36 : decode cX8_workOut 36 = .ok (.iconst 0, 1) := by decide +kernel
theorem dX8_workOut_37 : decode cX8_workOut 37 = .ok (.istore 4, 2) := by decide +kernel
theorem dX8_workOut_39 : decode cX8_workOut 39 = .ok (.iload 4, 2) := by decide +kernel
theorem dX8_workOut_41 : decode cX8_workOut 41 = .ok (.bipush 8, 2) := by decide +kernel
theorem dX8_workOut_43 : decode cX8_workOut 43 = .ok (.if_icmp .ge 39, 3) := by decide +kernel
theorem dX8_workOut_46 : decode cX8_workOut 46 = .ok (.aload_n 0, 1) := by decide +kernel
theorem dX8_workOut_47 : decode cX8_workOut 47 = .ok (.getfield 25, 3) := by decide +kernel
theorem dX8_workOut_50 : decode cX8_workOut 50 = .ok (.bipush 8, 2) := by decide +kernel
theorem dX8_workOut_52 : decode cX8_workOut 52 = .ok (.iload_n 3, 1) := by decide +kernel
theorem dX8_workOut_53 : decode cX8_workOut 53 = .ok (.imul, 1) := by decide +kernel
theorem dX8_workOut_54 : decode cX8_workOut 54 = .ok (.iload 4, 2) := by decide +kernel
theorem dX8_workOut_56 : decode cX8_workOut 56 = .ok (.iadd, 1) := by decide +kernel
theorem dX8_workOut_57 : decode cX8_workOut 57 = .ok (.ldc2_w 68, 3) := by decide +kernel
theorem dX8_workOut_60 : decode cX8_workOut 60 = .ok (.aload_n 0, 1) := by decide +kernel
theorem dX8_workOut_61 : decode cX8_workOut 61 = .ok (.getfield 25, 3) := by decide +kernel
theorem dX8_workOut_64 : decode cX8_workOut 64 = .ok (.bipush 8, 2) := by decide +kernel
theorem dX8_workOut_66 : decode cX8_workOut 66 = .ok (.iload_n 3, 1) := by decide +kernel
theorem dX8_workOut_67 : decode cX8_workOut 67 = .ok (.iconst 1, 1) := by decide +kernel
theorem dX8_workOut_68 : decode cX8_workOut 68 = .ok (.isub, 1) := by decide +kernel
theorem dX8_workOut_69 : decode cX8_workOut 69 = .ok (.imul, 1) := by decide +kernel
theorem dX8_workOut_70 : decode cX8_workOut 70 = .ok (.iload 4, 2) := by decide +kernel
theorem dX8_workOut_72 : decode cX8_workOut 72 = .ok (.iadd, 1) := by decide +kernel
theorem dX8_workOut_73 : decode cX8_workOut 73 = .ok (.laload, 1) := by decide +kernel
theorem dX8_workOut_74 : decode cX8_workOut 74 = .ok (.lmul, 1) := by decide +kernel
theorem dX8_workOut_75 : decode cX8_workOut 75 = .ok (.lastore, 1) := by decide +kernel
theorem dX8_workOut_76 : decode cX8_workOut 76 = .ok (.iinc 4 1, 3) := by decide +kernel
theorem dX8_workOut_79 : decode cX8_workOut 79 = .ok (.goto (-40), 3) := by decide +kernel
theorem dX8_workOut_82 : decode cX8_workOut 82 = .ok (.iconst 0, 1) := by decide +kernel
theorem dX8_workOut_83 : decode cX8_workOut 83 = .ok (.istore 4, 2) := by decide +kernel
theorem dX8_workOut_85 : decode cX8_workOut 85 = .ok (.iload 4, 2) := by decide +kernel
theorem dX8_workOut_87 : decode cX8_workOut 87 = .ok (.iconst 4, 1) := by decide +kernel
theorem dX8_workOut_88 : decode cX8_workOut 88 = .ok (.aload_n 0, 1) := by decide +kernel
theorem dX8_workOut_89 : decode cX8_workOut 89 = .ok (.getfield 7, 3) := by decide +kernel
theorem dX8_workOut_92 : decode cX8_workOut 92 = .ok (.bipush 8, 2) := by decide +kernel
theorem dX8_workOut_94 : decode cX8_workOut 94 = .ok (.iaload, 1) := by decide +kernel
theorem dX8_workOut_95 : decode cX8_workOut 95 = .ok (.imul, 1) := by decide +kernel
theorem dX8_workOut_96 : decode cX8_workOut 96 = .ok (.if_icmp .ge 127, 3) := by decide +kernel
theorem dX8_workOut_99 : decode cX8_workOut 99 = .ok (.iload 4, 2) := by decide +kernel
theorem dX8_workOut_101 : decode cX8_workOut 101 = .ok (.iconst 2, 1) := by decide +kernel
theorem dX8_workOut_102 : decode cX8_workOut 102 = .ok (.irem, 1) := by decide +kernel
theorem dX8_workOut_103 : decode cX8_workOut 103 = .ok (.iconst 1, 1) := by decide +kernel
theorem dX8_workOut_104 : decode cX8_workOut 104 = .ok (.if_icmp .ne 7, 3) := by decide +kernel
theorem dX8_workOut_107 : decode cX8_workOut 107 = .ok (.iconst 1, 1) := by decide +kernel
theorem dX8_workOut_108 : decode cX8_workOut 108 = .ok (.goto 4, 3) := by decide +kernel
theorem dX8_workOut_111 : decode cX8_workOut 111 = .ok (.iconst 0, 1) := by decide +kernel
theorem dX8_workOut_112 : decode cX8_workOut 112 = .ok (.istore 5, 2) := by decide +kernel
theorem dX8_workOut_114 : decode cX8_workOut 114 = .ok (.aload_n 0, 1) := by decide +kernel
theorem dX8_workOut_115 : decode cX8_workOut 115 = .ok (.iload 4, 2) := by decide +kernel
theorem dX8_workOut_117 : decode cX8_workOut 117 = .ok (.iconst 4, 1) := by decide +kernel
theorem dX8_workOut_118 : decode cX8_workOut 118 = .ok (.idiv, 1) := by decide +kernel
theorem dX8_workOut_119 : decode cX8_workOut 119 = .ok (.iload 4, 2) := by decide +kernel
theorem dX8_workOut_121 : decode cX8_workOut 121 = .ok (.iconst 2, 1) := by decide +kernel
theorem dX8_workOut_122 : decode cX8_workOut 122 = .ok (.idiv, 1) := by decide +kernel
theorem dX8_workOut_123 : decode cX8_workOut 123 = .ok (.iconst 2, 1) := by decide +kernel
theorem dX8_workOut_124 : decode cX8_workOut 124 = .ok (.irem, 1) := by decide +kernel
theorem dX8_workOut_125 : decode cX8_workOut 125 = .ok (.invokevirtual 48, 3) := by decide +kernel
theorem dX8_workOut_128 : decode cX8_workOut 128 = .ok (.istore 6, 2) := by decide +kernel
theorem dX8_workOut_130 : decode cX8_workOut 130 = .ok (.aload_n 0, 1) := by decide +kernel
theorem dX8_workOut_131 : decode cX8_workOut 131 = .ok (.iload 4, 2) := by decide +kernel
theorem dX8_workOut_133 : decode cX8_workOut 133 = .ok (.iconst 4, 1) := by decide +kernel
theorem dX8_workOut_134 : decode cX8_workOut 134 = .ok (.idiv, 1) := by decide +kernel
theorem dX8_workOut_135 : decode cX8_workOut 135 = .ok (.iload 4, 2) := by decide +kernel
theorem dX8_workOut_137 : decode cX8_workOut 137 = .ok (.iconst 2, 1) := by decide +kernel
theorem dX8_workOut_138 : decode cX8_workOut 138 = .ok (.idiv, 1) := by decide +kernel
theorem dX8_workOut_139 : decode cX8_workOut 139 = .ok (.iconst 2, 1) := by decide +kernel
theorem dX8_workOut_140 : decode cX8_workOut 140 = .ok (.irem, 1) := by decide +kernel
theorem dX8_workOut_141 : decode cX8_workOut 141 = .ok (.iload_n 3, 1) := by decide +kernel
theorem dX8_workOut_142 : decode cX8_workOut 142 = .ok (.iload 5, 2) := by decide +kernel
theorem dX8_workOut_144 : decode cX8_workOut 144 = .ok (.invokevirtual 74, 3) := by decide +kernel
theorem dX8_workOut_147 : decode cX8_workOut 147 = .ok (.lstore 7, 2) := by decide +kernel
theorem dX8_workOut_149 : decode cX8_workOut 149 = .ok (.lload 7, 2) := by decide +kernel
theorem dX8_workOut_151 : decode cX8_workOut 151 = .ok (.aload_n 0, 1) := by decide +kernel
theorem dX8_workOut_152 : decode cX8_workOut 152 = .ok (.getfield 25, 3) := by decide +kernel
theorem dX8_workOut_155 : decode cX8_workOut 155 = .ok (.bipush 8, 2) := by decide +kernel
theorem dX8_workOut_157 : decode cX8_workOut 157 = .ok (.iload_n 3, 1) := by decide +kernel
theorem dX8_workOut_158 : decode cX8_workOut 158 = .ok (.imul, 1) := by decide +kernel
theorem dX8_workOut_159 : decode cX8_workOut 159 = .ok (.iload 6, 2) := by decide +kernel
theorem dX8_workOut_161 : decode cX8_workOut 161 = .ok (.iadd, 1) := by decide +kernel
theorem dX8_workOut_162 : decode cX8_workOut 162 = .ok (.laload, 1) := by decide +kernel
theorem dX8_workOut_163 : decode cX8_workOut 163 = .ok (.lcmp, 1) := by decide +kernel
theorem dX8_workOut_164 : decode cX8_workOut 164 = .ok (.ifCond .le 16, 3) := by decide +kernel
theorem dX8_workOut_167 : decode cX8_workOut 167 = .ok (.iload 5, 2) := by decide +kernel
theorem dX8_workOut_169 : decode cX8_workOut 169 = .ok (.ifCond .eq 7, 3) := by decide +kernel
theorem dX8_workOut_172 : decode cX8_workOut 172 = .ok (.iload_n 2, 1) := by decide +kernel
theorem dX8_workOut_173 : decode cX8_workOut 173 = .ok (.ifCond .ne 7, 3) := by decide +kernel
theorem dX8_workOut_176 : decode cX8_workOut 176 = .ok (.iconst 1, 1) := by decide +kernel
theorem dX8_workOut_177 : decode cX8_workOut 177 = .ok (.goto 4, 3) := by decide +kernel
theorem dX8_workOut_180 : decode cX8_workOut 180 = .ok (.iconst 0, 1) := by decide +kernel
theorem dX8_workOut_181 : decode cX8_workOut 181 = .ok (.istore 9, 2) := by decide +kernel
theorem dX8_workOut_183 : decode cX8_workOut 183 = .ok (.aload_n 0, 1) := by decide +kernel
theorem dX8_workOut_184 : decode cX8_workOut 184 = .ok (.getfield 25, 3) := by decide +kernel
theorem dX8_workOut_187 : decode cX8_workOut 187 = .ok (.bipush 8, 2) := by decide +kernel
theorem dX8_workOut_189 : decode cX8_workOut 189 = .ok (.iload_n 3, 1) := by decide +kernel
theorem dX8_workOut_190 : decode cX8_workOut 190 = .ok (.imul, 1) := by decide +kernel
theorem dX8_workOut_191 : decode cX8_workOut 191 = .ok (.iload 6, 2) := by decide +kernel
theorem dX8_workOut_193 : decode cX8_workOut 193 = .ok (.iadd, 1) := by decide +kernel
theorem dX8_workOut_194 : decode cX8_workOut 194 = .ok (.iload 9, 2) := by decide +kernel
theorem dX8_workOut_196 : decode cX8_workOut 196 = .ok (.ifCond .eq 8, 3) := by decide +kernel
theorem dX8_workOut_199 : decode cX8_workOut 199 = .ok (.lload 7, 2) := by decide +kernel
theorem dX8_workOut_201 : decode cX8_workOut 201 = .ok (.goto 15, 3) := by decide +kernel
theorem dX8_workOut_204 : decode cX8_workOut 204 = .ok (.aload_n 0, 1) := by decide +kernel
theorem dX8_workOut_205 : decode cX8_workOut 205 = .ok (.getfield 25, 3) := by decide +kernel
theorem dX8_workOut_208 : decode cX8_workOut 208 = .ok (.bipush 8, 2) := by decide +kernel
theorem dX8_workOut_210 : decode cX8_workOut 210 = .ok (.iload_n 3, 1) := by decide +kernel
theorem dX8_workOut_211 : decode cX8_workOut 211 = .ok (.imul, 1) := by decide +kernel
theorem dX8_workOut_212 : decode cX8_workOut 212 = .ok (.iload 6, 2) := by decide +kernel
theorem dX8_workOut_214 : decode cX8_workOut 214 = .ok (.iadd, 1) := by decide +kernel
theorem dX8_workOut_215 : decode cX8_workOut 215 = .ok (.laload, 1) := by decide +kernel
theorem dX8_workOut_216 : decode cX8_workOut 216 = .ok (.lastore, 1) := by decide +kernel
theorem dX8_workOut_217 : decode cX8_workOut 217 = .ok (.iinc 4 1, 3) := by decide +kernel
theorem dX8_workOut_220 : decode cX8_workOut 220 = .ok (.goto (-135), 3) := by decide +kernel
theorem dX8_workOut_223 : decode cX8_workOut 223 = .ok (.iinc 3 1, 3) := by decide +kernel
theorem dX8_workOut_226 : decode cX8_workOut 226 = .ok (.goto (-195), 3) := by decide +kernel
theorem dX8_workOut_229 : decode cX8_workOut 229 = .ok (.return_, 1) := by decide +kernel
theorem dX8_worthOf_0 : decode cX8_worthOf 0 = .ok (.aload_n 0, 1) := by decide +kernel
theorem dX8_worthOf_1 : decode cX8_worthOf 1 = .ok (.iload_n 2, 1) := by decide +kernel
theorem dX8_worthOf_2 : decode cX8_worthOf 2 = .ok (.iload_n 3, 1) := by decide +kernel
theorem dX8_worthOf_3 : decode cX8_worthOf 3 = .ok (.invokevirtual 78, 3) := by decide +kernel
theorem dX8_worthOf_6 : decode cX8_worthOf 6 = .ok (.aload_n 0, 1) := by decide +kernel
theorem dX8_worthOf_7 : decode cX8_worthOf 7 = .ok (.getfield 25, 3) := by decide +kernel
theorem dX8_worthOf_10 : decode cX8_worthOf 10 = .ok (.bipush 8, 2) := by decide +kernel
theorem dX8_worthOf_12 : decode cX8_worthOf 12 = .ok (.iload_n 2, 1) := by decide +kernel
theorem dX8_worthOf_13 : decode cX8_worthOf 13 = .ok (.imul, 1) := by decide +kernel
theorem dX8_worthOf_14 : decode cX8_worthOf 14 = .ok (.iload_n 1, 1) := by decide +kernel
theorem dX8_worthOf_15 : decode cX8_worthOf 15 = .ok (.iadd, 1) := by decide +kernel
theorem dX8_worthOf_16 : decode cX8_worthOf 16 = .ok (.laload, 1) := by decide +kernel
theorem dX8_worthOf_17 : decode cX8_worthOf 17 = .ok (.lreturn, 1) := by decide +kernel
theorem dX8_pays_0 : decode cX8_pays 0 = .ok (.aload_n 0, 1) := by decide +kernel
theorem dX8_pays_1 : decode cX8_pays 1 = .ok (.getfield 7, 3) := by decide +kernel
theorem dX8_pays_4 : decode cX8_pays 4 = .ok (.sipush 144, 3) := by decide +kernel
theorem dX8_pays_7 : decode cX8_pays 7 = .ok (.iaload, 1) := by decide +kernel
theorem dX8_pays_8 : decode cX8_pays 8 = .ok (.istore_n 2, 1) := by decide +kernel
theorem dX8_pays_9 : decode cX8_pays 9 = .ok (.aload_n 0, 1) := by decide +kernel
theorem dX8_pays_10 : decode cX8_pays 10 = .ok (.iload_n 1, 1) := by decide +kernel
theorem dX8_pays_11 : decode cX8_pays 11 = .ok (.iload_n 2, 1) := by decide +kernel
theorem dX8_pays_12 : decode cX8_pays 12 = .ok (.iconst 1, 1) := by decide +kernel
theorem dX8_pays_13 : decode cX8_pays 13 = .ok (.invokevirtual 82, 3) := by decide +kernel
theorem dX8_pays_16 : decode cX8_pays 16 = .ok (.lstore_n 3, 1) := by decide +kernel
theorem dX8_pays_17 : decode cX8_pays 17 = .ok (.aload_n 0, 1) := by decide +kernel
theorem dX8_pays_18 : decode cX8_pays 18 = .ok (.iload_n 1, 1) := by decide +kernel
theorem dX8_pays_19 : decode cX8_pays 19 = .ok (.iload_n 2, 1) := by decide +kernel
theorem dX8_pays_20 : decode cX8_pays 20 = .ok (.iconst 0, 1) := by decide +kernel
theorem dX8_pays_21 : decode cX8_pays 21 = .ok (.invokevirtual 82, 3) := by decide +kernel
theorem dX8_pays_24 : decode cX8_pays 24 = .ok (.lload_n 3, 1) := by decide +kernel
theorem dX8_pays_25 : decode cX8_pays 25 = .ok (.lcmp, 1) := by decide +kernel
theorem dX8_pays_26 : decode cX8_pays 26 = .ok (.ifCond .le 7, 3) := by decide +kernel
theorem dX8_pays_29 : decode cX8_pays 29 = .ok (.iconst 1, 1) := by decide +kernel
theorem dX8_pays_30 : decode cX8_pays 30 = .ok (.goto 4, 3) := by decide +kernel
theorem dX8_pays_33 : decode cX8_pays 33 = .ok (.iconst 0, 1) := by decide +kernel
theorem dX8_pays_34 : decode cX8_pays 34 = .ok (.ireturn, 1) := by decide +kernel
theorem dX8_payingTowns_0 : decode cX8_payingTowns 0 = .ok (.iconst 0, 1) := by decide +kernel
theorem dX8_payingTowns_1 : decode cX8_payingTowns 1 = .ok (.istore_n 1, 1) := by decide +kernel
theorem dX8_payingTowns_2 : decode cX8_payingTowns 2 = .ok (.iconst 0, 1) := by decide +kernel
theorem dX8_payingTowns_3 : decode cX8_payingTowns 3 = .ok (.istore_n 2, 1) := by decide +kernel
theorem dX8_payingTowns_4 : decode cX8_payingTowns 4 = .ok (.iload_n 2, 1) := by decide +kernel
theorem dX8_payingTowns_5 : decode cX8_payingTowns 5 = .ok (.bipush 8, 2) := by decide +kernel
theorem dX8_payingTowns_7 : decode cX8_payingTowns 7 = .ok (.if_icmp .ge 27, 3) := by decide +kernel
theorem dX8_payingTowns_10 : decode cX8_payingTowns 10 = .ok (.iload_n 1, 1) := by decide +kernel
theorem dX8_payingTowns_11 : decode cX8_payingTowns 11 = .ok (.aload_n 0, 1) := by decide +kernel
theorem dX8_payingTowns_12 : decode cX8_payingTowns 12 = .ok (.iload_n 2, 1) := by decide +kernel
theorem dX8_payingTowns_13 : decode cX8_payingTowns 13 = .ok (.invokevirtual 86, 3) := by decide +kernel
theorem dX8_payingTowns_16 : decode cX8_payingTowns 16 = .ok (.ifCond .eq 9, 3) := by decide +kernel
theorem dX8_payingTowns_19 : decode cX8_payingTowns 19 = .ok (.iconst 1, 1) := by decide +kernel
theorem dX8_payingTowns_20 : decode cX8_payingTowns 20 = .ok (.iload_n 2, 1) := by decide +kernel
theorem dX8_payingTowns_21 : decode cX8_payingTowns 21 = .ok (.ishl, 1) := by decide +kernel
theorem dX8_payingTowns_22 : decode cX8_payingTowns 22 = .ok (.goto 4, 3) := by decide +kernel
theorem dX8_payingTowns_25 : decode cX8_payingTowns 25 = .ok (.iconst 0, 1) := by decide +kernel
theorem dX8_payingTowns_26 : decode cX8_payingTowns 26 = .ok (.ior, 1) := by decide +kernel
theorem dX8_payingTowns_27 : decode cX8_payingTowns 27 = .ok (.istore_n 1, 1) := by decide +kernel
theorem dX8_payingTowns_28 : decode cX8_payingTowns 28 = .ok (.iinc 2 1, 3) := by decide +kernel
theorem dX8_payingTowns_31 : decode cX8_payingTowns 31 = .ok (.goto (-27), 3) := by decide +kernel
theorem dX8_payingTowns_34 : decode cX8_payingTowns 34 = .ok (.iload_n 1, 1) := by decide +kernel
theorem dX8_payingTowns_35 : decode cX8_payingTowns 35 = .ok (.ireturn, 1) := by decide +kernel
theorem dX8_guards_0 : decode cX8_guards 0 = .ok (.iconst 0, 1) := by decide +kernel
theorem dX8_guards_1 : decode cX8_guards 1 = .ok (.istore_n 1, 1) := by decide +kernel
theorem dX8_guards_2 : decode cX8_guards 2 = .ok (.iconst 0, 1) := by decide +kernel
theorem dX8_guards_3 : decode cX8_guards 3 = .ok (.istore_n 2, 1) := by decide +kernel
theorem dX8_guards_4 : decode cX8_guards 4 = .ok (.iload_n 2, 1) := by decide +kernel
theorem dX8_guards_5 : decode cX8_guards 5 = .ok (.aload_n 0, 1) := by decide +kernel
theorem dX8_guards_6 : decode cX8_guards 6 = .ok (.getfield 7, 3) := by decide +kernel
theorem dX8_guards_9 : decode cX8_guards 9 = .ok (.bipush 8, 2) := by decide +kernel
theorem dX8_guards_11 : decode cX8_guards 11 = .ok (.iaload, 1) := by decide +kernel
theorem dX8_guards_12 : decode cX8_guards 12 = .ok (.if_icmp .ge 22, 3) := by decide +kernel
theorem dX8_guards_15 : decode cX8_guards 15 = .ok (.iload_n 1, 1) := by decide +kernel
theorem dX8_guards_16 : decode cX8_guards 16 = .ok (.aload_n 0, 1) := by decide +kernel
theorem dX8_guards_17 : decode cX8_guards 17 = .ok (.getfield 7, 3) := by decide +kernel
theorem dX8_guards_20 : decode cX8_guards 20 = .ok (.iload_n 2, 1) := by decide +kernel
theorem dX8_guards_21 : decode cX8_guards 21 = .ok (.iconst 3, 1) := by decide +kernel
theorem dX8_guards_22 : decode cX8_guards 22 = .ok (.invokestatic 40, 3) := by decide +kernel
theorem dX8_guards_25 : decode cX8_guards 25 = .ok (.iaload, 1) := by decide +kernel
theorem dX8_guards_26 : decode cX8_guards 26 = .ok (.iadd, 1) := by decide +kernel
theorem dX8_guards_27 : decode cX8_guards 27 = .ok (.istore_n 1, 1) := by decide +kernel
theorem dX8_guards_28 : decode cX8_guards 28 = .ok (.iinc 2 1, 3) := by decide +kernel
theorem dX8_guards_31 : decode cX8_guards 31 = .ok (.goto (-27), 3) := by decide +kernel
theorem dX8_guards_34 : decode cX8_guards 34 = .ok (.iload_n 1, 1) := by decide +kernel
theorem dX8_guards_35 : decode cX8_guards 35 = .ok (.ireturn, 1) := by decide +kernel
theorem dX8_least_0 : decode cX8_least 0 = .ok (.iload_n 0, 1) := by decide +kernel
theorem dX8_least_1 : decode cX8_least 1 = .ok (.iconst 1, 1) := by decide +kernel
theorem dX8_least_2 : decode cX8_least 2 = .ok (.if_icmp .eq 8, 3) := by decide +kernel
theorem dX8_least_5 : decode cX8_least 5 = .ok (.iload_n 0, 1) := by decide +kernel
theorem dX8_least_6 : decode cX8_least 6 = .ok (.iconst 2, 1) := by decide +kernel
theorem dX8_least_7 : decode cX8_least 7 = .ok (.if_icmp .ne 7, 3) := by decide +kernel
theorem dX8_least_10 : decode cX8_least 10 = .ok (.iconst 1, 1) := by decide +kernel
theorem dX8_least_11 : decode cX8_least 11 = .ok (.goto 4, 3) := by decide +kernel
theorem dX8_least_14 : decode cX8_least 14 = .ok (.iconst 0, 1) := by decide +kernel
theorem dX8_least_15 : decode cX8_least 15 = .ok (.ireturn, 1) := by decide +kernel
theorem dX8_most_0 : decode cX8_most 0 = .ok (.iload_n 0, 1) := by decide +kernel
theorem dX8_most_1 : decode cX8_most 1 = .ok (.ifCond .ne 9, 3) := by decide +kernel
theorem dX8_most_4 : decode cX8_most 4 = .ok (.sipush 500, 3) := by decide +kernel
theorem dX8_most_7 : decode cX8_most 7 = .ok (.goto 24, 3) := by decide +kernel
theorem dX8_most_10 : decode cX8_most 10 = .ok (.iload_n 0, 1) := by decide +kernel
theorem dX8_most_11 : decode cX8_most 11 = .ok (.iconst 1, 1) := by decide +kernel
theorem dX8_most_12 : decode cX8_most 12 = .ok (.if_icmp .ne 8, 3) := by decide +kernel
theorem dX8_most_15 : decode cX8_most 15 = .ok (.bipush 30, 2) := by decide +kernel
theorem dX8_most_17 : decode cX8_most 17 = .ok (.goto 14, 3) := by decide +kernel
theorem dX8_most_20 : decode cX8_most 20 = .ok (.iload_n 0, 1) := by decide +kernel
theorem dX8_most_21 : decode cX8_most 21 = .ok (.iconst 2, 1) := by decide +kernel
theorem dX8_most_22 : decode cX8_most 22 = .ok (.if_icmp .ne 7, 3) := by decide +kernel
theorem dX8_most_25 : decode cX8_most 25 = .ok (.iconst 4, 1) := by decide +kernel
theorem dX8_most_26 : decode cX8_most 26 = .ok (.goto 5, 3) := by decide +kernel
theorem dX8_most_29 : decode cX8_most 29 = .ok (.bipush 40, 2) := by decide +kernel
theorem dX8_most_31 : decode cX8_most 31 = .ok (.ireturn, 1) := by decide +kernel
theorem dX8_set_0 : decode cX8_set 0 = .ok (.aload_n 0, 1) := by decide +kernel
theorem dX8_set_1 : decode cX8_set 1 = .ok (.invokevirtual 90, 3) := by decide +kernel
theorem dX8_set_4 : decode cX8_set 4 = .ok (.iload_n 1, 1) := by decide +kernel
theorem dX8_set_5 : decode cX8_set 5 = .ok (.iconst 0, 1) := by decide +kernel
theorem dX8_set_6 : decode cX8_set 6 = .ok (.iconst 3, 1) := by decide +kernel
theorem dX8_set_7 : decode cX8_set 7 = .ok (.invokestatic 29, 3) := by decide +kernel
theorem dX8_set_10 : decode cX8_set 10 = .ok (.ifCond .eq 18, 3) := by decide +kernel
theorem dX8_set_13 : decode cX8_set 13 = .ok (.iload_n 2, 1) := by decide +kernel
theorem dX8_set_14 : decode cX8_set 14 = .ok (.iload_n 1, 1) := by decide +kernel
theorem dX8_set_15 : decode cX8_set 15 = .ok (.invokestatic 93, 3) := by decide +kernel
theorem dX8_set_18 : decode cX8_set 18 = .ok (.iload_n 1, 1) := by decide +kernel
theorem dX8_set_19 : decode cX8_set 19 = .ok (.invokestatic 96, 3) := by decide +kernel
theorem dX8_set_22 : decode cX8_set 22 = .ok (.invokestatic 29, 3) := by decide +kernel
theorem dX8_set_25 : decode cX8_set 25 = .ok (.ifCond .ne 6, 3) := by decide +kernel
theorem dX8_set_28 : decode cX8_set 28 = .ok (.bipush (-2), 2) := by decide +kernel
theorem dX8_set_30 : decode cX8_set 30 = .ok (.ireturn, 1) := by decide +kernel
theorem dX8_set_31 : decode cX8_set 31 = .ok (.iload_n 1, 1) := by decide +kernel
theorem dX8_set_32 : decode cX8_set 32 = .ok (.iconst 3, 1) := by decide +kernel
theorem dX8_set_33 : decode cX8_set 33 = .ok (.if_icmp .ne 14, 3) := by decide +kernel
theorem dX8_set_36 : decode cX8_set 36 = .ok (.aload_n 0, 1) := by decide +kernel
theorem dX8_set_37 : decode cX8_set 37 = .ok (.invokevirtual 99, 3) := by decide +kernel
theorem dX8_set_40 : decode cX8_set 40 = .ok (.iload_n 2, 1) := by decide +kernel
theorem dX8_set_41 : decode cX8_set 41 = .ok (.if_icmp .le 6, 3) := by decide +kernel
theorem dX8_set_44 : decode cX8_set 44 = .ok (.bipush (-5), 2) := by decide +kernel
theorem dX8_set_46 : decode cX8_set 46 = .ok (.ireturn, 1) := by decide +kernel
theorem dX8_set_47 : decode cX8_set 47 = .ok (.aload_n 0, 1) := by decide +kernel
theorem dX8_set_48 : decode cX8_set 48 = .ok (.aload_n 0, 1) := by decide +kernel
theorem dX8_set_49 : decode cX8_set 49 = .ok (.sipush 142, 3) := by decide +kernel
theorem dX8_set_52 : decode cX8_set 52 = .ok (.iload_n 1, 1) := by decide +kernel
theorem dX8_set_53 : decode cX8_set 53 = .ok (.iadd, 1) := by decide +kernel
theorem dX8_set_54 : decode cX8_set 54 = .ok (.iload_n 2, 1) := by decide +kernel
theorem dX8_set_55 : decode cX8_set 55 = .ok (.invokevirtual 102, 3) := by decide +kernel
theorem dX8_set_58 : decode cX8_set 58 = .ok (.invokevirtual 105, 3) := by decide +kernel
theorem dX8_set_61 : decode cX8_set 61 = .ok (.ireturn, 1) := by decide +kernel
theorem dX8_addsRoad_0 : decode cX8_addsRoad 0 = .ok (.iload_n 1, 1) := by decide +kernel
theorem dX8_addsRoad_1 : decode cX8_addsRoad 1 = .ok (.invokestatic 108, 3) := by decide +kernel
theorem dX8_addsRoad_4 : decode cX8_addsRoad 4 = .ok (.ifCond .eq 10, 3) := by decide +kernel
theorem dX8_addsRoad_7 : decode cX8_addsRoad 7 = .ok (.iload_n 2, 1) := by decide +kernel
theorem dX8_addsRoad_8 : decode cX8_addsRoad 8 = .ok (.invokestatic 108, 3) := by decide +kernel
theorem dX8_addsRoad_11 : decode cX8_addsRoad 11 = .ok (.ifCond .ne 5, 3) := by decide +kernel
theorem dX8_addsRoad_14 : decode cX8_addsRoad 14 = .ok (.iconst (-1), 1) := by decide +kernel
theorem dX8_addsRoad_15 : decode cX8_addsRoad 15 = .ok (.ireturn, 1) := by decide +kernel
theorem dX8_addsRoad_16 : decode cX8_addsRoad 16 = .ok (.iload_n 1, 1) := by decide +kernel
theorem dX8_addsRoad_17 : decode cX8_addsRoad 17 = .ok (.iload_n 2, 1) := by decide +kernel
theorem dX8_addsRoad_18 : decode cX8_addsRoad 18 = .ok (.if_icmp .eq 14, 3) := by decide +kernel
theorem dX8_addsRoad_21 : decode cX8_addsRoad 21 = .ok (.iload_n 3, 1) := by decide +kernel
theorem dX8_addsRoad_22 : decode cX8_addsRoad 22 = .ok (.iconst 0, 1) := by decide +kernel
theorem dX8_addsRoad_23 : decode cX8_addsRoad 23 = .ok (.sipush 200, 3) := by decide +kernel
theorem dX8_addsRoad_26 : decode cX8_addsRoad 26 = .ok (.invokestatic 29, 3) := by decide +kernel
theorem dX8_addsRoad_29 : decode cX8_addsRoad 29 = .ok (.ifCond .ne 6, 3) := by decide +kernel
theorem dX8_addsRoad_32 : decode cX8_addsRoad 32 = .ok (.bipush (-2), 2) := by decide +kernel
theorem dX8_addsRoad_34 : decode cX8_addsRoad 34 = .ok (.ireturn, 1) := by decide +kernel
theorem dX8_addsRoad_35 : decode cX8_addsRoad 35 = .ok (.aload_n 0, 1) := by decide +kernel
theorem dX8_addsRoad_36 : decode cX8_addsRoad 36 = .ok (.getfield 7, 3) := by decide +kernel
theorem dX8_addsRoad_39 : decode cX8_addsRoad 39 = .ok (.bipush 8, 2) := by decide +kernel
theorem dX8_addsRoad_41 : decode cX8_addsRoad 41 = .ok (.iaload, 1) := by decide +kernel
theorem dX8_addsRoad_42 : decode cX8_addsRoad 42 = .ok (.bipush 14, 2) := by decide +kernel
theorem dX8_addsRoad_44 : decode cX8_addsRoad 44 = .ok (.if_icmp .ne 6, 3) := by decide +kernel
theorem dX8_addsRoad_47 : decode cX8_addsRoad 47 = .ok (.bipush (-4), 2) := by decide +kernel
theorem dX8_addsRoad_49 : decode cX8_addsRoad 49 = .ok (.ireturn, 1) := by decide +kernel
theorem dX8_addsRoad_50 : decode cX8_addsRoad 50 = .ok (.aload_n 0, 1) := by decide +kernel
theorem dX8_addsRoad_51 : decode cX8_addsRoad 51 = .ok (.getfield 7, 3) := by decide +kernel
theorem dX8_addsRoad_54 : decode cX8_addsRoad 54 = .ok (.bipush 8, 2) := by decide +kernel
theorem dX8_addsRoad_56 : decode cX8_addsRoad 56 = .ok (.iaload, 1) := by decide +kernel
theorem dX8_addsRoad_57 : decode cX8_addsRoad 57 = .ok (.istore 4, 2) := by decide +kernel
theorem dX8_addsRoad_59 : decode cX8_addsRoad 59 = .ok (.aload_n 0, 1) := by decide +kernel
theorem dX8_addsRoad_60 : decode cX8_addsRoad 60 = .ok (.getfield 7, 3) := by decide +kernel
theorem dX8_addsRoad_63 : decode cX8_addsRoad 63 = .ok (.iload 4, 2) := by decide +kernel
theorem dX8_addsRoad_65 : decode cX8_addsRoad 65 = .ok (.iconst 0, 1) := by decide +kernel
theorem dX8_addsRoad_66 : decode cX8_addsRoad 66 = .ok (.invokestatic 40, 3) := by decide +kernel
theorem dX8_addsRoad_69 : decode cX8_addsRoad 69 = .ok (.iload_n 1, 1) := by decide +kernel
theorem dX8_addsRoad_70 : decode cX8_addsRoad 70 = .ok (.iastore, 1) := by decide +kernel
theorem dX8_addsRoad_71 : decode cX8_addsRoad 71 = .ok (.aload_n 0, 1) := by decide +kernel
theorem dX8_addsRoad_72 : decode cX8_addsRoad 72 = .ok (.getfield 7, 3) := by decide +kernel
theorem dX8_addsRoad_75 : decode cX8_addsRoad 75 = .ok (.iload 4, 2) := by decide +kernel
theorem dX8_addsRoad_77 : decode cX8_addsRoad 77 = .ok (.iconst 1, 1) := by decide +kernel
theorem dX8_addsRoad_78 : decode cX8_addsRoad 78 = .ok (.invokestatic 40, 3) := by decide +kernel
theorem dX8_addsRoad_81 : decode cX8_addsRoad 81 = .ok (.iload_n 2, 1) := by decide +kernel
theorem dX8_addsRoad_82 : decode cX8_addsRoad 82 = .ok (.iastore, 1) := by decide +kernel
theorem dX8_addsRoad_83 : decode cX8_addsRoad 83 = .ok (.aload_n 0, 1) := by decide +kernel
theorem dX8_addsRoad_84 : decode cX8_addsRoad 84 = .ok (.getfield 7, 3) := by decide +kernel
theorem dX8_addsRoad_87 : decode cX8_addsRoad 87 = .ok (.iload 4, 2) := by decide +kernel
theorem dX8_addsRoad_89 : decode cX8_addsRoad 89 = .ok (.iconst 2, 1) := by decide +kernel
theorem dX8_addsRoad_90 : decode cX8_addsRoad 90 = .ok (.invokestatic 40, 3) := by decide +kernel
theorem dX8_addsRoad_93 : decode cX8_addsRoad 93 = .ok (.iload_n 3, 1) := by decide +kernel
theorem dX8_addsRoad_94 : decode cX8_addsRoad 94 = .ok (.iastore, 1) := by decide +kernel
theorem dX8_addsRoad_95 : decode cX8_addsRoad 95 = .ok (.aload_n 0, 1) := by decide +kernel
theorem dX8_addsRoad_96 : decode cX8_addsRoad 96 = .ok (.getfield 7, 3) := by decide +kernel
theorem dX8_addsRoad_99 : decode cX8_addsRoad 99 = .ok (.bipush 8, 2) := by decide +kernel
theorem dX8_addsRoad_101 : decode cX8_addsRoad 101 = .ok (.dup2, 1) := by decide +kernel
theorem dX8_addsRoad_102 : decode cX8_addsRoad 102 = .ok (.iaload, 1) := by decide +kernel
theorem dX8_addsRoad_103 : decode cX8_addsRoad 103 = .ok (.iconst 1, 1) := by decide +kernel
theorem dX8_addsRoad_104 : decode cX8_addsRoad 104 = .ok (.iadd, 1) := by decide +kernel
theorem dX8_addsRoad_105 : decode cX8_addsRoad 105 = .ok (.iastore, 1) := by decide +kernel
theorem dX8_addsRoad_106 : decode cX8_addsRoad 106 = .ok (.iload 4, 2) := by decide +kernel
theorem dX8_addsRoad_108 : decode cX8_addsRoad 108 = .ok (.ireturn, 1) := by decide +kernel
theorem dX8_road_0 : decode cX8_road 0 = .ok (.aload_n 0, 1) := by decide +kernel
theorem dX8_road_1 : decode cX8_road 1 = .ok (.invokevirtual 90, 3) := by decide +kernel
theorem dX8_road_4 : decode cX8_road 4 = .ok (.aload_n 0, 1) := by decide +kernel
theorem dX8_road_5 : decode cX8_road 5 = .ok (.aload_n 0, 1) := by decide +kernel
theorem dX8_road_6 : decode cX8_road 6 = .ok (.iload_n 1, 1) := by decide +kernel
theorem dX8_road_7 : decode cX8_road 7 = .ok (.iload_n 2, 1) := by decide +kernel
theorem dX8_road_8 : decode cX8_road 8 = .ok (.iload_n 3, 1) := by decide +kernel
theorem dX8_road_9 : decode cX8_road 9 = .ok (.invokevirtual 111, 3) := by decide +kernel
theorem dX8_road_12 : decode cX8_road 12 = .ok (.invokevirtual 105, 3) := by decide +kernel
theorem dX8_road_15 : decode cX8_road 15 = .ok (.ireturn, 1) := by decide +kernel
theorem dX8_prices_0 : decode cX8_prices 0 = .ok (.iload_n 1, 1) := by decide +kernel
theorem dX8_prices_1 : decode cX8_prices 1 = .ok (.invokestatic 108, 3) := by decide +kernel
theorem dX8_prices_4 : decode cX8_prices 4 = .ok (.ifCond .ne 7, 3) := by decide +kernel
theorem dX8_prices_7 : decode cX8_prices 7 = .ok (.iconst (-1), 1) := by decide +kernel
theorem dX8_prices_8 : decode cX8_prices 8 = .ok (.goto 27, 3) := by decide +kernel
theorem dX8_prices_11 : decode cX8_prices 11 = .ok (.iload_n 2, 1) := by decide +kernel
theorem dX8_prices_12 : decode cX8_prices 12 = .ok (.iconst 1, 1) := by decide +kernel
theorem dX8_prices_13 : decode cX8_prices 13 = .ok (.sipush 999, 3) := by decide +kernel
theorem dX8_prices_16 : decode cX8_prices 16 = .ok (.invokestatic 29, 3) := by decide +kernel
theorem dX8_prices_19 : decode cX8_prices 19 = .ok (.ifCond .eq 14, 3) := by decide +kernel
theorem dX8_prices_22 : decode cX8_prices 22 = .ok (.aload_n 0, 1) := by decide +kernel
theorem dX8_prices_23 : decode cX8_prices 23 = .ok (.iconst 0, 1) := by decide +kernel
theorem dX8_prices_24 : decode cX8_prices 24 = .ok (.iload_n 1, 1) := by decide +kernel
theorem dX8_prices_25 : decode cX8_prices 25 = .ok (.iadd, 1) := by decide +kernel
theorem dX8_prices_26 : decode cX8_prices 26 = .ok (.iload_n 2, 1) := by decide +kernel
theorem dX8_prices_27 : decode cX8_prices 27 = .ok (.invokevirtual 102, 3) := by decide +kernel
theorem dX8_prices_30 : decode cX8_prices 30 = .ok (.goto 5, 3) := by decide +kernel
theorem dX8_prices_33 : decode cX8_prices 33 = .ok (.bipush (-2), 2) := by decide +kernel
theorem dX8_prices_35 : decode cX8_prices 35 = .ok (.ireturn, 1) := by decide +kernel
theorem dX8_price_0 : decode cX8_price 0 = .ok (.aload_n 0, 1) := by decide +kernel
theorem dX8_price_1 : decode cX8_price 1 = .ok (.invokevirtual 90, 3) := by decide +kernel
theorem dX8_price_4 : decode cX8_price 4 = .ok (.aload_n 0, 1) := by decide +kernel
theorem dX8_price_5 : decode cX8_price 5 = .ok (.aload_n 0, 1) := by decide +kernel
theorem dX8_price_6 : decode cX8_price 6 = .ok (.iload_n 1, 1) := by decide +kernel
theorem dX8_price_7 : decode cX8_price 7 = .ok (.iload_n 2, 1) := by decide +kernel
theorem dX8_price_8 : decode cX8_price 8 = .ok (.invokevirtual 115, 3) := by decide +kernel
theorem dX8_price_11 : decode cX8_price 11 = .ok (.invokevirtual 105, 3) := by decide +kernel
theorem dX8_price_14 : decode cX8_price 14 = .ok (.ireturn, 1) := by decide +kernel
theorem dX8_setsGuards_0 : decode cX8_setsGuards 0 = .ok (.aload_n 0, 1) := by decide +kernel
theorem dX8_setsGuards_1 : decode cX8_setsGuards 1 = .ok (.iload_n 1, 1) := by decide +kernel
theorem dX8_setsGuards_2 : decode cX8_setsGuards 2 = .ok (.invokevirtual 118, 3) := by decide +kernel
theorem dX8_setsGuards_5 : decode cX8_setsGuards 5 = .ok (.ifCond .ne 5, 3) := by decide +kernel
theorem dX8_setsGuards_8 : decode cX8_setsGuards 8 = .ok (.iconst (-1), 1) := by decide +kernel
theorem dX8_setsGuards_9 : decode cX8_setsGuards 9 = .ok (.ireturn, 1) := by decide +kernel
theorem dX8_setsGuards_10 : decode cX8_setsGuards 10 = .ok (.iload_n 2, 1) := by decide +kernel
theorem dX8_setsGuards_11 : decode cX8_setsGuards 11 = .ok (.iconst 0, 1) := by decide +kernel
theorem dX8_setsGuards_12 : decode cX8_setsGuards 12 = .ok (.bipush 40, 2) := by decide +kernel
theorem dX8_setsGuards_14 : decode cX8_setsGuards 14 = .ok (.invokestatic 29, 3) := by decide +kernel
theorem dX8_setsGuards_17 : decode cX8_setsGuards 17 = .ok (.ifCond .ne 6, 3) := by decide +kernel
theorem dX8_setsGuards_20 : decode cX8_setsGuards 20 = .ok (.bipush (-2), 2) := by decide +kernel
theorem dX8_setsGuards_22 : decode cX8_setsGuards 22 = .ok (.ireturn, 1) := by decide +kernel
theorem dX8_setsGuards_23 : decode cX8_setsGuards 23 = .ok (.aload_n 0, 1) := by decide +kernel
theorem dX8_setsGuards_24 : decode cX8_setsGuards 24 = .ok (.invokevirtual 99, 3) := by decide +kernel
theorem dX8_setsGuards_27 : decode cX8_setsGuards 27 = .ok (.aload_n 0, 1) := by decide +kernel
theorem dX8_setsGuards_28 : decode cX8_setsGuards 28 = .ok (.getfield 7, 3) := by decide +kernel
theorem dX8_setsGuards_31 : decode cX8_setsGuards 31 = .ok (.iload_n 1, 1) := by decide +kernel
theorem dX8_setsGuards_32 : decode cX8_setsGuards 32 = .ok (.iconst 3, 1) := by decide +kernel
theorem dX8_setsGuards_33 : decode cX8_setsGuards 33 = .ok (.invokestatic 40, 3) := by decide +kernel
theorem dX8_setsGuards_36 : decode cX8_setsGuards 36 = .ok (.iaload, 1) := by decide +kernel
theorem dX8_setsGuards_37 : decode cX8_setsGuards 37 = .ok (.isub, 1) := by decide +kernel
theorem dX8_setsGuards_38 : decode cX8_setsGuards 38 = .ok (.istore_n 3, 1) := by decide +kernel
theorem dX8_setsGuards_39 : decode cX8_setsGuards 39 = .ok (.iload_n 3, 1) := by decide +kernel
theorem dX8_setsGuards_40 : decode cX8_setsGuards 40 = .ok (.iload_n 2, 1) := by decide +kernel
theorem dX8_setsGuards_41 : decode cX8_setsGuards 41 = .ok (.iadd, 1) := by decide +kernel
theorem dX8_setsGuards_42 : decode cX8_setsGuards 42 = .ok (.aload_n 0, 1) := by decide +kernel
theorem dX8_setsGuards_43 : decode cX8_setsGuards 43 = .ok (.getfield 7, 3) := by decide +kernel
theorem dX8_setsGuards_46 : decode cX8_setsGuards 46 = .ok (.sipush 145, 3) := by decide +kernel
theorem dX8_setsGuards_49 : decode cX8_setsGuards 49 = .ok (.iaload, 1) := by decide +kernel
theorem dX8_setsGuards_50 : decode cX8_setsGuards 50 = .ok (.if_icmp .le 8, 3) := by decide +kernel
theorem dX8_setsGuards_53 : decode cX8_setsGuards 53 = .ok (.bipush (-5), 2) := by decide +kernel
theorem dX8_setsGuards_55 : decode cX8_setsGuards 55 = .ok (.goto 13, 3) := by decide +kernel
theorem dX8_setsGuards_58 : decode cX8_setsGuards 58 = .ok (.aload_n 0, 1) := by decide +kernel
theorem dX8_setsGuards_59 : decode cX8_setsGuards 59 = .ok (.iload_n 1, 1) := by decide +kernel
theorem dX8_setsGuards_60 : decode cX8_setsGuards 60 = .ok (.iconst 3, 1) := by decide +kernel
theorem dX8_setsGuards_61 : decode cX8_setsGuards 61 = .ok (.invokestatic 40, 3) := by decide +kernel
theorem dX8_setsGuards_64 : decode cX8_setsGuards 64 = .ok (.iload_n 2, 1) := by decide +kernel
theorem dX8_setsGuards_65 : decode cX8_setsGuards 65 = .ok (.invokevirtual 102, 3) := by decide +kernel
theorem dX8_setsGuards_68 : decode cX8_setsGuards 68 = .ok (.ireturn, 1) := by decide +kernel
theorem dX8_guard_0 : decode cX8_guard 0 = .ok (.aload_n 0, 1) := by decide +kernel
theorem dX8_guard_1 : decode cX8_guard 1 = .ok (.invokevirtual 90, 3) := by decide +kernel
theorem dX8_guard_4 : decode cX8_guard 4 = .ok (.aload_n 0, 1) := by decide +kernel
theorem dX8_guard_5 : decode cX8_guard 5 = .ok (.aload_n 0, 1) := by decide +kernel
theorem dX8_guard_6 : decode cX8_guard 6 = .ok (.iload_n 1, 1) := by decide +kernel
theorem dX8_guard_7 : decode cX8_guard 7 = .ok (.iload_n 2, 1) := by decide +kernel
theorem dX8_guard_8 : decode cX8_guard 8 = .ok (.invokevirtual 121, 3) := by decide +kernel
theorem dX8_guard_11 : decode cX8_guard 11 = .ok (.invokevirtual 105, 3) := by decide +kernel
theorem dX8_guard_14 : decode cX8_guard 14 = .ok (.ireturn, 1) := by decide +kernel
theorem dX8_toll_0 : decode cX8_toll 0 = .ok (.aload_n 0, 1) := by decide +kernel
theorem dX8_toll_1 : decode cX8_toll 1 = .ok (.invokevirtual 90, 3) := by decide +kernel
theorem dX8_toll_4 : decode cX8_toll 4 = .ok (.aload_n 0, 1) := by decide +kernel
theorem dX8_toll_5 : decode cX8_toll 5 = .ok (.iload_n 1, 1) := by decide +kernel
theorem dX8_toll_6 : decode cX8_toll 6 = .ok (.invokevirtual 118, 3) := by decide +kernel
theorem dX8_toll_9 : decode cX8_toll 9 = .ok (.ifCond .ne 7, 3) := by decide +kernel
theorem dX8_toll_12 : decode cX8_toll 12 = .ok (.iconst (-1), 1) := by decide +kernel
theorem dX8_toll_13 : decode cX8_toll 13 = .ok (.goto 33, 3) := by decide +kernel
theorem dX8_toll_16 : decode cX8_toll 16 = .ok (.iload_n 2, 1) := by decide +kernel
theorem dX8_toll_17 : decode cX8_toll 17 = .ok (.iconst 0, 1) := by decide +kernel
theorem dX8_toll_18 : decode cX8_toll 18 = .ok (.sipush 200, 3) := by decide +kernel
theorem dX8_toll_21 : decode cX8_toll 21 = .ok (.invokestatic 29, 3) := by decide +kernel
theorem dX8_toll_24 : decode cX8_toll 24 = .ok (.ifCond .eq 20, 3) := by decide +kernel
theorem dX8_toll_27 : decode cX8_toll 27 = .ok (.aload_n 0, 1) := by decide +kernel
theorem dX8_toll_28 : decode cX8_toll 28 = .ok (.aload_n 0, 1) := by decide +kernel
theorem dX8_toll_29 : decode cX8_toll 29 = .ok (.iload_n 1, 1) := by decide +kernel
theorem dX8_toll_30 : decode cX8_toll 30 = .ok (.iconst 2, 1) := by decide +kernel
theorem dX8_toll_31 : decode cX8_toll 31 = .ok (.invokestatic 40, 3) := by decide +kernel
theorem dX8_toll_34 : decode cX8_toll 34 = .ok (.iload_n 2, 1) := by decide +kernel
theorem dX8_toll_35 : decode cX8_toll 35 = .ok (.invokevirtual 102, 3) := by decide +kernel
theorem dX8_toll_38 : decode cX8_toll 38 = .ok (.invokevirtual 105, 3) := by decide +kernel
theorem dX8_toll_41 : decode cX8_toll 41 = .ok (.goto 5, 3) := by decide +kernel
theorem dX8_toll_44 : decode cX8_toll 44 = .ok (.bipush (-2), 2) := by decide +kernel
theorem dX8_toll_46 : decode cX8_toll 46 = .ok (.ireturn, 1) := by decide +kernel
theorem dX8_makeHonest_0 : decode cX8_makeHonest 0 = .ok (.aload_n 0, 1) := by decide +kernel
theorem dX8_makeHonest_1 : decode cX8_makeHonest 1 = .ok (.invokevirtual 90, 3) := by decide +kernel
theorem dX8_makeHonest_4 : decode cX8_makeHonest 4 = .ok (.aload_n 0, 1) := by decide +kernel
theorem dX8_makeHonest_5 : decode cX8_makeHonest 5 = .ok (.aload_n 0, 1) := by decide +kernel
theorem dX8_makeHonest_6 : decode cX8_makeHonest 6 = .ok (.invokevirtual 124, 3) := by decide +kernel
theorem dX8_makeHonest_9 : decode cX8_makeHonest 9 = .ok (.invokevirtual 105, 3) := by decide +kernel
theorem dX8_makeHonest_12 : decode cX8_makeHonest 12 = .ok (.ireturn, 1) := by decide +kernel
theorem dX8_addsCart_0 : decode cX8_addsCart 0 = .ok (.iload_n 1, 1) := by decide +kernel
theorem dX8_addsCart_1 : decode cX8_addsCart 1 = .ok (.invokestatic 108, 3) := by decide +kernel
theorem dX8_addsCart_4 : decode cX8_addsCart 4 = .ok (.ifCond .ne 5, 3) := by decide +kernel
theorem dX8_addsCart_7 : decode cX8_addsCart 7 = .ok (.iconst (-1), 1) := by decide +kernel
theorem dX8_addsCart_8 : decode cX8_addsCart 8 = .ok (.ireturn, 1) := by decide +kernel
theorem dX8_addsCart_9 : decode cX8_addsCart 9 = .ok (.iload_n 2, 1) := by decide +kernel
theorem dX8_addsCart_10 : decode cX8_addsCart 10 = .ok (.iconst 0, 1) := by decide +kernel
theorem dX8_addsCart_11 : decode cX8_addsCart 11 = .ok (.ldc 127, 2) := by decide +kernel
theorem dX8_addsCart_13 : decode cX8_addsCart 13 = .ok (.invokestatic 29, 3) := by decide +kernel
theorem dX8_addsCart_16 : decode cX8_addsCart 16 = .ok (.ifCond .ne 6, 3) := by decide +kernel
theorem dX8_addsCart_19 : decode cX8_addsCart 19 = .ok (.bipush (-2), 2) := by decide +kernel
theorem dX8_addsCart_21 : decode cX8_addsCart 21 = .ok (.ireturn, 1) := by decide +kernel
theorem dX8_addsCart_22 : decode cX8_addsCart 22 = .ok (.aload_n 0, 1) := by decide +kernel
theorem dX8_addsCart_23 : decode cX8_addsCart 23 = .ok (.getfield 7, 3) := by decide +kernel
theorem dX8_addsCart_26 : decode cX8_addsCart 26 = .ok (.bipush 93, 2) := by decide +kernel
theorem dX8_addsCart_28 : decode cX8_addsCart 28 = .ok (.iaload, 1) := by decide +kernel
theorem dX8_addsCart_29 : decode cX8_addsCart 29 = .ok (.bipush 6, 2) := by decide +kernel
theorem dX8_addsCart_31 : decode cX8_addsCart 31 = .ok (.if_icmp .ne 6, 3) := by decide +kernel
theorem dX8_addsCart_34 : decode cX8_addsCart 34 = .ok (.bipush (-4), 2) := by decide +kernel
theorem dX8_addsCart_36 : decode cX8_addsCart 36 = .ok (.ireturn, 1) := by decide +kernel
theorem dX8_addsCart_37 : decode cX8_addsCart 37 = .ok (.aload_n 0, 1) := by decide +kernel
theorem dX8_addsCart_38 : decode cX8_addsCart 38 = .ok (.getfield 7, 3) := by decide +kernel
theorem dX8_addsCart_41 : decode cX8_addsCart 41 = .ok (.bipush 93, 2) := by decide +kernel
theorem dX8_addsCart_43 : decode cX8_addsCart 43 = .ok (.iaload, 1) := by decide +kernel
theorem dX8_addsCart_44 : decode cX8_addsCart 44 = .ok (.istore_n 3, 1) := by decide +kernel
theorem dX8_addsCart_45 : decode cX8_addsCart 45 = .ok (.aload_n 0, 1) := by decide +kernel
theorem dX8_addsCart_46 : decode cX8_addsCart 46 = .ok (.getfield 7, 3) := by decide +kernel
theorem dX8_addsCart_49 : decode cX8_addsCart 49 = .ok (.iload_n 3, 1) := by decide +kernel
theorem dX8_addsCart_50 : decode cX8_addsCart 50 = .ok (.iconst 0, 1) := by decide +kernel
theorem dX8_addsCart_51 : decode cX8_addsCart 51 = .ok (.invokestatic 128, 3) := by decide +kernel
theorem dX8_addsCart_54 : decode cX8_addsCart 54 = .ok (.iload_n 1, 1) := by decide +kernel
theorem dX8_addsCart_55 : decode cX8_addsCart 55 = .ok (.iastore, 1) := by decide +kernel
theorem dX8_addsCart_56 : decode cX8_addsCart 56 = .ok (.aload_n 0, 1) := by decide +kernel
theorem dX8_addsCart_57 : decode cX8_addsCart 57 = .ok (.getfield 7, 3) := by decide +kernel
theorem dX8_addsCart_60 : decode cX8_addsCart 60 = .ok (.iload_n 3, 1) := by decide +kernel
theorem dX8_addsCart_61 : decode cX8_addsCart 61 = .ok (.iconst 1, 1) := by decide +kernel
theorem dX8_addsCart_62 : decode cX8_addsCart 62 = .ok (.invokestatic 128, 3) := by decide +kernel
theorem dX8_addsCart_65 : decode cX8_addsCart 65 = .ok (.iload_n 2, 1) := by decide +kernel
theorem dX8_addsCart_66 : decode cX8_addsCart 66 = .ok (.iastore, 1) := by decide +kernel
theorem dX8_addsCart_67 : decode cX8_addsCart 67 = .ok (.aload_n 0, 1) := by decide +kernel
theorem dX8_addsCart_68 : decode cX8_addsCart 68 = .ok (.getfield 7, 3) := by decide +kernel
theorem dX8_addsCart_71 : decode cX8_addsCart 71 = .ok (.sipush 150, 3) := by decide +kernel
theorem dX8_addsCart_74 : decode cX8_addsCart 74 = .ok (.dup2, 1) := by decide +kernel
theorem dX8_addsCart_75 : decode cX8_addsCart 75 = .ok (.iaload, 1) := by decide +kernel
theorem dX8_addsCart_76 : decode cX8_addsCart 76 = .ok (.iload_n 2, 1) := by decide +kernel
theorem dX8_addsCart_77 : decode cX8_addsCart 77 = .ok (.iadd, 1) := by decide +kernel
theorem dX8_addsCart_78 : decode cX8_addsCart 78 = .ok (.iastore, 1) := by decide +kernel
theorem dX8_addsCart_79 : decode cX8_addsCart 79 = .ok (.aload_n 0, 1) := by decide +kernel
theorem dX8_addsCart_80 : decode cX8_addsCart 80 = .ok (.getfield 7, 3) := by decide +kernel
theorem dX8_addsCart_83 : decode cX8_addsCart 83 = .ok (.bipush 93, 2) := by decide +kernel
theorem dX8_addsCart_85 : decode cX8_addsCart 85 = .ok (.dup2, 1) := by decide +kernel
theorem dX8_addsCart_86 : decode cX8_addsCart 86 = .ok (.iaload, 1) := by decide +kernel
theorem dX8_addsCart_87 : decode cX8_addsCart 87 = .ok (.iconst 1, 1) := by decide +kernel
theorem dX8_addsCart_88 : decode cX8_addsCart 88 = .ok (.iadd, 1) := by decide +kernel
theorem dX8_addsCart_89 : decode cX8_addsCart 89 = .ok (.iastore, 1) := by decide +kernel
theorem dX8_addsCart_90 : decode cX8_addsCart 90 = .ok (.iload_n 3, 1) := by decide +kernel
theorem dX8_addsCart_91 : decode cX8_addsCart 91 = .ok (.ireturn, 1) := by decide +kernel
theorem dX8_cart_0 : decode cX8_cart 0 = .ok (.aload_n 0, 1) := by decide +kernel
theorem dX8_cart_1 : decode cX8_cart 1 = .ok (.invokevirtual 90, 3) := by decide +kernel
theorem dX8_cart_4 : decode cX8_cart 4 = .ok (.aload_n 0, 1) := by decide +kernel
theorem dX8_cart_5 : decode cX8_cart 5 = .ok (.aload_n 0, 1) := by decide +kernel
theorem dX8_cart_6 : decode cX8_cart 6 = .ok (.iload_n 1, 1) := by decide +kernel
theorem dX8_cart_7 : decode cX8_cart 7 = .ok (.iload_n 2, 1) := by decide +kernel
theorem dX8_cart_8 : decode cX8_cart 8 = .ok (.invokevirtual 131, 3) := by decide +kernel
theorem dX8_cart_11 : decode cX8_cart 11 = .ok (.invokevirtual 105, 3) := by decide +kernel
theorem dX8_cart_14 : decode cX8_cart 14 = .ok (.ireturn, 1) := by decide +kernel
theorem dX8_buys_0 : decode cX8_buys 0 = .ok (.aload_n 0, 1) := by decide +kernel
theorem dX8_buys_1 : decode cX8_buys 1 = .ok (.iload_n 1, 1) := by decide +kernel
theorem dX8_buys_2 : decode cX8_buys 2 = .ok (.invokevirtual 134, 3) := by decide +kernel
theorem dX8_buys_5 : decode cX8_buys 5 = .ok (.ifCond .ne 5, 3) := by decide +kernel
theorem dX8_buys_8 : decode cX8_buys 8 = .ok (.iconst (-1), 1) := by decide +kernel
theorem dX8_buys_9 : decode cX8_buys 9 = .ok (.ireturn, 1) := by decide +kernel
theorem dX8_buys_10 : decode cX8_buys 10 = .ok (.iload_n 2, 1) := by decide +kernel
theorem dX8_buys_11 : decode cX8_buys 11 = .ok (.iconst 1, 1) := by decide +kernel
theorem dX8_buys_12 : decode cX8_buys 12 = .ok (.bipush 99, 2) := by decide +kernel
theorem dX8_buys_14 : decode cX8_buys 14 = .ok (.invokestatic 29, 3) := by decide +kernel
theorem dX8_buys_17 : decode cX8_buys 17 = .ok (.ifCond .ne 6, 3) := by decide +kernel
theorem dX8_buys_20 : decode cX8_buys 20 = .ok (.bipush (-2), 2) := by decide +kernel
theorem dX8_buys_22 : decode cX8_buys 22 = .ok (.ireturn, 1) := by decide +kernel
theorem dX8_buys_23 : decode cX8_buys 23 = .ok (.iload_n 2, 1) := by decide +kernel
theorem dX8_buys_24 : decode cX8_buys 24 = .ok (.aload_n 0, 1) := by decide +kernel
theorem dX8_buys_25 : decode cX8_buys 25 = .ok (.getfield 7, 3) := by decide +kernel
theorem dX8_buys_28 : decode cX8_buys 28 = .ok (.iconst 0, 1) := by decide +kernel
theorem dX8_buys_29 : decode cX8_buys 29 = .ok (.aload_n 0, 1) := by decide +kernel
theorem dX8_buys_30 : decode cX8_buys 30 = .ok (.getfield 7, 3) := by decide +kernel
theorem dX8_buys_33 : decode cX8_buys 33 = .ok (.iload_n 1, 1) := by decide +kernel
theorem dX8_buys_34 : decode cX8_buys 34 = .ok (.iconst 0, 1) := by decide +kernel
theorem dX8_buys_35 : decode cX8_buys 35 = .ok (.invokestatic 128, 3) := by decide +kernel
theorem dX8_buys_38 : decode cX8_buys 38 = .ok (.iaload, 1) := by decide +kernel
theorem dX8_buys_39 : decode cX8_buys 39 = .ok (.iadd, 1) := by decide +kernel
theorem dX8_buys_40 : decode cX8_buys 40 = .ok (.iaload, 1) := by decide +kernel
theorem dX8_buys_41 : decode cX8_buys 41 = .ok (.imul, 1) := by decide +kernel
theorem dX8_buys_42 : decode cX8_buys 42 = .ok (.istore_n 3, 1) := by decide +kernel
theorem dX8_buys_43 : decode cX8_buys 43 = .ok (.iload_n 3, 1) := by decide +kernel
theorem dX8_buys_44 : decode cX8_buys 44 = .ok (.aload_n 0, 1) := by decide +kernel
theorem dX8_buys_45 : decode cX8_buys 45 = .ok (.getfield 7, 3) := by decide +kernel
theorem dX8_buys_48 : decode cX8_buys 48 = .ok (.iload_n 1, 1) := by decide +kernel
theorem dX8_buys_49 : decode cX8_buys 49 = .ok (.iconst 1, 1) := by decide +kernel
theorem dX8_buys_50 : decode cX8_buys 50 = .ok (.invokestatic 128, 3) := by decide +kernel
theorem dX8_buys_53 : decode cX8_buys 53 = .ok (.iaload, 1) := by decide +kernel
theorem dX8_buys_54 : decode cX8_buys 54 = .ok (.if_icmp .le 6, 3) := by decide +kernel
theorem dX8_buys_57 : decode cX8_buys 57 = .ok (.bipush (-5), 2) := by decide +kernel
theorem dX8_buys_59 : decode cX8_buys 59 = .ok (.ireturn, 1) := by decide +kernel
theorem dX8_buys_60 : decode cX8_buys 60 = .ok (.aload_n 0, 1) := by decide +kernel
theorem dX8_buys_61 : decode cX8_buys 61 = .ok (.getfield 7, 3) := by decide +kernel
theorem dX8_buys_64 : decode cX8_buys 64 = .ok (.iload_n 1, 1) := by decide +kernel
theorem dX8_buys_65 : decode cX8_buys 65 = .ok (.iconst 2, 1) := by decide +kernel
theorem dX8_buys_66 : decode cX8_buys 66 = .ok (.invokestatic 128, 3) := by decide +kernel
theorem dX8_buys_69 : decode cX8_buys 69 = .ok (.iaload, 1) := by decide +kernel
theorem dX8_buys_70 : decode cX8_buys 70 = .ok (.iload_n 2, 1) := by decide +kernel
theorem dX8_buys_71 : decode cX8_buys 71 = .ok (.iadd, 1) := by decide +kernel
theorem dX8_buys_72 : decode cX8_buys 72 = .ok (.bipush 99, 2) := by decide +kernel
theorem dX8_buys_74 : decode cX8_buys 74 = .ok (.if_icmp .le 6, 3) := by decide +kernel
theorem dX8_buys_77 : decode cX8_buys 77 = .ok (.bipush (-4), 2) := by decide +kernel
theorem dX8_buys_79 : decode cX8_buys 79 = .ok (.ireturn, 1) := by decide +kernel
theorem dX8_buys_80 : decode cX8_buys 80 = .ok (.aload_n 0, 1) := by decide +kernel
theorem dX8_buys_81 : decode cX8_buys 81 = .ok (.getfield 7, 3) := by decide +kernel
theorem dX8_buys_84 : decode cX8_buys 84 = .ok (.iload_n 1, 1) := by decide +kernel
theorem dX8_buys_85 : decode cX8_buys 85 = .ok (.iconst 1, 1) := by decide +kernel
theorem dX8_buys_86 : decode cX8_buys 86 = .ok (.invokestatic 128, 3) := by decide +kernel
theorem dX8_buys_89 : decode cX8_buys 89 = .ok (.dup2, 1) := by decide +kernel
theorem dX8_buys_90 : decode cX8_buys 90 = .ok (.iaload, 1) := by decide +kernel
theorem dX8_buys_91 : decode cX8_buys 91 = .ok (.iload_n 3, 1) := by decide +kernel
theorem dX8_buys_92 : decode cX8_buys 92 = .ok (.isub, 1) := by decide +kernel
theorem dX8_buys_93 : decode cX8_buys 93 = .ok (.iastore, 1) := by decide +kernel
theorem dX8_buys_94 : decode cX8_buys 94 = .ok (.aload_n 0, 1) := by decide +kernel
theorem dX8_buys_95 : decode cX8_buys 95 = .ok (.getfield 7, 3) := by decide +kernel
theorem dX8_buys_98 : decode cX8_buys 98 = .ok (.iload_n 1, 1) := by decide +kernel
theorem dX8_buys_99 : decode cX8_buys 99 = .ok (.iconst 2, 1) := by decide +kernel
theorem dX8_buys_100 : decode cX8_buys 100 = .ok (.invokestatic 128, 3) := by decide +kernel
theorem dX8_buys_103 : decode cX8_buys 103 = .ok (.dup2, 1) := by decide +kernel
theorem dX8_buys_104 : decode cX8_buys 104 = .ok (.iaload, 1) := by decide +kernel
theorem dX8_buys_105 : decode cX8_buys 105 = .ok (.iload_n 2, 1) := by decide +kernel
theorem dX8_buys_106 : decode cX8_buys 106 = .ok (.iadd, 1) := by decide +kernel
theorem dX8_buys_107 : decode cX8_buys 107 = .ok (.iastore, 1) := by decide +kernel
theorem dX8_buys_108 : decode cX8_buys 108 = .ok (.aload_n 0, 1) := by decide +kernel
theorem dX8_buys_109 : decode cX8_buys 109 = .ok (.getfield 7, 3) := by decide +kernel
theorem dX8_buys_112 : decode cX8_buys 112 = .ok (.iload_n 1, 1) := by decide +kernel
theorem dX8_buys_113 : decode cX8_buys 113 = .ok (.iconst 3, 1) := by decide +kernel
theorem dX8_buys_114 : decode cX8_buys 114 = .ok (.invokestatic 128, 3) := by decide +kernel
theorem dX8_buys_117 : decode cX8_buys 117 = .ok (.dup2, 1) := by decide +kernel
theorem dX8_buys_118 : decode cX8_buys 118 = .ok (.iaload, 1) := by decide +kernel
theorem dX8_buys_119 : decode cX8_buys 119 = .ok (.iload_n 3, 1) := by decide +kernel
theorem dX8_buys_120 : decode cX8_buys 120 = .ok (.iadd, 1) := by decide +kernel
theorem dX8_buys_121 : decode cX8_buys 121 = .ok (.iastore, 1) := by decide +kernel
theorem dX8_buys_122 : decode cX8_buys 122 = .ok (.aload_n 0, 1) := by decide +kernel
theorem dX8_buys_123 : decode cX8_buys 123 = .ok (.getfield 7, 3) := by decide +kernel
theorem dX8_buys_126 : decode cX8_buys 126 = .ok (.sipush 147, 3) := by decide +kernel
theorem dX8_buys_129 : decode cX8_buys 129 = .ok (.dup2, 1) := by decide +kernel
theorem dX8_buys_130 : decode cX8_buys 130 = .ok (.iaload, 1) := by decide +kernel
theorem dX8_buys_131 : decode cX8_buys 131 = .ok (.iload_n 2, 1) := by decide +kernel
theorem dX8_buys_132 : decode cX8_buys 132 = .ok (.iadd, 1) := by decide +kernel
theorem dX8_buys_133 : decode cX8_buys 133 = .ok (.iastore, 1) := by decide +kernel
theorem dX8_buys_134 : decode cX8_buys 134 = .ok (.aload_n 0, 1) := by decide +kernel
theorem dX8_buys_135 : decode cX8_buys 135 = .ok (.getfield 7, 3) := by decide +kernel
theorem dX8_buys_138 : decode cX8_buys 138 = .ok (.iload_n 1, 1) := by decide +kernel
theorem dX8_buys_139 : decode cX8_buys 139 = .ok (.iconst 1, 1) := by decide +kernel
theorem dX8_buys_140 : decode cX8_buys 140 = .ok (.invokestatic 128, 3) := by decide +kernel
theorem dX8_buys_143 : decode cX8_buys 143 = .ok (.iaload, 1) := by decide +kernel
theorem dX8_buys_144 : decode cX8_buys 144 = .ok (.ireturn, 1) := by decide +kernel
theorem dX8_buy_0 : decode cX8_buy 0 = .ok (.aload_n 0, 1) := by decide +kernel
theorem dX8_buy_1 : decode cX8_buy 1 = .ok (.invokevirtual 90, 3) := by decide +kernel
theorem dX8_buy_4 : decode cX8_buy 4 = .ok (.aload_n 0, 1) := by decide +kernel
theorem dX8_buy_5 : decode cX8_buy 5 = .ok (.aload_n 0, 1) := by decide +kernel
theorem dX8_buy_6 : decode cX8_buy 6 = .ok (.iload_n 1, 1) := by decide +kernel
theorem dX8_buy_7 : decode cX8_buy 7 = .ok (.iload_n 2, 1) := by decide +kernel
theorem dX8_buy_8 : decode cX8_buy 8 = .ok (.invokevirtual 137, 3) := by decide +kernel
theorem dX8_buy_11 : decode cX8_buy 11 = .ok (.invokevirtual 105, 3) := by decide +kernel
theorem dX8_buy_14 : decode cX8_buy 14 = .ok (.ireturn, 1) := by decide +kernel
theorem dX8_sells_0 : decode cX8_sells 0 = .ok (.aload_n 0, 1) := by decide +kernel
theorem dX8_sells_1 : decode cX8_sells 1 = .ok (.iload_n 1, 1) := by decide +kernel
theorem dX8_sells_2 : decode cX8_sells 2 = .ok (.invokevirtual 134, 3) := by decide +kernel
theorem dX8_sells_5 : decode cX8_sells 5 = .ok (.ifCond .ne 5, 3) := by decide +kernel
theorem dX8_sells_8 : decode cX8_sells 8 = .ok (.iconst (-1), 1) := by decide +kernel
theorem dX8_sells_9 : decode cX8_sells 9 = .ok (.ireturn, 1) := by decide +kernel
theorem dX8_sells_10 : decode cX8_sells 10 = .ok (.iload_n 2, 1) := by decide +kernel
theorem dX8_sells_11 : decode cX8_sells 11 = .ok (.iconst 1, 1) := by decide +kernel
theorem dX8_sells_12 : decode cX8_sells 12 = .ok (.bipush 99, 2) := by decide +kernel
theorem dX8_sells_14 : decode cX8_sells 14 = .ok (.invokestatic 29, 3) := by decide +kernel
theorem dX8_sells_17 : decode cX8_sells 17 = .ok (.ifCond .ne 6, 3) := by decide +kernel
theorem dX8_sells_20 : decode cX8_sells 20 = .ok (.bipush (-2), 2) := by decide +kernel
theorem dX8_sells_22 : decode cX8_sells 22 = .ok (.ireturn, 1) := by decide +kernel
theorem dX8_sells_23 : decode cX8_sells 23 = .ok (.aload_n 0, 1) := by decide +kernel
theorem dX8_sells_24 : decode cX8_sells 24 = .ok (.getfield 7, 3) := by decide +kernel
theorem dX8_sells_27 : decode cX8_sells 27 = .ok (.iload_n 1, 1) := by decide +kernel
theorem dX8_sells_28 : decode cX8_sells 28 = .ok (.iconst 2, 1) := by decide +kernel
theorem dX8_sells_29 : decode cX8_sells 29 = .ok (.invokestatic 128, 3) := by decide +kernel
theorem dX8_sells_32 : decode cX8_sells 32 = .ok (.iaload, 1) := by decide +kernel
theorem dX8_sells_33 : decode cX8_sells 33 = .ok (.iload_n 2, 1) := by decide +kernel
theorem dX8_sells_34 : decode cX8_sells 34 = .ok (.if_icmp .ge 6, 3) := by decide +kernel
theorem dX8_sells_37 : decode cX8_sells 37 = .ok (.bipush (-5), 2) := by decide +kernel
theorem dX8_sells_39 : decode cX8_sells 39 = .ok (.ireturn, 1) := by decide +kernel
theorem dX8_sells_40 : decode cX8_sells 40 = .ok (.iload_n 2, 1) := by decide +kernel
theorem dX8_sells_41 : decode cX8_sells 41 = .ok (.aload_n 0, 1) := by decide +kernel
theorem dX8_sells_42 : decode cX8_sells 42 = .ok (.getfield 7, 3) := by decide +kernel
theorem dX8_sells_45 : decode cX8_sells 45 = .ok (.iconst 0, 1) := by decide +kernel
theorem dX8_sells_46 : decode cX8_sells 46 = .ok (.aload_n 0, 1) := by decide +kernel
theorem dX8_sells_47 : decode cX8_sells 47 = .ok (.getfield 7, 3) := by decide +kernel
theorem dX8_sells_50 : decode cX8_sells 50 = .ok (.iload_n 1, 1) := by decide +kernel
theorem dX8_sells_51 : decode cX8_sells 51 = .ok (.iconst 0, 1) := by decide +kernel
theorem dX8_sells_52 : decode cX8_sells 52 = .ok (.invokestatic 128, 3) := by decide +kernel
theorem dX8_sells_55 : decode cX8_sells 55 = .ok (.iaload, 1) := by decide +kernel
theorem dX8_sells_56 : decode cX8_sells 56 = .ok (.iadd, 1) := by decide +kernel
theorem dX8_sells_57 : decode cX8_sells 57 = .ok (.iaload, 1) := by decide +kernel
theorem dX8_sells_58 : decode cX8_sells 58 = .ok (.imul, 1) := by decide +kernel
theorem dX8_sells_59 : decode cX8_sells 59 = .ok (.istore_n 3, 1) := by decide +kernel
theorem dX8_sells_60 : decode cX8_sells 60 = .ok (.aload_n 0, 1) := by decide +kernel
theorem dX8_sells_61 : decode cX8_sells 61 = .ok (.getfield 7, 3) := by decide +kernel
theorem dX8_sells_64 : decode cX8_sells 64 = .ok (.iload_n 1, 1) := by decide +kernel
theorem dX8_sells_65 : decode cX8_sells 65 = .ok (.iconst 1, 1) := by decide +kernel
theorem dX8_sells_66 : decode cX8_sells 66 = .ok (.invokestatic 128, 3) := by decide +kernel
theorem dX8_sells_69 : decode cX8_sells 69 = .ok (.iaload, 1) := by decide +kernel
theorem dX8_sells_70 : decode cX8_sells 70 = .ok (.iload_n 3, 1) := by decide +kernel
theorem dX8_sells_71 : decode cX8_sells 71 = .ok (.iadd, 1) := by decide +kernel
theorem dX8_sells_72 : decode cX8_sells 72 = .ok (.ldc 127, 2) := by decide +kernel
theorem dX8_sells_74 : decode cX8_sells 74 = .ok (.if_icmp .le 6, 3) := by decide +kernel
theorem dX8_sells_77 : decode cX8_sells 77 = .ok (.bipush (-4), 2) := by decide +kernel
theorem dX8_sells_79 : decode cX8_sells 79 = .ok (.ireturn, 1) := by decide +kernel
theorem dX8_sells_80 : decode cX8_sells 80 = .ok (.aload_n 0, 1) := by decide +kernel
theorem dX8_sells_81 : decode cX8_sells 81 = .ok (.getfield 7, 3) := by decide +kernel
theorem dX8_sells_84 : decode cX8_sells 84 = .ok (.iload_n 1, 1) := by decide +kernel
theorem dX8_sells_85 : decode cX8_sells 85 = .ok (.iconst 1, 1) := by decide +kernel
theorem dX8_sells_86 : decode cX8_sells 86 = .ok (.invokestatic 128, 3) := by decide +kernel
theorem dX8_sells_89 : decode cX8_sells 89 = .ok (.dup2, 1) := by decide +kernel
theorem dX8_sells_90 : decode cX8_sells 90 = .ok (.iaload, 1) := by decide +kernel
theorem dX8_sells_91 : decode cX8_sells 91 = .ok (.iload_n 3, 1) := by decide +kernel
theorem dX8_sells_92 : decode cX8_sells 92 = .ok (.iadd, 1) := by decide +kernel
theorem dX8_sells_93 : decode cX8_sells 93 = .ok (.iastore, 1) := by decide +kernel
theorem dX8_sells_94 : decode cX8_sells 94 = .ok (.aload_n 0, 1) := by decide +kernel
theorem dX8_sells_95 : decode cX8_sells 95 = .ok (.getfield 7, 3) := by decide +kernel
theorem dX8_sells_98 : decode cX8_sells 98 = .ok (.iload_n 1, 1) := by decide +kernel
theorem dX8_sells_99 : decode cX8_sells 99 = .ok (.iconst 2, 1) := by decide +kernel
theorem dX8_sells_100 : decode cX8_sells 100 = .ok (.invokestatic 128, 3) := by decide +kernel
theorem dX8_sells_103 : decode cX8_sells 103 = .ok (.dup2, 1) := by decide +kernel
theorem dX8_sells_104 : decode cX8_sells 104 = .ok (.iaload, 1) := by decide +kernel
theorem dX8_sells_105 : decode cX8_sells 105 = .ok (.iload_n 2, 1) := by decide +kernel
theorem dX8_sells_106 : decode cX8_sells 106 = .ok (.isub, 1) := by decide +kernel
theorem dX8_sells_107 : decode cX8_sells 107 = .ok (.iastore, 1) := by decide +kernel
theorem dX8_sells_108 : decode cX8_sells 108 = .ok (.aload_n 0, 1) := by decide +kernel
theorem dX8_sells_109 : decode cX8_sells 109 = .ok (.getfield 7, 3) := by decide +kernel
theorem dX8_sells_112 : decode cX8_sells 112 = .ok (.iload_n 1, 1) := by decide +kernel
theorem dX8_sells_113 : decode cX8_sells 113 = .ok (.iconst 4, 1) := by decide +kernel
theorem dX8_sells_114 : decode cX8_sells 114 = .ok (.invokestatic 128, 3) := by decide +kernel
theorem dX8_sells_117 : decode cX8_sells 117 = .ok (.dup2, 1) := by decide +kernel
theorem dX8_sells_118 : decode cX8_sells 118 = .ok (.iaload, 1) := by decide +kernel
theorem dX8_sells_119 : decode cX8_sells 119 = .ok (.iload_n 3, 1) := by decide +kernel
theorem dX8_sells_120 : decode cX8_sells 120 = .ok (.iadd, 1) := by decide +kernel
theorem dX8_sells_121 : decode cX8_sells 121 = .ok (.iastore, 1) := by decide +kernel
theorem dX8_sells_122 : decode cX8_sells 122 = .ok (.aload_n 0, 1) := by decide +kernel
theorem dX8_sells_123 : decode cX8_sells 123 = .ok (.getfield 7, 3) := by decide +kernel
theorem dX8_sells_126 : decode cX8_sells 126 = .ok (.sipush 148, 3) := by decide +kernel
theorem dX8_sells_129 : decode cX8_sells 129 = .ok (.dup2, 1) := by decide +kernel
theorem dX8_sells_130 : decode cX8_sells 130 = .ok (.iaload, 1) := by decide +kernel
theorem dX8_sells_131 : decode cX8_sells 131 = .ok (.iload_n 2, 1) := by decide +kernel
theorem dX8_sells_132 : decode cX8_sells 132 = .ok (.iadd, 1) := by decide +kernel
theorem dX8_sells_133 : decode cX8_sells 133 = .ok (.iastore, 1) := by decide +kernel
theorem dX8_sells_134 : decode cX8_sells 134 = .ok (.aload_n 0, 1) := by decide +kernel
theorem dX8_sells_135 : decode cX8_sells 135 = .ok (.getfield 7, 3) := by decide +kernel
theorem dX8_sells_138 : decode cX8_sells 138 = .ok (.iload_n 1, 1) := by decide +kernel
theorem dX8_sells_139 : decode cX8_sells 139 = .ok (.iconst 1, 1) := by decide +kernel
theorem dX8_sells_140 : decode cX8_sells 140 = .ok (.invokestatic 128, 3) := by decide +kernel
theorem dX8_sells_143 : decode cX8_sells 143 = .ok (.iaload, 1) := by decide +kernel
theorem dX8_sells_144 : decode cX8_sells 144 = .ok (.ireturn, 1) := by decide +kernel
theorem dX8_sell_0 : decode cX8_sell 0 = .ok (.aload_n 0, 1) := by decide +kernel
theorem dX8_sell_1 : decode cX8_sell 1 = .ok (.invokevirtual 90, 3) := by decide +kernel
theorem dX8_sell_4 : decode cX8_sell 4 = .ok (.aload_n 0, 1) := by decide +kernel
theorem dX8_sell_5 : decode cX8_sell 5 = .ok (.aload_n 0, 1) := by decide +kernel
theorem dX8_sell_6 : decode cX8_sell 6 = .ok (.iload_n 1, 1) := by decide +kernel
theorem dX8_sell_7 : decode cX8_sell 7 = .ok (.iload_n 2, 1) := by decide +kernel
theorem dX8_sell_8 : decode cX8_sell 8 = .ok (.invokevirtual 140, 3) := by decide +kernel
theorem dX8_sell_11 : decode cX8_sell 11 = .ok (.invokevirtual 105, 3) := by decide +kernel
theorem dX8_sell_14 : decode cX8_sell 14 = .ok (.ireturn, 1) := by decide +kernel
theorem dX8_endOf_0 : decode cX8_endOf 0 = .ok (.aload_n 0, 1) := by decide +kernel
theorem dX8_endOf_1 : decode cX8_endOf 1 = .ok (.getfield 7, 3) := by decide +kernel
theorem dX8_endOf_4 : decode cX8_endOf 4 = .ok (.iload_n 1, 1) := by decide +kernel
theorem dX8_endOf_5 : decode cX8_endOf 5 = .ok (.iconst 0, 1) := by decide +kernel
theorem dX8_endOf_6 : decode cX8_endOf 6 = .ok (.invokestatic 128, 3) := by decide +kernel
theorem dX8_endOf_9 : decode cX8_endOf 9 = .ok (.iaload, 1) := by decide +kernel
theorem dX8_endOf_10 : decode cX8_endOf 10 = .ok (.istore_n 3, 1) := by decide +kernel
theorem dX8_endOf_11 : decode cX8_endOf 11 = .ok (.aload_n 0, 1) := by decide +kernel
theorem dX8_endOf_12 : decode cX8_endOf 12 = .ok (.iload_n 2, 1) := by decide +kernel
theorem dX8_endOf_13 : decode cX8_endOf 13 = .ok (.iconst 0, 1) := by decide +kernel
theorem dX8_endOf_14 : decode cX8_endOf 14 = .ok (.invokevirtual 48, 3) := by decide +kernel
theorem dX8_endOf_17 : decode cX8_endOf 17 = .ok (.iload_n 3, 1) := by decide +kernel
theorem dX8_endOf_18 : decode cX8_endOf 18 = .ok (.if_icmp .ne 7, 3) := by decide +kernel
theorem dX8_endOf_21 : decode cX8_endOf 21 = .ok (.iconst 0, 1) := by decide +kernel
theorem dX8_endOf_22 : decode cX8_endOf 22 = .ok (.goto 19, 3) := by decide +kernel
theorem dX8_endOf_25 : decode cX8_endOf 25 = .ok (.aload_n 0, 1) := by decide +kernel
theorem dX8_endOf_26 : decode cX8_endOf 26 = .ok (.iload_n 2, 1) := by decide +kernel
theorem dX8_endOf_27 : decode cX8_endOf 27 = .ok (.iconst 1, 1) := by decide +kernel
theorem dX8_endOf_28 : decode cX8_endOf 28 = .ok (.invokevirtual 48, 3) := by decide +kernel
theorem dX8_endOf_31 : decode cX8_endOf 31 = .ok (.iload_n 3, 1) := by decide +kernel
theorem dX8_endOf_32 : decode cX8_endOf 32 = .ok (.if_icmp .ne 7, 3) := by decide +kernel
theorem dX8_endOf_35 : decode cX8_endOf 35 = .ok (.iconst 1, 1) := by decide +kernel
theorem dX8_endOf_36 : decode cX8_endOf 36 = .ok (.goto 5, 3) := by decide +kernel
theorem dX8_endOf_39 : decode cX8_endOf 39 = .ok (.bipush (-6), 2) := by decide +kernel
theorem dX8_endOf_41 : decode cX8_endOf 41 = .ok (.ireturn, 1) := by decide +kernel
theorem dX8_fineFor_0 : decode cX8_fineFor 0 = .ok (.aload_n 0, 1) := by decide +kernel
theorem dX8_fineFor_1 : decode cX8_fineFor 1 = .ok (.getfield 7, 3) := by decide +kernel
theorem dX8_fineFor_4 : decode cX8_fineFor 4 = .ok (.sipush 142, 3) := by decide +kernel
theorem dX8_fineFor_7 : decode cX8_fineFor 7 = .ok (.iaload, 1) := by decide +kernel
theorem dX8_fineFor_8 : decode cX8_fineFor 8 = .ok (.aload_n 0, 1) := by decide +kernel
theorem dX8_fineFor_9 : decode cX8_fineFor 9 = .ok (.getfield 7, 3) := by decide +kernel
theorem dX8_fineFor_12 : decode cX8_fineFor 12 = .ok (.iload_n 1, 1) := by decide +kernel
theorem dX8_fineFor_13 : decode cX8_fineFor 13 = .ok (.iconst 2, 1) := by decide +kernel
theorem dX8_fineFor_14 : decode cX8_fineFor 14 = .ok (.invokestatic 128, 3) := by decide +kernel
theorem dX8_fineFor_17 : decode cX8_fineFor 17 = .ok (.iaload, 1) := by decide +kernel
theorem dX8_fineFor_18 : decode cX8_fineFor 18 = .ok (.imul, 1) := by decide +kernel
theorem dX8_fineFor_19 : decode cX8_fineFor 19 = .ok (.istore_n 2, 1) := by decide +kernel
theorem dX8_fineFor_20 : decode cX8_fineFor 20 = .ok (.aload_n 0, 1) := by decide +kernel
theorem dX8_fineFor_21 : decode cX8_fineFor 21 = .ok (.getfield 7, 3) := by decide +kernel
theorem dX8_fineFor_24 : decode cX8_fineFor 24 = .ok (.iload_n 1, 1) := by decide +kernel
theorem dX8_fineFor_25 : decode cX8_fineFor 25 = .ok (.iconst 1, 1) := by decide +kernel
theorem dX8_fineFor_26 : decode cX8_fineFor 26 = .ok (.invokestatic 128, 3) := by decide +kernel
theorem dX8_fineFor_29 : decode cX8_fineFor 29 = .ok (.iaload, 1) := by decide +kernel
theorem dX8_fineFor_30 : decode cX8_fineFor 30 = .ok (.istore_n 3, 1) := by decide +kernel
theorem dX8_fineFor_31 : decode cX8_fineFor 31 = .ok (.iload_n 2, 1) := by decide +kernel
theorem dX8_fineFor_32 : decode cX8_fineFor 32 = .ok (.iload_n 3, 1) := by decide +kernel
theorem dX8_fineFor_33 : decode cX8_fineFor 33 = .ok (.if_icmp .ge 7, 3) := by decide +kernel
theorem dX8_fineFor_36 : decode cX8_fineFor 36 = .ok (.iload_n 2, 1) := by decide +kernel
theorem dX8_fineFor_37 : decode cX8_fineFor 37 = .ok (.goto 4, 3) := by decide +kernel
theorem dX8_fineFor_40 : decode cX8_fineFor 40 = .ok (.iload_n 3, 1) := by decide +kernel
theorem dX8_fineFor_41 : decode cX8_fineFor 41 = .ok (.ireturn, 1) := by decide +kernel
theorem dX8_sneaks_0 : decode cX8_sneaks 0 = .ok (.aload_n 0, 1) := by decide +kernel
theorem dX8_sneaks_1 : decode cX8_sneaks 1 = .ok (.getfield 7, 3) := by decide +kernel
theorem dX8_sneaks_4 : decode cX8_sneaks 4 = .ok (.sipush 146, 3) := by decide +kernel
theorem dX8_sneaks_7 : decode cX8_sneaks 7 = .ok (.bipush 75, 2) := by decide +kernel
theorem dX8_sneaks_9 : decode cX8_sneaks 9 = .ok (.aload_n 0, 1) := by decide +kernel
theorem dX8_sneaks_10 : decode cX8_sneaks 10 = .ok (.getfield 7, 3) := by decide +kernel
theorem dX8_sneaks_13 : decode cX8_sneaks 13 = .ok (.sipush 146, 3) := by decide +kernel
theorem dX8_sneaks_16 : decode cX8_sneaks 16 = .ok (.iaload, 1) := by decide +kernel
theorem dX8_sneaks_17 : decode cX8_sneaks 17 = .ok (.imul, 1) := by decide +kernel
theorem dX8_sneaks_18 : decode cX8_sneaks 18 = .ok (.bipush 74, 2) := by decide +kernel
theorem dX8_sneaks_20 : decode cX8_sneaks 20 = .ok (.iadd, 1) := by decide +kernel
theorem dX8_sneaks_21 : decode cX8_sneaks 21 = .ok (.ldc 143, 2) := by decide +kernel
theorem dX8_sneaks_23 : decode cX8_sneaks 23 = .ok (.irem, 1) := by decide +kernel
theorem dX8_sneaks_24 : decode cX8_sneaks 24 = .ok (.iastore, 1) := by decide +kernel
theorem dX8_sneaks_25 : decode cX8_sneaks 25 = .ok (.aload_n 0, 1) := by decide +kernel
theorem dX8_sneaks_26 : decode cX8_sneaks 26 = .ok (.getfield 7, 3) := by decide +kernel
theorem dX8_sneaks_29 : decode cX8_sneaks 29 = .ok (.sipush 146, 3) := by decide +kernel
theorem dX8_sneaks_32 : decode cX8_sneaks 32 = .ok (.iaload, 1) := by decide +kernel
theorem dX8_sneaks_33 : decode cX8_sneaks 33 = .ok (.iconst 4, 1) := by decide +kernel
theorem dX8_sneaks_34 : decode cX8_sneaks 34 = .ok (.idiv, 1) := by decide +kernel
theorem dX8_sneaks_35 : decode cX8_sneaks 35 = .ok (.bipush 100, 2) := by decide +kernel
theorem dX8_sneaks_37 : decode cX8_sneaks 37 = .ok (.irem, 1) := by decide +kernel
theorem dX8_sneaks_38 : decode cX8_sneaks 38 = .ok (.aload_n 0, 1) := by decide +kernel
theorem dX8_sneaks_39 : decode cX8_sneaks 39 = .ok (.iload_n 2, 1) := by decide +kernel
theorem dX8_sneaks_40 : decode cX8_sneaks 40 = .ok (.invokevirtual 51, 3) := by decide +kernel
theorem dX8_sneaks_43 : decode cX8_sneaks 43 = .ok (.if_icmp .lt 5, 3) := by decide +kernel
theorem dX8_sneaks_46 : decode cX8_sneaks 46 = .ok (.iconst 0, 1) := by decide +kernel
theorem dX8_sneaks_47 : decode cX8_sneaks 47 = .ok (.ireturn, 1) := by decide +kernel
theorem dX8_sneaks_48 : decode cX8_sneaks 48 = .ok (.aload_n 0, 1) := by decide +kernel
theorem dX8_sneaks_49 : decode cX8_sneaks 49 = .ok (.getfield 7, 3) := by decide +kernel
theorem dX8_sneaks_52 : decode cX8_sneaks 52 = .ok (.iload_n 1, 1) := by decide +kernel
theorem dX8_sneaks_53 : decode cX8_sneaks 53 = .ok (.iconst 2, 1) := by decide +kernel
theorem dX8_sneaks_54 : decode cX8_sneaks 54 = .ok (.invokestatic 128, 3) := by decide +kernel
theorem dX8_sneaks_57 : decode cX8_sneaks 57 = .ok (.iaload, 1) := by decide +kernel
theorem dX8_sneaks_58 : decode cX8_sneaks 58 = .ok (.istore_n 3, 1) := by decide +kernel
theorem dX8_sneaks_59 : decode cX8_sneaks 59 = .ok (.aload_n 0, 1) := by decide +kernel
theorem dX8_sneaks_60 : decode cX8_sneaks 60 = .ok (.iload_n 1, 1) := by decide +kernel
theorem dX8_sneaks_61 : decode cX8_sneaks 61 = .ok (.invokevirtual 144, 3) := by decide +kernel
theorem dX8_sneaks_64 : decode cX8_sneaks 64 = .ok (.istore 4, 2) := by decide +kernel
theorem dX8_sneaks_66 : decode cX8_sneaks 66 = .ok (.aload_n 0, 1) := by decide +kernel
theorem dX8_sneaks_67 : decode cX8_sneaks 67 = .ok (.getfield 7, 3) := by decide +kernel
theorem dX8_sneaks_70 : decode cX8_sneaks 70 = .ok (.iload_n 1, 1) := by decide +kernel
theorem dX8_sneaks_71 : decode cX8_sneaks 71 = .ok (.iconst 2, 1) := by decide +kernel
theorem dX8_sneaks_72 : decode cX8_sneaks 72 = .ok (.invokestatic 128, 3) := by decide +kernel
theorem dX8_sneaks_75 : decode cX8_sneaks 75 = .ok (.iconst 0, 1) := by decide +kernel
theorem dX8_sneaks_76 : decode cX8_sneaks 76 = .ok (.iastore, 1) := by decide +kernel
theorem dX8_sneaks_77 : decode cX8_sneaks 77 = .ok (.aload_n 0, 1) := by decide +kernel
theorem dX8_sneaks_78 : decode cX8_sneaks 78 = .ok (.getfield 7, 3) := by decide +kernel
theorem dX8_sneaks_81 : decode cX8_sneaks 81 = .ok (.iload_n 1, 1) := by decide +kernel
theorem dX8_sneaks_82 : decode cX8_sneaks 82 = .ok (.iconst 1, 1) := by decide +kernel
theorem dX8_sneaks_83 : decode cX8_sneaks 83 = .ok (.invokestatic 128, 3) := by decide +kernel
theorem dX8_sneaks_86 : decode cX8_sneaks 86 = .ok (.dup2, 1) := by decide +kernel
theorem dX8_sneaks_87 : decode cX8_sneaks 87 = .ok (.iaload, 1) := by decide +kernel
theorem dX8_sneaks_88 : decode cX8_sneaks 88 = .ok (.iload 4, 2) := by decide +kernel
theorem dX8_sneaks_90 : decode cX8_sneaks 90 = .ok (.isub, 1) := by decide +kernel
theorem dX8_sneaks_91 : decode cX8_sneaks 91 = .ok (.iastore, 1) := by decide +kernel
theorem dX8_sneaks_92 : decode cX8_sneaks 92 = .ok (.aload_n 0, 1) := by decide +kernel
theorem dX8_sneaks_93 : decode cX8_sneaks 93 = .ok (.getfield 7, 3) := by decide +kernel
theorem dX8_sneaks_96 : decode cX8_sneaks 96 = .ok (.iload_n 1, 1) := by decide +kernel
theorem dX8_sneaks_97 : decode cX8_sneaks 97 = .ok (.bipush 6, 2) := by decide +kernel
theorem dX8_sneaks_99 : decode cX8_sneaks 99 = .ok (.invokestatic 128, 3) := by decide +kernel
theorem dX8_sneaks_102 : decode cX8_sneaks 102 = .ok (.dup2, 1) := by decide +kernel
theorem dX8_sneaks_103 : decode cX8_sneaks 103 = .ok (.iaload, 1) := by decide +kernel
theorem dX8_sneaks_104 : decode cX8_sneaks 104 = .ok (.iload 4, 2) := by decide +kernel
theorem dX8_sneaks_106 : decode cX8_sneaks 106 = .ok (.iadd, 1) := by decide +kernel
theorem dX8_sneaks_107 : decode cX8_sneaks 107 = .ok (.iastore, 1) := by decide +kernel
theorem dX8_sneaks_108 : decode cX8_sneaks 108 = .ok (.aload_n 0, 1) := by decide +kernel
theorem dX8_sneaks_109 : decode cX8_sneaks 109 = .ok (.getfield 7, 3) := by decide +kernel
theorem dX8_sneaks_112 : decode cX8_sneaks 112 = .ok (.iload_n 1, 1) := by decide +kernel
theorem dX8_sneaks_113 : decode cX8_sneaks 113 = .ok (.bipush 7, 2) := by decide +kernel
theorem dX8_sneaks_115 : decode cX8_sneaks 115 = .ok (.invokestatic 128, 3) := by decide +kernel
theorem dX8_sneaks_118 : decode cX8_sneaks 118 = .ok (.dup2, 1) := by decide +kernel
theorem dX8_sneaks_119 : decode cX8_sneaks 119 = .ok (.iaload, 1) := by decide +kernel
theorem dX8_sneaks_120 : decode cX8_sneaks 120 = .ok (.iload_n 3, 1) := by decide +kernel
theorem dX8_sneaks_121 : decode cX8_sneaks 121 = .ok (.iadd, 1) := by decide +kernel
theorem dX8_sneaks_122 : decode cX8_sneaks 122 = .ok (.iastore, 1) := by decide +kernel
theorem dX8_sneaks_123 : decode cX8_sneaks 123 = .ok (.aload_n 0, 1) := by decide +kernel
theorem dX8_sneaks_124 : decode cX8_sneaks 124 = .ok (.getfield 7, 3) := by decide +kernel
theorem dX8_sneaks_127 : decode cX8_sneaks 127 = .ok (.sipush 149, 3) := by decide +kernel
theorem dX8_sneaks_130 : decode cX8_sneaks 130 = .ok (.dup2, 1) := by decide +kernel
theorem dX8_sneaks_131 : decode cX8_sneaks 131 = .ok (.iaload, 1) := by decide +kernel
theorem dX8_sneaks_132 : decode cX8_sneaks 132 = .ok (.iload_n 3, 1) := by decide +kernel
theorem dX8_sneaks_133 : decode cX8_sneaks 133 = .ok (.iadd, 1) := by decide +kernel
theorem dX8_sneaks_134 : decode cX8_sneaks 134 = .ok (.iastore, 1) := by decide +kernel
theorem dX8_sneaks_135 : decode cX8_sneaks 135 = .ok (.iload_n 3, 1) := by decide +kernel
theorem dX8_sneaks_136 : decode cX8_sneaks 136 = .ok (.ireturn, 1) := by decide +kernel
theorem dX8_goes_0 : decode cX8_goes 0 = .ok (.aload_n 0, 1) := by decide +kernel
theorem dX8_goes_1 : decode cX8_goes 1 = .ok (.iload_n 1, 1) := by decide +kernel
theorem dX8_goes_2 : decode cX8_goes 2 = .ok (.invokevirtual 134, 3) := by decide +kernel
theorem dX8_goes_5 : decode cX8_goes 5 = .ok (.ifCond .eq 11, 3) := by decide +kernel
theorem dX8_goes_8 : decode cX8_goes 8 = .ok (.aload_n 0, 1) := by decide +kernel
theorem dX8_goes_9 : decode cX8_goes 9 = .ok (.iload_n 2, 1) := by decide +kernel
theorem dX8_goes_10 : decode cX8_goes 10 = .ok (.invokevirtual 118, 3) := by decide +kernel
theorem dX8_goes_13 : decode cX8_goes 13 = .ok (.ifCond .ne 5, 3) := by decide +kernel
theorem dX8_goes_16 : decode cX8_goes 16 = .ok (.iconst (-1), 1) := by decide +kernel
theorem dX8_goes_17 : decode cX8_goes 17 = .ok (.ireturn, 1) := by decide +kernel
theorem dX8_goes_18 : decode cX8_goes 18 = .ok (.iload_n 3, 1) := by decide +kernel
theorem dX8_goes_19 : decode cX8_goes 19 = .ok (.iconst 0, 1) := by decide +kernel
theorem dX8_goes_20 : decode cX8_goes 20 = .ok (.iconst 1, 1) := by decide +kernel
theorem dX8_goes_21 : decode cX8_goes 21 = .ok (.invokestatic 29, 3) := by decide +kernel
theorem dX8_goes_24 : decode cX8_goes 24 = .ok (.ifCond .ne 6, 3) := by decide +kernel
theorem dX8_goes_27 : decode cX8_goes 27 = .ok (.bipush (-2), 2) := by decide +kernel
theorem dX8_goes_29 : decode cX8_goes 29 = .ok (.ireturn, 1) := by decide +kernel
theorem dX8_goes_30 : decode cX8_goes 30 = .ok (.aload_n 0, 1) := by decide +kernel
theorem dX8_goes_31 : decode cX8_goes 31 = .ok (.iload_n 1, 1) := by decide +kernel
theorem dX8_goes_32 : decode cX8_goes 32 = .ok (.iload_n 2, 1) := by decide +kernel
theorem dX8_goes_33 : decode cX8_goes 33 = .ok (.invokevirtual 147, 3) := by decide +kernel
theorem dX8_goes_36 : decode cX8_goes 36 = .ok (.istore 4, 2) := by decide +kernel
theorem dX8_goes_38 : decode cX8_goes 38 = .ok (.iload_n 3, 1) := by decide +kernel
theorem dX8_goes_39 : decode cX8_goes 39 = .ok (.iconst 1, 1) := by decide +kernel
theorem dX8_goes_40 : decode cX8_goes 40 = .ok (.if_icmp .ne 7, 3) := by decide +kernel
theorem dX8_goes_43 : decode cX8_goes 43 = .ok (.iconst 0, 1) := by decide +kernel
theorem dX8_goes_44 : decode cX8_goes 44 = .ok (.goto 24, 3) := by decide +kernel
theorem dX8_goes_47 : decode cX8_goes 47 = .ok (.aload_n 0, 1) := by decide +kernel
theorem dX8_goes_48 : decode cX8_goes 48 = .ok (.getfield 7, 3) := by decide +kernel
theorem dX8_goes_51 : decode cX8_goes 51 = .ok (.iload_n 2, 1) := by decide +kernel
theorem dX8_goes_52 : decode cX8_goes 52 = .ok (.iconst 2, 1) := by decide +kernel
theorem dX8_goes_53 : decode cX8_goes 53 = .ok (.invokestatic 40, 3) := by decide +kernel
theorem dX8_goes_56 : decode cX8_goes 56 = .ok (.iaload, 1) := by decide +kernel
theorem dX8_goes_57 : decode cX8_goes 57 = .ok (.aload_n 0, 1) := by decide +kernel
theorem dX8_goes_58 : decode cX8_goes 58 = .ok (.getfield 7, 3) := by decide +kernel
theorem dX8_goes_61 : decode cX8_goes 61 = .ok (.iload_n 1, 1) := by decide +kernel
theorem dX8_goes_62 : decode cX8_goes 62 = .ok (.iconst 2, 1) := by decide +kernel
theorem dX8_goes_63 : decode cX8_goes 63 = .ok (.invokestatic 128, 3) := by decide +kernel
theorem dX8_goes_66 : decode cX8_goes 66 = .ok (.iaload, 1) := by decide +kernel
theorem dX8_goes_67 : decode cX8_goes 67 = .ok (.imul, 1) := by decide +kernel
theorem dX8_goes_68 : decode cX8_goes 68 = .ok (.istore 5, 2) := by decide +kernel
theorem dX8_goes_70 : decode cX8_goes 70 = .ok (.iload 4, 2) := by decide +kernel
theorem dX8_goes_72 : decode cX8_goes 72 = .ok (.bipush (-6), 2) := by decide +kernel
theorem dX8_goes_74 : decode cX8_goes 74 = .ok (.if_icmp .eq 18, 3) := by decide +kernel
theorem dX8_goes_77 : decode cX8_goes 77 = .ok (.iload 5, 2) := by decide +kernel
theorem dX8_goes_79 : decode cX8_goes 79 = .ok (.aload_n 0, 1) := by decide +kernel
theorem dX8_goes_80 : decode cX8_goes 80 = .ok (.getfield 7, 3) := by decide +kernel
theorem dX8_goes_83 : decode cX8_goes 83 = .ok (.iload_n 1, 1) := by decide +kernel
theorem dX8_goes_84 : decode cX8_goes 84 = .ok (.iconst 1, 1) := by decide +kernel
theorem dX8_goes_85 : decode cX8_goes 85 = .ok (.invokestatic 128, 3) := by decide +kernel
theorem dX8_goes_88 : decode cX8_goes 88 = .ok (.iaload, 1) := by decide +kernel
theorem dX8_goes_89 : decode cX8_goes 89 = .ok (.if_icmp .le 6, 3) := by decide +kernel
theorem dX8_goes_92 : decode cX8_goes 92 = .ok (.bipush (-5), 2) := by decide +kernel
theorem dX8_goes_94 : decode cX8_goes 94 = .ok (.ireturn, 1) := by decide +kernel
theorem dX8_goes_95 : decode cX8_goes 95 = .ok (.aload_n 0, 1) := by decide +kernel
theorem dX8_goes_96 : decode cX8_goes 96 = .ok (.getfield 7, 3) := by decide +kernel
theorem dX8_goes_99 : decode cX8_goes 99 = .ok (.iload_n 1, 1) := by decide +kernel
theorem dX8_goes_100 : decode cX8_goes 100 = .ok (.iconst 1, 1) := by decide +kernel
theorem dX8_goes_101 : decode cX8_goes 101 = .ok (.invokestatic 128, 3) := by decide +kernel
theorem dX8_goes_104 : decode cX8_goes 104 = .ok (.dup2, 1) := by decide +kernel
theorem dX8_goes_105 : decode cX8_goes 105 = .ok (.iaload, 1) := by decide +kernel
theorem dX8_goes_106 : decode cX8_goes 106 = .ok (.iload 5, 2) := by decide +kernel
theorem dX8_goes_108 : decode cX8_goes 108 = .ok (.isub, 1) := by decide +kernel
theorem dX8_goes_109 : decode cX8_goes 109 = .ok (.iastore, 1) := by decide +kernel
theorem dX8_goes_110 : decode cX8_goes 110 = .ok (.aload_n 0, 1) := by decide +kernel
theorem dX8_goes_111 : decode cX8_goes 111 = .ok (.getfield 7, 3) := by decide +kernel
theorem dX8_goes_114 : decode cX8_goes 114 = .ok (.iload_n 1, 1) := by decide +kernel
theorem dX8_goes_115 : decode cX8_goes 115 = .ok (.iconst 5, 1) := by decide +kernel
theorem dX8_goes_116 : decode cX8_goes 116 = .ok (.invokestatic 128, 3) := by decide +kernel
theorem dX8_goes_119 : decode cX8_goes 119 = .ok (.dup2, 1) := by decide +kernel
theorem dX8_goes_120 : decode cX8_goes 120 = .ok (.iaload, 1) := by decide +kernel
theorem dX8_goes_121 : decode cX8_goes 121 = .ok (.iload 5, 2) := by decide +kernel
theorem dX8_goes_123 : decode cX8_goes 123 = .ok (.iadd, 1) := by decide +kernel
theorem dX8_goes_124 : decode cX8_goes 124 = .ok (.iastore, 1) := by decide +kernel
theorem dX8_goes_125 : decode cX8_goes 125 = .ok (.iload_n 3, 1) := by decide +kernel
theorem dX8_goes_126 : decode cX8_goes 126 = .ok (.iconst 1, 1) := by decide +kernel
theorem dX8_goes_127 : decode cX8_goes 127 = .ok (.if_icmp .ne 25, 3) := by decide +kernel
theorem dX8_goes_130 : decode cX8_goes 130 = .ok (.aload_n 0, 1) := by decide +kernel
theorem dX8_goes_131 : decode cX8_goes 131 = .ok (.getfield 7, 3) := by decide +kernel
theorem dX8_goes_134 : decode cX8_goes 134 = .ok (.iload_n 1, 1) := by decide +kernel
theorem dX8_goes_135 : decode cX8_goes 135 = .ok (.iconst 2, 1) := by decide +kernel
theorem dX8_goes_136 : decode cX8_goes 136 = .ok (.invokestatic 128, 3) := by decide +kernel
theorem dX8_goes_139 : decode cX8_goes 139 = .ok (.iaload, 1) := by decide +kernel
theorem dX8_goes_140 : decode cX8_goes 140 = .ok (.ifCond .le 12, 3) := by decide +kernel
theorem dX8_goes_143 : decode cX8_goes 143 = .ok (.aload_n 0, 1) := by decide +kernel
theorem dX8_goes_144 : decode cX8_goes 144 = .ok (.iload_n 1, 1) := by decide +kernel
theorem dX8_goes_145 : decode cX8_goes 145 = .ok (.iload_n 2, 1) := by decide +kernel
theorem dX8_goes_146 : decode cX8_goes 146 = .ok (.invokevirtual 150, 3) := by decide +kernel
theorem dX8_goes_149 : decode cX8_goes 149 = .ok (.goto 4, 3) := by decide +kernel
theorem dX8_goes_152 : decode cX8_goes 152 = .ok (.iconst 0, 1) := by decide +kernel
theorem dX8_goes_153 : decode cX8_goes 153 = .ok (.istore 6, 2) := by decide +kernel
theorem dX8_goes_155 : decode cX8_goes 155 = .ok (.aload_n 0, 1) := by decide +kernel
theorem dX8_goes_156 : decode cX8_goes 156 = .ok (.getfield 7, 3) := by decide +kernel
theorem dX8_goes_159 : decode cX8_goes 159 = .ok (.iload_n 1, 1) := by decide +kernel
theorem dX8_goes_160 : decode cX8_goes 160 = .ok (.iconst 0, 1) := by decide +kernel
theorem dX8_goes_161 : decode cX8_goes 161 = .ok (.invokestatic 128, 3) := by decide +kernel
theorem dX8_goes_164 : decode cX8_goes 164 = .ok (.aload_n 0, 1) := by decide +kernel
theorem dX8_goes_165 : decode cX8_goes 165 = .ok (.iload_n 2, 1) := by decide +kernel
theorem dX8_goes_166 : decode cX8_goes 166 = .ok (.iconst 1, 1) := by decide +kernel
theorem dX8_goes_167 : decode cX8_goes 167 = .ok (.iload 4, 2) := by decide +kernel
theorem dX8_goes_169 : decode cX8_goes 169 = .ok (.isub, 1) := by decide +kernel
theorem dX8_goes_170 : decode cX8_goes 170 = .ok (.invokevirtual 48, 3) := by decide +kernel
theorem dX8_goes_173 : decode cX8_goes 173 = .ok (.iastore, 1) := by decide +kernel
theorem dX8_goes_174 : decode cX8_goes 174 = .ok (.aload_n 0, 1) := by decide +kernel
theorem dX8_goes_175 : decode cX8_goes 175 = .ok (.getfield 7, 3) := by decide +kernel
theorem dX8_goes_178 : decode cX8_goes 178 = .ok (.iload_n 2, 1) := by decide +kernel
theorem dX8_goes_179 : decode cX8_goes 179 = .ok (.iconst 4, 1) := by decide +kernel
theorem dX8_goes_180 : decode cX8_goes 180 = .ok (.iload_n 3, 1) := by decide +kernel
theorem dX8_goes_181 : decode cX8_goes 181 = .ok (.iadd, 1) := by decide +kernel
theorem dX8_goes_182 : decode cX8_goes 182 = .ok (.invokestatic 40, 3) := by decide +kernel
theorem dX8_goes_185 : decode cX8_goes 185 = .ok (.dup2, 1) := by decide +kernel
theorem dX8_goes_186 : decode cX8_goes 186 = .ok (.iaload, 1) := by decide +kernel
theorem dX8_goes_187 : decode cX8_goes 187 = .ok (.iconst 1, 1) := by decide +kernel
theorem dX8_goes_188 : decode cX8_goes 188 = .ok (.iadd, 1) := by decide +kernel
theorem dX8_goes_189 : decode cX8_goes 189 = .ok (.iastore, 1) := by decide +kernel
theorem dX8_goes_190 : decode cX8_goes 190 = .ok (.iload 6, 2) := by decide +kernel
theorem dX8_goes_192 : decode cX8_goes 192 = .ok (.ireturn, 1) := by decide +kernel
theorem dX8_go_0 : decode cX8_go 0 = .ok (.aload_n 0, 1) := by decide +kernel
theorem dX8_go_1 : decode cX8_go 1 = .ok (.invokevirtual 90, 3) := by decide +kernel
theorem dX8_go_4 : decode cX8_go 4 = .ok (.aload_n 0, 1) := by decide +kernel
theorem dX8_go_5 : decode cX8_go 5 = .ok (.aload_n 0, 1) := by decide +kernel
theorem dX8_go_6 : decode cX8_go 6 = .ok (.iload_n 1, 1) := by decide +kernel
theorem dX8_go_7 : decode cX8_go 7 = .ok (.iload_n 2, 1) := by decide +kernel
theorem dX8_go_8 : decode cX8_go 8 = .ok (.iload_n 3, 1) := by decide +kernel
theorem dX8_go_9 : decode cX8_go 9 = .ok (.invokevirtual 153, 3) := by decide +kernel
theorem dX8_go_12 : decode cX8_go 12 = .ok (.invokevirtual 105, 3) := by decide +kernel
theorem dX8_go_15 : decode cX8_go 15 = .ok (.ireturn, 1) := by decide +kernel
theorem dX8_write_0 : decode cX8_write 0 = .ok (.aload_n 0, 1) := by decide +kernel
theorem dX8_write_1 : decode cX8_write 1 = .ok (.iconst 0, 1) := by decide +kernel
theorem dX8_write_2 : decode cX8_write 2 = .ok (.putfield 156, 3) := by decide +kernel
theorem dX8_write_5 : decode cX8_write 5 = .ok (.iconst 0, 1) := by decide +kernel
theorem dX8_write_6 : decode cX8_write 6 = .ok (.istore_n 1, 1) := by decide +kernel
theorem dX8_write_7 : decode cX8_write 7 = .ok (.iload_n 1, 1) := by decide +kernel
theorem dX8_write_8 : decode cX8_write 8 = .ok (.bipush 8, 2) := by decide +kernel
theorem dX8_write_10 : decode cX8_write 10 = .ok (.if_icmp .ge 61, 3) := by decide +kernel
theorem dX8_write_13 : decode cX8_write 13 = .ok (.iload_n 1, 1) := by decide +kernel
theorem dX8_write_14 : decode cX8_write 14 = .ok (.ifCond .le 9, 3) := by decide +kernel
theorem dX8_write_17 : decode cX8_write 17 = .ok (.aload_n 0, 1) := by decide +kernel
theorem dX8_write_18 : decode cX8_write 18 = .ok (.bipush 47, 2) := by decide +kernel
theorem dX8_write_20 : decode cX8_write 20 = .ok (.invokevirtual 159, 3) := by decide +kernel
theorem dX8_write_23 : decode cX8_write 23 = .ok (.aload_n 0, 1) := by decide +kernel
theorem dX8_write_24 : decode cX8_write 24 = .ok (.getfield 7, 3) := by decide +kernel
theorem dX8_write_27 : decode cX8_write 27 = .ok (.iconst 0, 1) := by decide +kernel
theorem dX8_write_28 : decode cX8_write 28 = .ok (.iload_n 1, 1) := by decide +kernel
theorem dX8_write_29 : decode cX8_write 29 = .ok (.iadd, 1) := by decide +kernel
