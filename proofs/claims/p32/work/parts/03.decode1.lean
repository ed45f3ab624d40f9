theorem dX0_init_0 : decode cX0_init 0 = .ok (.aload_n 0, 1) := by decide +kernel
theorem dX0_init_1 : decode cX0_init 1 = .ok (.invokespecial 1, 3) := by decide +kernel
theorem dX0_init_4 : decode cX0_init 4 = .ok (.return_, 1) := by decide +kernel
theorem dX0_begin_0 : decode cX0_begin 0 = .ok (.aload_n 0, 1) := by decide +kernel
theorem dX0_begin_1 : decode cX0_begin 1 = .ok (.iload_n 1, 1) := by decide +kernel
theorem dX0_begin_2 : decode cX0_begin 2 = .ok (.putfield 7, 3) := by decide +kernel
theorem dX0_begin_5 : decode cX0_begin 5 = .ok (.aload_n 0, 1) := by decide +kernel
theorem dX0_begin_6 : decode cX0_begin 6 = .ok (.iload_n 2, 1) := by decide +kernel
theorem dX0_begin_7 : decode cX0_begin 7 = .ok (.putfield 13, 3) := by decide +kernel
theorem dX0_begin_10 : decode cX0_begin 10 = .ok (.aload_n 0, 1) := by decide +kernel
theorem dX0_begin_11 : decode cX0_begin 11 = .ok (.iconst 0, 1) := by decide +kernel
theorem dX0_begin_12 : decode cX0_begin 12 = .ok (.putfield 16, 3) := by decide +kernel
theorem dX0_begin_15 : decode cX0_begin 15 = .ok (.aload_n 0, 1) := by decide +kernel
theorem dX0_begin_16 : decode cX0_begin 16 = .ok (.iconst 0, 1) := by decide +kernel
theorem dX0_begin_17 : decode cX0_begin 17 = .ok (.putfield 19, 3) := by decide +kernel
theorem dX0_begin_20 : decode cX0_begin 20 = .ok (.aload_n 0, 1) := by decide +kernel
theorem dX0_begin_21 : decode cX0_begin 21 = .ok (.iconst 0, 1) := by decide +kernel
theorem dX0_begin_22 : decode cX0_begin 22 = .ok (.putfield 22, 3) := by decide +kernel
theorem dX0_begin_25 : decode cX0_begin 25 = .ok (.aload_n 0, 1) := by decide +kernel
theorem dX0_begin_26 : decode cX0_begin 26 = .ok (.iconst 0, 1) := by decide +kernel
theorem dX0_begin_27 : decode cX0_begin 27 = .ok (.putfield 25, 3) := by decide +kernel
theorem dX0_begin_30 : decode cX0_begin 30 = .ok (.aload_n 0, 1) := by decide +kernel
theorem dX0_begin_31 : decode cX0_begin 31 = .ok (.iconst 0, 1) := by decide +kernel
theorem dX0_begin_32 : decode cX0_begin 32 = .ok (.putfield 28, 3) := by decide +kernel
theorem dX0_begin_35 : decode cX0_begin 35 = .ok (.aload_n 0, 1) := by decide +kernel
theorem dX0_begin_36 : decode cX0_begin 36 = .ok (.iconst 0, 1) := by decide +kernel
theorem dX0_begin_37 : decode cX0_begin 37 = .ok (.putfield 31, 3) := by decide +kernel
theorem dX0_begin_40 : decode cX0_begin 40 = .ok (.return_, 1) := by decide +kernel
theorem dX0_copyFrom_0 : decode cX0_copyFrom 0 = .ok (.aload_n 0, 1) := by decide +kernel
theorem dX0_copyFrom_1 : decode cX0_copyFrom 1 = .ok (.aload_n 1, 1) := by decide +kernel
theorem dX0_copyFrom_2 : decode cX0_copyFrom 2 = .ok (.getfield 7, 3) := by decide +kernel
theorem dX0_copyFrom_5 : decode cX0_copyFrom 5 = .ok (.putfield 7, 3) := by decide +kernel
theorem dX0_copyFrom_8 : decode cX0_copyFrom 8 = .ok (.aload_n 0, 1) := by decide +kernel
theorem dX0_copyFrom_9 : decode cX0_copyFrom 9 = .ok (.aload_n 1, 1) := by decide +kernel
theorem dX0_copyFrom_10 : decode cX0_copyFrom 10 = .ok (.getfield 13, 3) := by decide +kernel
theorem dX0_copyFrom_13 : decode cX0_copyFrom 13 = .ok (.putfield 13, 3) := by decide +kernel
theorem dX0_copyFrom_16 : decode cX0_copyFrom 16 = .ok (.aload_n 0, 1) := by decide +kernel
theorem dX0_copyFrom_17 : decode cX0_copyFrom 17 = .ok (.aload_n 1, 1) := by decide +kernel
theorem dX0_copyFrom_18 : decode cX0_copyFrom 18 = .ok (.getfield 16, 3) := by decide +kernel
theorem dX0_copyFrom_21 : decode cX0_copyFrom 21 = .ok (.putfield 16, 3) := by decide +kernel
theorem dX0_copyFrom_24 : decode cX0_copyFrom 24 = .ok (.aload_n 0, 1) := by decide +kernel
theorem dX0_copyFrom_25 : decode cX0_copyFrom 25 = .ok (.aload_n 1, 1) := by decide +kernel
theorem dX0_copyFrom_26 : decode cX0_copyFrom 26 = .ok (.getfield 19, 3) := by decide +kernel
theorem dX0_copyFrom_29 : decode cX0_copyFrom 29 = .ok (.putfield 19, 3) := by decide +kernel
theorem dX0_copyFrom_32 : decode cX0_copyFrom 32 = .ok (.aload_n 0, 1) := by decide +kernel
theorem dX0_copyFrom_33 : decode cX0_copyFrom 33 = .ok (.aload_n 1, 1) := by decide +kernel
theorem dX0_copyFrom_34 : decode cX0_copyFrom 34 = .ok (.getfield 22, 3) := by decide +kernel
theorem dX0_copyFrom_37 : decode cX0_copyFrom 37 = .ok (.putfield 22, 3) := by decide +kernel
theorem dX0_copyFrom_40 : decode cX0_copyFrom 40 = .ok (.aload_n 0, 1) := by decide +kernel
theorem dX0_copyFrom_41 : decode cX0_copyFrom 41 = .ok (.aload_n 1, 1) := by decide +kernel
theorem dX0_copyFrom_42 : decode cX0_copyFrom 42 = .ok (.getfield 25, 3) := by decide +kernel
theorem dX0_copyFrom_45 : decode cX0_copyFrom 45 = .ok (.putfield 25, 3) := by decide +kernel
theorem dX0_copyFrom_48 : decode cX0_copyFrom 48 = .ok (.aload_n 0, 1) := by decide +kernel
theorem dX0_copyFrom_49 : decode cX0_copyFrom 49 = .ok (.aload_n 1, 1) := by decide +kernel
theorem dX0_copyFrom_50 : decode cX0_copyFrom 50 = .ok (.getfield 28, 3) := by decide +kernel
theorem dX0_copyFrom_53 : decode cX0_copyFrom 53 = .ok (.putfield 28, 3) := by decide +kernel
theorem dX0_copyFrom_56 : decode cX0_copyFrom 56 = .ok (.aload_n 0, 1) := by decide +kernel
theorem dX0_copyFrom_57 : decode cX0_copyFrom 57 = .ok (.aload_n 1, 1) := by decide +kernel
theorem dX0_copyFrom_58 : decode cX0_copyFrom 58 = .ok (.getfield 31, 3) := by decide +kernel
theorem dX0_copyFrom_61 : decode cX0_copyFrom 61 = .ok (.putfield 31, 3) := by decide +kernel
theorem dX0_copyFrom_64 : decode cX0_copyFrom 64 = .ok (.return_, 1) := by decide +kernel
theorem dX1_init_0 : decode cX1_init 0 = .ok (.aload_n 0, 1) := by decide +kernel
theorem dX1_init_1 : decode cX1_init 1 = .ok (.invokespecial 3, 3) := by decide +kernel
theorem dX1_init_4 : decode cX1_init 4 = .ok (.aload_n 0, 1) := by decide +kernel
theorem dX1_init_5 : decode cX1_init 5 = .ok (.bipush 7, 2) := by decide +kernel
theorem dX1_init_7 : decode cX1_init 7 = .ok (.anewarray 9, 3) := by decide +kernel
theorem dX1_init_10 : decode cX1_init 10 = .ok (.putfield 11, 3) := by decide +kernel
theorem dX1_init_13 : decode cX1_init 13 = .ok (.aload_n 0, 1) := by decide +kernel
theorem dX1_init_14 : decode cX1_init 14 = .ok (.iconst 0, 1) := by decide +kernel
theorem dX1_init_15 : decode cX1_init 15 = .ok (.putfield 17, 3) := by decide +kernel
theorem dX1_init_18 : decode cX1_init 18 = .ok (.aload_n 0, 1) := by decide +kernel
theorem dX1_init_19 : decode cX1_init 19 = .ok (.iconst 0, 1) := by decide +kernel
theorem dX1_init_20 : decode cX1_init 20 = .ok (.putfield 21, 3) := by decide +kernel
theorem dX1_init_23 : decode cX1_init 23 = .ok (.iconst 0, 1) := by decide +kernel
theorem dX1_init_24 : decode cX1_init 24 = .ok (.istore_n 1, 1) := by decide +kernel
theorem dX1_init_25 : decode cX1_init 25 = .ok (.iload_n 1, 1) := by decide +kernel
theorem dX1_init_26 : decode cX1_init 26 = .ok (.aload_n 0, 1) := by decide +kernel
theorem dX1_init_27 : decode cX1_init 27 = .ok (.getfield 11, 3) := by decide +kernel
theorem dX1_init_30 : decode cX1_init 30 = .ok (.arraylength, 1) := by decide +kernel
theorem dX1_init_31 : decode cX1_init 31 = .ok (.if_icmp .ge 22, 3) := by decide +kernel
theorem dX1_init_34 : decode cX1_init 34 = .ok (.aload_n 0, 1) := by decide +kernel
theorem dX1_init_35 : decode cX1_init 35 = .ok (.getfield 11, 3) := by decide +kernel
theorem dX1_init_38 : decode cX1_init 38 = .ok (.iload_n 1, 1) := by decide +kernel
theorem dX1_init_39 : decode cX1_init 39 = .ok (.new 9, 3) := by decide +kernel
theorem dX1_init_42 : decode cX1_init 42 = .ok (.dup, 1) := by decide +kernel
theorem dX1_init_43 : decode cX1_init 43 = .ok (.invokespecial 24, 3) := by decide +kernel
theorem dX1_init_46 : decode cX1_init 46 = .ok (.aastore, 1) := by decide +kernel
theorem dX1_init_47 : decode cX1_init 47 = .ok (.iinc 1 1, 3) := by decide +kernel
theorem dX1_init_50 : decode cX1_init 50 = .ok (.goto (-25), 3) := by decide +kernel
theorem dX1_init_53 : decode cX1_init 53 = .ok (.return_, 1) := by decide +kernel
theorem dX1_keepInMind_0 : decode cX1_keepInMind 0 = .ok (.aload_n 0, 1) := by decide +kernel
theorem dX1_keepInMind_1 : decode cX1_keepInMind 1 = .ok (.getfield 11, 3) := by decide +kernel
theorem dX1_keepInMind_4 : decode cX1_keepInMind 4 = .ok (.aload_n 0, 1) := by decide +kernel
theorem dX1_keepInMind_5 : decode cX1_keepInMind 5 = .ok (.aload_n 0, 1) := by decide +kernel
theorem dX1_keepInMind_6 : decode cX1_keepInMind 6 = .ok (.getfield 21, 3) := by decide +kernel
theorem dX1_keepInMind_9 : decode cX1_keepInMind 9 = .ok (.invokevirtual 25, 3) := by decide +kernel
theorem dX1_keepInMind_12 : decode cX1_keepInMind 12 = .ok (.aaload, 1) := by decide +kernel
theorem dX1_keepInMind_13 : decode cX1_keepInMind 13 = .ok (.aload_n 1, 1) := by decide +kernel
theorem dX1_keepInMind_14 : decode cX1_keepInMind 14 = .ok (.invokevirtual 29, 3) := by decide +kernel
theorem dX1_keepInMind_17 : decode cX1_keepInMind 17 = .ok (.return_, 1) := by decide +kernel
theorem dX1_record_0 : decode cX1_record 0 = .ok (.aload_n 0, 1) := by decide +kernel
theorem dX1_record_1 : decode cX1_record 1 = .ok (.getfield 21, 3) := by decide +kernel
theorem dX1_record_4 : decode cX1_record 4 = .ok (.bipush 6, 2) := by decide +kernel
theorem dX1_record_6 : decode cX1_record 6 = .ok (.if_icmp .ge 16, 3) := by decide +kernel
theorem dX1_record_9 : decode cX1_record 9 = .ok (.aload_n 0, 1) := by decide +kernel
theorem dX1_record_10 : decode cX1_record 10 = .ok (.dup, 1) := by decide +kernel
theorem dX1_record_11 : decode cX1_record 11 = .ok (.getfield 21, 3) := by decide +kernel
theorem dX1_record_14 : decode cX1_record 14 = .ok (.iconst 1, 1) := by decide +kernel
theorem dX1_record_15 : decode cX1_record 15 = .ok (.iadd, 1) := by decide +kernel
theorem dX1_record_16 : decode cX1_record 16 = .ok (.putfield 21, 3) := by decide +kernel
theorem dX1_record_19 : decode cX1_record 19 = .ok (.goto 12, 3) := by decide +kernel
theorem dX1_record_22 : decode cX1_record 22 = .ok (.aload_n 0, 1) := by decide +kernel
theorem dX1_record_23 : decode cX1_record 23 = .ok (.aload_n 0, 1) := by decide +kernel
theorem dX1_record_24 : decode cX1_record 24 = .ok (.iconst 1, 1) := by decide +kernel
theorem dX1_record_25 : decode cX1_record 25 = .ok (.invokevirtual 25, 3) := by decide +kernel
theorem dX1_record_28 : decode cX1_record 28 = .ok (.putfield 17, 3) := by decide +kernel
theorem dX1_record_31 : decode cX1_record 31 = .ok (.return_, 1) := by decide +kernel
theorem dX1_takeBack_0 : decode cX1_takeBack 0 = .ok (.aload_n 0, 1) := by decide +kernel
theorem dX1_takeBack_1 : decode cX1_takeBack 1 = .ok (.dup, 1) := by decide +kernel
theorem dX1_takeBack_2 : decode cX1_takeBack 2 = .ok (.getfield 21, 3) := by decide +kernel
theorem dX1_takeBack_5 : decode cX1_takeBack 5 = .ok (.iconst 1, 1) := by decide +kernel
theorem dX1_takeBack_6 : decode cX1_takeBack 6 = .ok (.isub, 1) := by decide +kernel
theorem dX1_takeBack_7 : decode cX1_takeBack 7 = .ok (.putfield 21, 3) := by decide +kernel
theorem dX1_takeBack_10 : decode cX1_takeBack 10 = .ok (.aload_n 1, 1) := by decide +kernel
theorem dX1_takeBack_11 : decode cX1_takeBack 11 = .ok (.aload_n 0, 1) := by decide +kernel
theorem dX1_takeBack_12 : decode cX1_takeBack 12 = .ok (.getfield 11, 3) := by decide +kernel
theorem dX1_takeBack_15 : decode cX1_takeBack 15 = .ok (.aload_n 0, 1) := by decide +kernel
theorem dX1_takeBack_16 : decode cX1_takeBack 16 = .ok (.aload_n 0, 1) := by decide +kernel
theorem dX1_takeBack_17 : decode cX1_takeBack 17 = .ok (.getfield 21, 3) := by decide +kernel
theorem dX1_takeBack_20 : decode cX1_takeBack 20 = .ok (.invokevirtual 25, 3) := by decide +kernel
theorem dX1_takeBack_23 : decode cX1_takeBack 23 = .ok (.aaload, 1) := by decide +kernel
theorem dX1_takeBack_24 : decode cX1_takeBack 24 = .ok (.invokevirtual 29, 3) := by decide +kernel
theorem dX1_takeBack_27 : decode cX1_takeBack 27 = .ok (.return_, 1) := by decide +kernel
theorem dX1_placeBehind_0 : decode cX1_placeBehind 0 = .ok (.aload_n 0, 1) := by decide +kernel
theorem dX1_placeBehind_1 : decode cX1_placeBehind 1 = .ok (.getfield 17, 3) := by decide +kernel
theorem dX1_placeBehind_4 : decode cX1_placeBehind 4 = .ok (.iload_n 1, 1) := by decide +kernel
theorem dX1_placeBehind_5 : decode cX1_placeBehind 5 = .ok (.iadd, 1) := by decide +kernel
theorem dX1_placeBehind_6 : decode cX1_placeBehind 6 = .ok (.bipush 7, 2) := by decide +kernel
theorem dX1_placeBehind_8 : decode cX1_placeBehind 8 = .ok (.irem, 1) := by decide +kernel
theorem dX1_placeBehind_9 : decode cX1_placeBehind 9 = .ok (.ireturn, 1) := by decide +kernel
theorem dX2_init_0 : decode cX2_init 0 = .ok (.aload_n 0, 1) := by decide +kernel
theorem dX2_init_1 : decode cX2_init 1 = .ok (.invokespecial 3, 3) := by decide +kernel
theorem dX2_init_4 : decode cX2_init 4 = .ok (.aload_n 0, 1) := by decide +kernel
theorem dX2_init_5 : decode cX2_init 5 = .ok (.bipush 80, 2) := by decide +kernel
theorem dX2_init_7 : decode cX2_init 7 = .ok (.newarray .int, 2) := by decide +kernel
theorem dX2_init_9 : decode cX2_init 9 = .ok (.putfield 9, 3) := by decide +kernel
theorem dX2_init_12 : decode cX2_init 12 = .ok (.aload_n 0, 1) := by decide +kernel
theorem dX2_init_13 : decode cX2_init 13 = .ok (.iconst 0, 1) := by decide +kernel
theorem dX2_init_14 : decode cX2_init 14 = .ok (.putfield 15, 3) := by decide +kernel
theorem dX2_init_17 : decode cX2_init 17 = .ok (.return_, 1) := by decide +kernel
theorem dX3_init_0 : decode cX3_init 0 = .ok (.aload_n 0, 1) := by decide +kernel
theorem dX3_init_1 : decode cX3_init 1 = .ok (.invokespecial 3, 3) := by decide +kernel
theorem dX3_init_4 : decode cX3_init 4 = .ok (.aload_n 0, 1) := by decide +kernel
theorem dX3_init_5 : decode cX3_init 5 = .ok (.iconst 0, 1) := by decide +kernel
theorem dX3_init_6 : decode cX3_init 6 = .ok (.putfield 9, 3) := by decide +kernel
theorem dX3_init_9 : decode cX3_init 9 = .ok (.aload_n 0, 1) := by decide +kernel
theorem dX3_init_10 : decode cX3_init 10 = .ok (.iconst 0, 1) := by decide +kernel
theorem dX3_init_11 : decode cX3_init 11 = .ok (.putfield 15, 3) := by decide +kernel
theorem dX3_init_14 : decode cX3_init 14 = .ok (.aload_n 0, 1) := by decide +kernel
theorem dX3_init_15 : decode cX3_init 15 = .ok (.iconst 0, 1) := by decide +kernel
theorem dX3_init_16 : decode cX3_init 16 = .ok (.putfield 18, 3) := by decide +kernel
theorem dX3_init_19 : decode cX3_init 19 = .ok (.aload_n 0, 1) := by decide +kernel
theorem dX3_init_20 : decode cX3_init 20 = .ok (.iconst 0, 1) := by decide +kernel
theorem dX3_init_21 : decode cX3_init 21 = .ok (.putfield 21, 3) := by decide +kernel
theorem dX3_init_24 : decode cX3_init 24 = .ok (.aload_n 0, 1) := by decide +kernel
theorem dX3_init_25 : decode cX3_init 25 = .ok (.iconst 0, 1) := by decide +kernel
theorem dX3_init_26 : decode cX3_init 26 = .ok (.putfield 24, 3) := by decide +kernel
theorem dX3_init_29 : decode cX3_init 29 = .ok (.aload_n 0, 1) := by decide +kernel
theorem dX3_init_30 : decode cX3_init 30 = .ok (.iconst 0, 1) := by decide +kernel
theorem dX3_init_31 : decode cX3_init 31 = .ok (.putfield 27, 3) := by decide +kernel
theorem dX3_init_34 : decode cX3_init 34 = .ok (.aload_n 0, 1) := by decide +kernel
theorem dX3_init_35 : decode cX3_init 35 = .ok (.aload_n 1, 1) := by decide +kernel
theorem dX3_init_36 : decode cX3_init 36 = .ok (.putfield 30, 3) := by decide +kernel
theorem dX3_init_39 : decode cX3_init 39 = .ok (.return_, 1) := by decide +kernel
theorem dX4_init_0 : decode cX4_init 0 = .ok (.aload_n 0, 1) := by decide +kernel
theorem dX4_init_1 : decode cX4_init 1 = .ok (.invokespecial 1, 3) := by decide +kernel
theorem dX4_init_4 : decode cX4_init 4 = .ok (.return_, 1) := by decide +kernel
theorem dX4_begin_0 : decode cX4_begin 0 = .ok (.aload_n 0, 1) := by decide +kernel
theorem dX4_begin_1 : decode cX4_begin 1 = .ok (.iload_n 1, 1) := by decide +kernel
theorem dX4_begin_2 : decode cX4_begin 2 = .ok (.putfield 7, 3) := by decide +kernel
theorem dX4_begin_5 : decode cX4_begin 5 = .ok (.aload_n 0, 1) := by decide +kernel
theorem dX4_begin_6 : decode cX4_begin 6 = .ok (.iload_n 2, 1) := by decide +kernel
theorem dX4_begin_7 : decode cX4_begin 7 = .ok (.putfield 13, 3) := by decide +kernel
theorem dX4_begin_10 : decode cX4_begin 10 = .ok (.aload_n 0, 1) := by decide +kernel
theorem dX4_begin_11 : decode cX4_begin 11 = .ok (.iload_n 3, 1) := by decide +kernel
theorem dX4_begin_12 : decode cX4_begin 12 = .ok (.putfield 16, 3) := by decide +kernel
theorem dX4_begin_15 : decode cX4_begin 15 = .ok (.aload_n 0, 1) := by decide +kernel
theorem dX4_begin_16 : decode cX4_begin 16 = .ok (.iconst 0, 1) := by decide +kernel
theorem dX4_begin_17 : decode cX4_begin 17 = .ok (.putfield 19, 3) := by decide +kernel
theorem dX4_begin_20 : decode cX4_begin 20 = .ok (.aload_n 0, 1) := by decide +kernel
theorem dX4_begin_21 : decode cX4_begin 21 = .ok (.iconst 0, 1) := by decide +kernel
theorem dX4_begin_22 : decode cX4_begin 22 = .ok (.putfield 22, 3) := by decide +kernel
theorem dX4_begin_25 : decode cX4_begin 25 = .ok (.aload_n 0, 1) := by decide +kernel
theorem dX4_begin_26 : decode cX4_begin 26 = .ok (.iconst 0, 1) := by decide +kernel
theorem dX4_begin_27 : decode cX4_begin 27 = .ok (.putfield 25, 3) := by decide +kernel
theorem dX4_begin_30 : decode cX4_begin 30 = .ok (.return_, 1) := by decide +kernel
theorem dX4_copyFrom_0 : decode cX4_copyFrom 0 = .ok (.aload_n 0, 1) := by decide +kernel
theorem dX4_copyFrom_1 : decode cX4_copyFrom 1 = .ok (.aload_n 1, 1) := by decide +kernel
theorem dX4_copyFrom_2 : decode cX4_copyFrom 2 = .ok (.getfield 7, 3) := by decide +kernel
theorem dX4_copyFrom_5 : decode cX4_copyFrom 5 = .ok (.putfield 7, 3) := by decide +kernel
theorem dX4_copyFrom_8 : decode cX4_copyFrom 8 = .ok (.aload_n 0, 1) := by decide +kernel
theorem dX4_copyFrom_9 : decode cX4_copyFrom 9 = .ok (.aload_n 1, 1) := by decide +kernel
theorem dX4_copyFrom_10 : decode cX4_copyFrom 10 = .ok (.getfield 13, 3) := by decide +kernel
theorem dX4_copyFrom_13 : decode cX4_copyFrom 13 = .ok (.putfield 13, 3) := by decide +kernel
theorem dX4_copyFrom_16 : decode cX4_copyFrom 16 = .ok (.aload_n 0, 1) := by decide +kernel
theorem dX4_copyFrom_17 : decode cX4_copyFrom 17 = .ok (.aload_n 1, 1) := by decide +kernel
theorem dX4_copyFrom_18 : decode cX4_copyFrom 18 = .ok (.getfield 16, 3) := by decide +kernel
theorem dX4_copyFrom_21 : decode cX4_copyFrom 21 = .ok (.putfield 16, 3) := by decide +kernel
theorem dX4_copyFrom_24 : decode cX4_copyFrom 24 = .ok (.aload_n 0, 1) := by decide +kernel
theorem dX4_copyFrom_25 : decode cX4_copyFrom 25 = .ok (.aload_n 1, 1) := by decide +kernel
theorem dX4_copyFrom_26 : decode cX4_copyFrom 26 = .ok (.getfield 19, 3) := by decide +kernel
theorem dX4_copyFrom_29 : decode cX4_copyFrom 29 = .ok (.putfield 19, 3) := by decide +kernel
theorem dX4_copyFrom_32 : decode cX4_copyFrom 32 = .ok (.aload_n 0, 1) := by decide +kernel
theorem dX4_copyFrom_33 : decode cX4_copyFrom 33 = .ok (.aload_n 1, 1) := by decide +kernel
theorem dX4_copyFrom_34 : decode cX4_copyFrom 34 = .ok (.getfield 22, 3) := by decide +kernel
theorem dX4_copyFrom_37 : decode cX4_copyFrom 37 = .ok (.putfield 22, 3) := by decide +kernel
theorem dX4_copyFrom_40 : decode cX4_copyFrom 40 = .ok (.aload_n 0, 1) := by decide +kernel
theorem dX4_copyFrom_41 : decode cX4_copyFrom 41 = .ok (.aload_n 1, 1) := by decide +kernel
theorem dX4_copyFrom_42 : decode cX4_copyFrom 42 = .ok (.getfield 25, 3) := by decide +kernel
theorem dX4_copyFrom_45 : decode cX4_copyFrom 45 = .ok (.putfield 25, 3) := by decide +kernel
theorem dX4_copyFrom_48 : decode cX4_copyFrom 48 = .ok (.return_, 1) := by decide +kernel
theorem dX4_isAt_0 : decode cX4_isAt 0 = .ok (.aload_n 0, 1) := by decide +kernel
theorem dX4_isAt_1 : decode cX4_isAt 1 = .ok (.getfield 7, 3) := by decide +kernel
theorem dX4_isAt_4 : decode cX4_isAt 4 = .ok (.iload_n 1, 1) := by decide +kernel
theorem dX4_isAt_5 : decode cX4_isAt 5 = .ok (.if_icmp .eq 11, 3) := by decide +kernel
theorem dX4_isAt_8 : decode cX4_isAt 8 = .ok (.aload_n 0, 1) := by decide +kernel
theorem dX4_isAt_9 : decode cX4_isAt 9 = .ok (.getfield 13, 3) := by decide +kernel
theorem dX4_isAt_12 : decode cX4_isAt 12 = .ok (.iload_n 1, 1) := by decide +kernel
theorem dX4_isAt_13 : decode cX4_isAt 13 = .ok (.if_icmp .ne 7, 3) := by decide +kernel
theorem dX4_isAt_16 : decode cX4_isAt 16 = .ok (.iconst 1, 1) := by decide +kernel
theorem dX4_isAt_17 : decode cX4_isAt 17 = .ok (.goto 4, 3) := by decide +kernel
theorem dX4_isAt_20 : decode cX4_isAt 20 = .ok (.iconst 0, 1) := by decide +kernel
theorem dX4_isAt_21 : decode cX4_isAt 21 = .ok (.ireturn, 1) := by decide +kernel
theorem dX4_farFrom_0 : decode cX4_farFrom 0 = .ok (.aload_n 0, 1) := by decide +kernel
theorem dX4_farFrom_1 : decode cX4_farFrom 1 = .ok (.getfield 7, 3) := by decide +kernel
theorem dX4_farFrom_4 : decode cX4_farFrom 4 = .ok (.iload_n 1, 1) := by decide +kernel
theorem dX4_farFrom_5 : decode cX4_farFrom 5 = .ok (.if_icmp .ne 10, 3) := by decide +kernel
theorem dX4_farFrom_8 : decode cX4_farFrom 8 = .ok (.aload_n 0, 1) := by decide +kernel
theorem dX4_farFrom_9 : decode cX4_farFrom 9 = .ok (.getfield 13, 3) := by decide +kernel
theorem dX4_farFrom_12 : decode cX4_farFrom 12 = .ok (.goto 7, 3) := by decide +kernel
theorem dX4_farFrom_15 : decode cX4_farFrom 15 = .ok (.aload_n 0, 1) := by decide +kernel
theorem dX4_farFrom_16 : decode cX4_farFrom 16 = .ok (.getfield 7, 3) := by decide +kernel
theorem dX4_farFrom_19 : decode cX4_farFrom 19 = .ok (.ireturn, 1) := by decide +kernel
theorem dX5_init_0 : decode cX5_init 0 = .ok (.aload_n 0, 1) := by decide +kernel
theorem dX5_init_1 : decode cX5_init 1 = .ok (.invokespecial 3, 3) := by decide +kernel
theorem dX5_init_4 : decode cX5_init 4 = .ok (.aload_n 0, 1) := by decide +kernel
theorem dX5_init_5 : decode cX5_init 5 = .ok (.iconst 5, 1) := by decide +kernel
theorem dX5_init_6 : decode cX5_init 6 = .ok (.bipush 8, 2) := by decide +kernel
theorem dX5_init_8 : decode cX5_init 8 = .ok (.multianewarray 9 2, 4) := by decide +kernel
theorem dX5_init_12 : decode cX5_init 12 = .ok (.putfield 11, 3) := by decide +kernel
theorem dX5_init_15 : decode cX5_init 15 = .ok (.aload_n 0, 1) := by decide +kernel
theorem dX5_init_16 : decode cX5_init 16 = .ok (.bipush 14, 2) := by decide +kernel
theorem dX5_init_18 : decode cX5_init 18 = .ok (.newarray .int, 2) := by decide +kernel
theorem dX5_init_20 : decode cX5_init 20 = .ok (.putfield 16, 3) := by decide +kernel
theorem dX5_init_23 : decode cX5_init 23 = .ok (.aload_n 0, 1) := by decide +kernel
theorem dX5_init_24 : decode cX5_init 24 = .ok (.lconst 0, 1) := by decide +kernel
theorem dX5_init_25 : decode cX5_init 25 = .ok (.putfield 20, 3) := by decide +kernel
theorem dX5_init_28 : decode cX5_init 28 = .ok (.aload_n 0, 1) := by decide +kernel
theorem dX5_init_29 : decode cX5_init 29 = .ok (.iload_n 1, 1) := by decide +kernel
theorem dX5_init_30 : decode cX5_init 30 = .ok (.putfield 24, 3) := by decide +kernel
theorem dX5_init_33 : decode cX5_init 33 = .ok (.return_, 1) := by decide +kernel
theorem dX5_lookAt_0 : decode cX5_lookAt 0 = .ok (.aload_n 0, 1) := by decide +kernel
theorem dX5_lookAt_1 : decode cX5_lookAt 1 = .ok (.aload_n 1, 1) := by decide +kernel
theorem dX5_lookAt_2 : decode cX5_lookAt 2 = .ok (.getfield 28, 3) := by decide +kernel
theorem dX5_lookAt_5 : decode cX5_lookAt 5 = .ok (.iconst 0, 1) := by decide +kernel
theorem dX5_lookAt_6 : decode cX5_lookAt 6 = .ok (.iaload, 1) := by decide +kernel
theorem dX5_lookAt_7 : decode cX5_lookAt 7 = .ok (.i2l, 1) := by decide +kernel
theorem dX5_lookAt_8 : decode cX5_lookAt 8 = .ok (.putfield 20, 3) := by decide +kernel
theorem dX5_lookAt_11 : decode cX5_lookAt 11 = .ok (.iconst 0, 1) := by decide +kernel
theorem dX5_lookAt_12 : decode cX5_lookAt 12 = .ok (.istore_n 3, 1) := by decide +kernel
theorem dX5_lookAt_13 : decode cX5_lookAt 13 = .ok (.iload_n 3, 1) := by decide +kernel
theorem dX5_lookAt_14 : decode cX5_lookAt 14 = .ok (.aload_n 1, 1) := by decide +kernel
theorem dX5_lookAt_15 : decode cX5_lookAt 15 = .ok (.getfield 33, 3) := by decide +kernel
theorem dX5_lookAt_18 : decode cX5_lookAt 18 = .ok (.if_icmp .ge 25, 3) := by decide +kernel
theorem dX5_lookAt_21 : decode cX5_lookAt 21 = .ok (.aload_n 0, 1) := by decide +kernel
theorem dX5_lookAt_22 : decode cX5_lookAt 22 = .ok (.getfield 16, 3) := by decide +kernel
theorem dX5_lookAt_25 : decode cX5_lookAt 25 = .ok (.iload_n 3, 1) := by decide +kernel
theorem dX5_lookAt_26 : decode cX5_lookAt 26 = .ok (.aload_n 1, 1) := by decide +kernel
theorem dX5_lookAt_27 : decode cX5_lookAt 27 = .ok (.aload_n 1, 1) := by decide +kernel
theorem dX5_lookAt_28 : decode cX5_lookAt 28 = .ok (.getfield 37, 3) := by decide +kernel
theorem dX5_lookAt_31 : decode cX5_lookAt 31 = .ok (.iload_n 3, 1) := by decide +kernel
theorem dX5_lookAt_32 : decode cX5_lookAt 32 = .ok (.aaload, 1) := by decide +kernel
theorem dX5_lookAt_33 : decode cX5_lookAt 33 = .ok (.invokevirtual 41, 3) := by decide +kernel
theorem dX5_lookAt_36 : decode cX5_lookAt 36 = .ok (.iastore, 1) := by decide +kernel
theorem dX5_lookAt_37 : decode cX5_lookAt 37 = .ok (.iinc 3 1, 3) := by decide +kernel
theorem dX5_lookAt_40 : decode cX5_lookAt 40 = .ok (.goto (-27), 3) := by decide +kernel
theorem dX5_lookAt_43 : decode cX5_lookAt 43 = .ok (.iconst 0, 1) := by decide +kernel
theorem dX5_lookAt_44 : decode cX5_lookAt 44 = .ok (.istore_n 3, 1) := by decide +kernel
theorem dX5_lookAt_45 : decode cX5_lookAt 45 = .ok (.iload_n 3, 1) := by decide +kernel
theorem dX5_lookAt_46 : decode cX5_lookAt 46 = .ok (.bipush 8, 2) := by decide +kernel
theorem dX5_lookAt_48 : decode cX5_lookAt 48 = .ok (.if_icmp .ge 24, 3) := by decide +kernel
theorem dX5_lookAt_51 : decode cX5_lookAt 51 = .ok (.aload_n 0, 1) := by decide +kernel
theorem dX5_lookAt_52 : decode cX5_lookAt 52 = .ok (.getfield 11, 3) := by decide +kernel
theorem dX5_lookAt_55 : decode cX5_lookAt 55 = .ok (.iconst 0, 1) := by decide +kernel
theorem dX5_lookAt_56 : decode cX5_lookAt 56 = .ok (.aaload, 1) := by decide +kernel
theorem dX5_lookAt_57 : decode cX5_lookAt 57 = .ok (.iload_n 3, 1) := by decide +kernel
theorem dX5_lookAt_58 : decode cX5_lookAt 58 = .ok (.aload_n 1, 1) := by decide +kernel
theorem dX5_lookAt_59 : decode cX5_lookAt 59 = .ok (.getfield 45, 3) := by decide +kernel
theorem dX5_lookAt_62 : decode cX5_lookAt 62 = .ok (.iload_n 3, 1) := by decide +kernel
theorem dX5_lookAt_63 : decode cX5_lookAt 63 = .ok (.iaload, 1) := by decide +kernel
theorem dX5_lookAt_64 : decode cX5_lookAt 64 = .ok (.i2l, 1) := by decide +kernel
theorem dX5_lookAt_65 : decode cX5_lookAt 65 = .ok (.lastore, 1) := by decide +kernel
theorem dX5_lookAt_66 : decode cX5_lookAt 66 = .ok (.iinc 3 1, 3) := by decide +kernel
theorem dX5_lookAt_69 : decode cX5_lookAt 69 = .ok (.goto (-24), 3) := by decide +kernel
theorem dX5_lookAt_72 : decode cX5_lookAt 72 = .ok (.iconst 1, 1) := by decide +kernel
theorem dX5_lookAt_73 : decode cX5_lookAt 73 = .ok (.istore_n 3, 1) := by decide +kernel
theorem dX5_lookAt_74 : decode cX5_lookAt 74 = .ok (.iload_n 3, 1) := by decide +kernel
theorem dX5_lookAt_75 : decode cX5_lookAt 75 = .ok (.iload_n 2, 1) := by decide +kernel
theorem dX5_lookAt_76 : decode cX5_lookAt 76 = .ok (.if_icmp .gt 15, 3) := by decide +kernel
theorem dX5_lookAt_79 : decode cX5_lookAt 79 = .ok (.aload_n 0, 1) := by decide +kernel
theorem dX5_lookAt_80 : decode cX5_lookAt 80 = .ok (.aload_n 1, 1) := by decide +kernel
theorem dX5_lookAt_81 : decode cX5_lookAt 81 = .ok (.iload_n 3, 1) := by decide +kernel
theorem dX5_lookAt_82 : decode cX5_lookAt 82 = .ok (.invokevirtual 48, 3) := by decide +kernel
theorem dX5_lookAt_85 : decode cX5_lookAt 85 = .ok (.iinc 3 1, 3) := by decide +kernel
theorem dX5_lookAt_88 : decode cX5_lookAt 88 = .ok (.goto (-14), 3) := by decide +kernel
theorem dX5_lookAt_91 : decode cX5_lookAt 91 = .ok (.return_, 1) := by decide +kernel
theorem dX5_fillRow_0 : decode cX5_fillRow 0 = .ok (.iconst 0, 1) := by decide +kernel
theorem dX5_fillRow_1 : decode cX5_fillRow 1 = .ok (.istore_n 3, 1) := by decide +kernel
theorem dX5_fillRow_2 : decode cX5_fillRow 2 = .ok (.iload_n 3, 1) := by decide +kernel
theorem dX5_fillRow_3 : decode cX5_fillRow 3 = .ok (.bipush 8, 2) := by decide +kernel
theorem dX5_fillRow_5 : decode cX5_fillRow 5 = .ok (.if_icmp .ge 23, 3) := by decide +kernel
theorem dX5_fillRow_8 : decode cX5_fillRow 8 = .ok (.aload_n 0, 1) := by decide +kernel
theorem dX5_fillRow_9 : decode cX5_fillRow 9 = .ok (.getfield 11, 3) := by decide +kernel
theorem dX5_fillRow_12 : decode cX5_fillRow 12 = .ok (.iload_n 2, 1) := by decide +kernel
theorem dX5_fillRow_13 : decode cX5_fillRow 13 = .ok (.aaload, 1) := by decide +kernel
theorem dX5_fillRow_14 : decode cX5_fillRow 14 = .ok (.iload_n 3, 1) := by decide +kernel
theorem dX5_fillRow_15 : decode cX5_fillRow 15 = .ok (.aload_n 0, 1) := by decide +kernel
theorem dX5_fillRow_16 : decode cX5_fillRow 16 = .ok (.iload_n 3, 1) := by decide +kernel
theorem dX5_fillRow_17 : decode cX5_fillRow 17 = .ok (.iload_n 2, 1) := by decide +kernel
theorem dX5_fillRow_18 : decode cX5_fillRow 18 = .ok (.invokevirtual 52, 3) := by decide +kernel
theorem dX5_fillRow_21 : decode cX5_fillRow 21 = .ok (.lastore, 1) := by decide +kernel
theorem dX5_fillRow_22 : decode cX5_fillRow 22 = .ok (.iinc 3 1, 3) := by decide +kernel
theorem dX5_fillRow_25 : decode cX5_fillRow 25 = .ok (.goto (-23), 3) := by decide +kernel
theorem dX5_fillRow_28 : decode cX5_fillRow 28 = .ok (.iconst 0, 1) := by decide +kernel
theorem dX5_fillRow_29 : decode cX5_fillRow 29 = .ok (.istore_n 3, 1) := by decide +kernel
theorem dX5_fillRow_30 : decode cX5_fillRow 30 = .ok (.iload_n 3, 1) := by decide +kernel
theorem dX5_fillRow_31 : decode cX5_fillRow 31 = .ok (.aload_n 1, 1) := by decide +kernel
theorem dX5_fillRow_32 : decode cX5_fillRow 32 = .ok (.getfield 33, 3) := by decide +kernel
theorem dX5_fillRow_35 : decode cX5_fillRow 35 = .ok (.if_icmp .ge 43, 3) := by decide +kernel
theorem dX5_fillRow_38 : decode cX5_fillRow 38 = .ok (.aload_n 1, 1) := by decide +kernel
theorem dX5_fillRow_39 : decode cX5_fillRow 39 = .ok (.getfield 37, 3) := by decide +kernel
theorem dX5_fillRow_42 : decode cX5_fillRow 42 = .ok (.iload_n 3, 1) := by decide +kernel
theorem dX5_fillRow_43 : decode cX5_fillRow 43 = .ok (.aaload, 1) := by decide +kernel
theorem dX5_fillRow_44 : decode cX5_fillRow 44 = .ok (.astore 4, 2) := by decide +kernel
theorem dX5_fillRow_46 : decode cX5_fillRow 46 = .ok (.aload_n 0, 1) := by decide +kernel
theorem dX5_fillRow_47 : decode cX5_fillRow 47 = .ok (.iload_n 3, 1) := by decide +kernel
theorem dX5_fillRow_48 : decode cX5_fillRow 48 = .ok (.aload 4, 2) := by decide +kernel
theorem dX5_fillRow_50 : decode cX5_fillRow 50 = .ok (.aload 4, 2) := by decide +kernel
theorem dX5_fillRow_52 : decode cX5_fillRow 52 = .ok (.getfield 56, 3) := by decide +kernel
theorem dX5_fillRow_55 : decode cX5_fillRow 55 = .ok (.iload_n 2, 1) := by decide +kernel
theorem dX5_fillRow_56 : decode cX5_fillRow 56 = .ok (.invokevirtual 61, 3) := by decide +kernel
theorem dX5_fillRow_59 : decode cX5_fillRow 59 = .ok (.aload_n 0, 1) := by decide +kernel
theorem dX5_fillRow_60 : decode cX5_fillRow 60 = .ok (.iload_n 3, 1) := by decide +kernel
theorem dX5_fillRow_61 : decode cX5_fillRow 61 = .ok (.aload 4, 2) := by decide +kernel
theorem dX5_fillRow_63 : decode cX5_fillRow 63 = .ok (.aload 4, 2) := by decide +kernel
theorem dX5_fillRow_65 : decode cX5_fillRow 65 = .ok (.getfield 65, 3) := by decide +kernel
theorem dX5_fillRow_68 : decode cX5_fillRow 68 = .ok (.iload_n 2, 1) := by decide +kernel
theorem dX5_fillRow_69 : decode cX5_fillRow 69 = .ok (.invokevirtual 61, 3) := by decide +kernel
theorem dX5_fillRow_72 : decode cX5_fillRow 72 = .ok (.iinc 3 1, 3) := by decide +kernel
theorem dX5_fillRow_75 : decode cX5_fillRow 75 = .ok (.goto (-45), 3) := by decide +kernel
theorem dX5_fillRow_78 : decode cX5_fillRow 78 = .ok (.return_, 1) := by decide +kernel
theorem dX5_raise_0 : decode cX5_raise 0 = .ok (.aload_n 0, 1) := by decide +kernel
theorem dX5_raise_1 : decode cX5_raise 1 = .ok (.getfield 11, 3) := by decide +kernel
theorem dX5_raise_4 : decode cX5_raise 4 = .ok (.iload 4, 2) := by decide +kernel
theorem dX5_raise_6 : decode cX5_raise 6 = .ok (.aaload, 1) := by decide +kernel
theorem dX5_raise_7 : decode cX5_raise 7 = .ok (.iload_n 3, 1) := by decide +kernel
theorem dX5_raise_8 : decode cX5_raise 8 = .ok (.laload, 1) := by decide +kernel
theorem dX5_raise_9 : decode cX5_raise 9 = .ok (.aload_n 0, 1) := by decide +kernel
theorem dX5_raise_10 : decode cX5_raise 10 = .ok (.aload_n 2, 1) := by decide +kernel
theorem dX5_raise_11 : decode cX5_raise 11 = .ok (.iload_n 3, 1) := by decide +kernel
theorem dX5_raise_12 : decode cX5_raise 12 = .ok (.iload 4, 2) := by decide +kernel
theorem dX5_raise_14 : decode cX5_raise 14 = .ok (.invokevirtual 68, 3) := by decide +kernel
theorem dX5_raise_17 : decode cX5_raise 17 = .ok (.invokestatic 72, 3) := by decide +kernel
theorem dX5_raise_20 : decode cX5_raise 20 = .ok (.lstore 5, 2) := by decide +kernel
theorem dX5_raise_22 : decode cX5_raise 22 = .ok (.aload_n 0, 1) := by decide +kernel
theorem dX5_raise_23 : decode cX5_raise 23 = .ok (.getfield 24, 3) := by decide +kernel
theorem dX5_raise_26 : decode cX5_raise 26 = .ok (.ifCond .ne 19, 3) := by decide +kernel
theorem dX5_raise_29 : decode cX5_raise 29 = .ok (.lload 5, 2) := by decide +kernel
theorem dX5_raise_31 : decode cX5_raise 31 = .ok (.aload_n 0, 1) := by decide +kernel
theorem dX5_raise_32 : decode cX5_raise 32 = .ok (.iload_n 1, 1) := by decide +kernel
theorem dX5_raise_33 : decode cX5_raise 33 = .ok (.aload_n 2, 1) := by decide +kernel
theorem dX5_raise_34 : decode cX5_raise 34 = .ok (.iload_n 3, 1) := by decide +kernel
theorem dX5_raise_35 : decode cX5_raise 35 = .ok (.iload 4, 2) := by decide +kernel
theorem dX5_raise_37 : decode cX5_raise 37 = .ok (.invokevirtual 78, 3) := by decide +kernel
theorem dX5_raise_40 : decode cX5_raise 40 = .ok (.invokestatic 72, 3) := by decide +kernel
theorem dX5_raise_43 : decode cX5_raise 43 = .ok (.lstore 5, 2) := by decide +kernel
theorem dX5_raise_45 : decode cX5_raise 45 = .ok (.aload_n 0, 1) := by decide +kernel
theorem dX5_raise_46 : decode cX5_raise 46 = .ok (.getfield 11, 3) := by decide +kernel
theorem dX5_raise_49 : decode cX5_raise 49 = .ok (.iload 4, 2) := by decide +kernel
theorem dX5_raise_51 : decode cX5_raise 51 = .ok (.aaload, 1) := by decide +kernel
theorem dX5_raise_52 : decode cX5_raise 52 = .ok (.iload_n 3, 1) := by decide +kernel
theorem dX5_raise_53 : decode cX5_raise 53 = .ok (.lload 5, 2) := by decide +kernel
theorem dX5_raise_55 : decode cX5_raise 55 = .ok (.lastore, 1) := by decide +kernel
theorem dX5_raise_56 : decode cX5_raise 56 = .ok (.return_, 1) := by decide +kernel
theorem dX5_byWaiting_0 : decode cX5_byWaiting 0 = .ok (.ldc2_w 82, 3) := by decide +kernel
theorem dX5_byWaiting_3 : decode cX5_byWaiting 3 = .ok (.aload_n 0, 1) := by decide +kernel
theorem dX5_byWaiting_4 : decode cX5_byWaiting 4 = .ok (.getfield 11, 3) := by decide +kernel
theorem dX5_byWaiting_7 : decode cX5_byWaiting 7 = .ok (.iload_n 2, 1) := by decide +kernel
theorem dX5_byWaiting_8 : decode cX5_byWaiting 8 = .ok (.iconst 1, 1) := by decide +kernel
theorem dX5_byWaiting_9 : decode cX5_byWaiting 9 = .ok (.isub, 1) := by decide +kernel
theorem dX5_byWaiting_10 : decode cX5_byWaiting 10 = .ok (.aaload, 1) := by decide +kernel
theorem dX5_byWaiting_11 : decode cX5_byWaiting 11 = .ok (.iload_n 1, 1) := by decide +kernel
theorem dX5_byWaiting_12 : decode cX5_byWaiting 12 = .ok (.laload, 1) := by decide +kernel
theorem dX5_byWaiting_13 : decode cX5_byWaiting 13 = .ok (.lmul, 1) := by decide +kernel
theorem dX5_byWaiting_14 : decode cX5_byWaiting 14 = .ok (.lreturn, 1) := by decide +kernel
theorem dX5_openly_0 : decode cX5_openly 0 = .ok (.ldc2_w 82, 3) := by decide +kernel
theorem dX5_openly_3 : decode cX5_openly 3 = .ok (.aload_n 0, 1) := by decide +kernel
theorem dX5_openly_4 : decode cX5_openly 4 = .ok (.getfield 11, 3) := by decide +kernel
theorem dX5_openly_7 : decode cX5_openly 7 = .ok (.iload_n 3, 1) := by decide +kernel
theorem dX5_openly_8 : decode cX5_openly 8 = .ok (.iconst 1, 1) := by decide +kernel
theorem dX5_openly_9 : decode cX5_openly 9 = .ok (.isub, 1) := by decide +kernel
theorem dX5_openly_10 : decode cX5_openly 10 = .ok (.aaload, 1) := by decide +kernel
theorem dX5_openly_11 : decode cX5_openly 11 = .ok (.aload_n 1, 1) := by decide +kernel
theorem dX5_openly_12 : decode cX5_openly 12 = .ok (.iload_n 2, 1) := by decide +kernel
theorem dX5_openly_13 : decode cX5_openly 13 = .ok (.invokevirtual 84, 3) := by decide +kernel
theorem dX5_openly_16 : decode cX5_openly 16 = .ok (.laload, 1) := by decide +kernel
theorem dX5_openly_17 : decode cX5_openly 17 = .ok (.lmul, 1) := by decide +kernel
theorem dX5_openly_18 : decode cX5_openly 18 = .ok (.aload_n 1, 1) := by decide +kernel
theorem dX5_openly_19 : decode cX5_openly 19 = .ok (.getfield 88, 3) := by decide +kernel
theorem dX5_openly_22 : decode cX5_openly 22 = .ok (.i2l, 1) := by decide +kernel
theorem dX5_openly_23 : decode cX5_openly 23 = .ok (.getstatic 91, 3) := by decide +kernel
theorem dX5_openly_26 : decode cX5_openly 26 = .ok (.iload_n 3, 1) := by decide +kernel
theorem dX5_openly_27 : decode cX5_openly 27 = .ok (.laload, 1) := by decide +kernel
theorem dX5_openly_28 : decode cX5_openly 28 = .ok (.lmul, 1) := by decide +kernel
theorem dX5_openly_29 : decode cX5_openly 29 = .ok (.lsub, 1) := by decide +kernel
theorem dX5_openly_30 : decode cX5_openly 30 = .ok (.lreturn, 1) := by decide +kernel
theorem dX5_hiding_0 : decode cX5_hiding 0 = .ok (.bipush 100, 2) := by decide +kernel
theorem dX5_hiding_2 : decode cX5_hiding 2 = .ok (.aload_n 0, 1) := by decide +kernel
theorem dX5_hiding_3 : decode cX5_hiding 3 = .ok (.getfield 16, 3) := by decide +kernel
theorem dX5_hiding_6 : decode cX5_hiding 6 = .ok (.iload_n 1, 1) := by decide +kernel
theorem dX5_hiding_7 : decode cX5_hiding 7 = .ok (.iaload, 1) := by decide +kernel
theorem dX5_hiding_8 : decode cX5_hiding 8 = .ok (.isub, 1) := by decide +kernel
theorem dX5_hiding_9 : decode cX5_hiding 9 = .ok (.i2l, 1) := by decide +kernel
theorem dX5_hiding_10 : decode cX5_hiding 10 = .ok (.aload_n 0, 1) := by decide +kernel
theorem dX5_hiding_11 : decode cX5_hiding 11 = .ok (.getfield 11, 3) := by decide +kernel
theorem dX5_hiding_14 : decode cX5_hiding 14 = .ok (.iload 4, 2) := by decide +kernel
theorem dX5_hiding_16 : decode cX5_hiding 16 = .ok (.iconst 1, 1) := by decide +kernel
theorem dX5_hiding_17 : decode cX5_hiding 17 = .ok (.isub, 1) := by decide +kernel
theorem dX5_hiding_18 : decode cX5_hiding 18 = .ok (.aaload, 1) := by decide +kernel
theorem dX5_hiding_19 : decode cX5_hiding 19 = .ok (.aload_n 2, 1) := by decide +kernel
theorem dX5_hiding_20 : decode cX5_hiding 20 = .ok (.iload_n 3, 1) := by decide +kernel
theorem dX5_hiding_21 : decode cX5_hiding 21 = .ok (.invokevirtual 84, 3) := by decide +kernel
theorem dX5_hiding_24 : decode cX5_hiding 24 = .ok (.laload, 1) := by decide +kernel
theorem dX5_hiding_25 : decode cX5_hiding 25 = .ok (.lmul, 1) := by decide +kernel
theorem dX5_hiding_26 : decode cX5_hiding 26 = .ok (.lstore 5, 2) := by decide +kernel
theorem dX5_hiding_28 : decode cX5_hiding 28 = .ok (.lload 5, 2) := by decide +kernel
theorem dX5_hiding_30 : decode cX5_hiding 30 = .ok (.aload_n 0, 1) := by decide +kernel
theorem dX5_hiding_31 : decode cX5_hiding 31 = .ok (.getfield 16, 3) := by decide +kernel
theorem dX5_hiding_34 : decode cX5_hiding 34 = .ok (.iload_n 1, 1) := by decide +kernel
theorem dX5_hiding_35 : decode cX5_hiding 35 = .ok (.iaload, 1) := by decide +kernel
theorem dX5_hiding_36 : decode cX5_hiding 36 = .ok (.i2l, 1) := by decide +kernel
theorem dX5_hiding_37 : decode cX5_hiding 37 = .ok (.aload_n 0, 1) := by decide +kernel
theorem dX5_hiding_38 : decode cX5_hiding 38 = .ok (.getfield 20, 3) := by decide +kernel
theorem dX5_hiding_41 : decode cX5_hiding 41 = .ok (.lmul, 1) := by decide +kernel
theorem dX5_hiding_42 : decode cX5_hiding 42 = .ok (.getstatic 91, 3) := by decide +kernel
theorem dX5_hiding_45 : decode cX5_hiding 45 = .ok (.iload 4, 2) := by decide +kernel
theorem dX5_hiding_47 : decode cX5_hiding 47 = .ok (.iconst 1, 1) := by decide +kernel
theorem dX5_hiding_48 : decode cX5_hiding 48 = .ok (.isub, 1) := by decide +kernel
theorem dX5_hiding_49 : decode cX5_hiding 49 = .ok (.laload, 1) := by decide +kernel
theorem dX5_hiding_50 : decode cX5_hiding 50 = .ok (.lmul, 1) := by decide +kernel
theorem dX5_hiding_51 : decode cX5_hiding 51 = .ok (.lsub, 1) := by decide +kernel
theorem dX5_hiding_52 : decode cX5_hiding 52 = .ok (.lreturn, 1) := by decide +kernel
theorem dX5_firstRoad_0 : decode cX5_firstRoad 0 = .ok (.aload_n 0, 1) := by decide +kernel
theorem dX5_firstRoad_1 : decode cX5_firstRoad 1 = .ok (.getfield 11, 3) := by decide +kernel
theorem dX5_firstRoad_4 : decode cX5_firstRoad 4 = .ok (.iload_n 3, 1) := by decide +kernel
theorem dX5_firstRoad_5 : decode cX5_firstRoad 5 = .ok (.aaload, 1) := by decide +kernel
theorem dX5_firstRoad_6 : decode cX5_firstRoad 6 = .ok (.iload_n 2, 1) := by decide +kernel
theorem dX5_firstRoad_7 : decode cX5_firstRoad 7 = .ok (.laload, 1) := by decide +kernel
theorem dX5_firstRoad_8 : decode cX5_firstRoad 8 = .ok (.lstore 4, 2) := by decide +kernel
theorem dX5_firstRoad_10 : decode cX5_firstRoad 10 = .ok (.lload 4, 2) := by decide +kernel
theorem dX5_firstRoad_12 : decode cX5_firstRoad 12 = .ok (.aload_n 0, 1) := by decide +kernel
theorem dX5_firstRoad_13 : decode cX5_firstRoad 13 = .ok (.iload_n 2, 1) := by decide +kernel
theorem dX5_firstRoad_14 : decode cX5_firstRoad 14 = .ok (.iload_n 3, 1) := by decide +kernel
theorem dX5_firstRoad_15 : decode cX5_firstRoad 15 = .ok (.invokevirtual 52, 3) := by decide +kernel
theorem dX5_firstRoad_18 : decode cX5_firstRoad 18 = .ok (.lcmp, 1) := by decide +kernel
theorem dX5_firstRoad_19 : decode cX5_firstRoad 19 = .ok (.ifCond .ne 6, 3) := by decide +kernel
theorem dX5_firstRoad_22 : decode cX5_firstRoad 22 = .ok (.bipush (-6), 2) := by decide +kernel
theorem dX5_firstRoad_24 : decode cX5_firstRoad 24 = .ok (.ireturn, 1) := by decide +kernel
theorem dX5_firstRoad_25 : decode cX5_firstRoad 25 = .ok (.iconst 0, 1) := by decide +kernel
theorem dX5_firstRoad_26 : decode cX5_firstRoad 26 = .ok (.istore 6, 2) := by decide +kernel
theorem dX5_firstRoad_28 : decode cX5_firstRoad 28 = .ok (.iload 6, 2) := by decide +kernel
theorem dX5_firstRoad_30 : decode cX5_firstRoad 30 = .ok (.aload_n 1, 1) := by decide +kernel
theorem dX5_firstRoad_31 : decode cX5_firstRoad 31 = .ok (.getfield 33, 3) := by decide +kernel
theorem dX5_firstRoad_34 : decode cX5_firstRoad 34 = .ok (.if_icmp .ge 43, 3) := by decide +kernel
theorem dX5_firstRoad_37 : decode cX5_firstRoad 37 = .ok (.aload_n 1, 1) := by decide +kernel
theorem dX5_firstRoad_38 : decode cX5_firstRoad 38 = .ok (.getfield 37, 3) := by decide +kernel
theorem dX5_firstRoad_41 : decode cX5_firstRoad 41 = .ok (.iload 6, 2) := by decide +kernel
theorem dX5_firstRoad_43 : decode cX5_firstRoad 43 = .ok (.aaload, 1) := by decide +kernel
theorem dX5_firstRoad_44 : decode cX5_firstRoad 44 = .ok (.astore 7, 2) := by decide +kernel
theorem dX5_firstRoad_46 : decode cX5_firstRoad 46 = .ok (.aload 7, 2) := by decide +kernel
theorem dX5_firstRoad_48 : decode cX5_firstRoad 48 = .ok (.iload_n 2, 1) := by decide +kernel
theorem dX5_firstRoad_49 : decode cX5_firstRoad 49 = .ok (.invokevirtual 95, 3) := by decide +kernel
theorem dX5_firstRoad_52 : decode cX5_firstRoad 52 = .ok (.ifCond .eq 19, 3) := by decide +kernel
theorem dX5_firstRoad_55 : decode cX5_firstRoad 55 = .ok (.aload_n 0, 1) := by decide +kernel
theorem dX5_firstRoad_56 : decode cX5_firstRoad 56 = .ok (.iload 6, 2) := by decide +kernel
theorem dX5_firstRoad_58 : decode cX5_firstRoad 58 = .ok (.aload 7, 2) := by decide +kernel
theorem dX5_firstRoad_60 : decode cX5_firstRoad 60 = .ok (.iload_n 2, 1) := by decide +kernel
theorem dX5_firstRoad_61 : decode cX5_firstRoad 61 = .ok (.iload_n 3, 1) := by decide +kernel
theorem dX5_firstRoad_62 : decode cX5_firstRoad 62 = .ok (.invokevirtual 99, 3) := by decide +kernel
theorem dX5_firstRoad_65 : decode cX5_firstRoad 65 = .ok (.ifCond .eq 6, 3) := by decide +kernel
theorem dX5_firstRoad_68 : decode cX5_firstRoad 68 = .ok (.iload 6, 2) := by decide +kernel
theorem dX5_firstRoad_70 : decode cX5_firstRoad 70 = .ok (.ireturn, 1) := by decide +kernel
theorem dX5_firstRoad_71 : decode cX5_firstRoad 71 = .ok (.iinc 6 1, 3) := by decide +kernel
theorem dX5_firstRoad_74 : decode cX5_firstRoad 74 = .ok (.goto (-46), 3) := by decide +kernel
theorem dX5_firstRoad_77 : decode cX5_firstRoad 77 = .ok (.bipush (-6), 2) := by decide +kernel
theorem dX5_firstRoad_79 : decode cX5_firstRoad 79 = .ok (.ireturn, 1) := by decide +kernel
theorem dX5_isBest_0 : decode cX5_isBest 0 = .ok (.aload_n 0, 1) := by decide +kernel
theorem dX5_isBest_1 : decode cX5_isBest 1 = .ok (.aload_n 2, 1) := by decide +kernel
theorem dX5_isBest_2 : decode cX5_isBest 2 = .ok (.iload_n 3, 1) := by decide +kernel
theorem dX5_isBest_3 : decode cX5_isBest 3 = .ok (.iload 4, 2) := by decide +kernel
theorem dX5_isBest_5 : decode cX5_isBest 5 = .ok (.invokevirtual 103, 3) := by decide +kernel
theorem dX5_isBest_8 : decode cX5_isBest 8 = .ok (.ifCond .ne 25, 3) := by decide +kernel
theorem dX5_isBest_11 : decode cX5_isBest 11 = .ok (.aload_n 0, 1) := by decide +kernel
theorem dX5_isBest_12 : decode cX5_isBest 12 = .ok (.iload_n 1, 1) := by decide +kernel
theorem dX5_isBest_13 : decode cX5_isBest 13 = .ok (.aload_n 2, 1) := by decide +kernel
theorem dX5_isBest_14 : decode cX5_isBest 14 = .ok (.iload_n 3, 1) := by decide +kernel
theorem dX5_isBest_15 : decode cX5_isBest 15 = .ok (.iload 4, 2) := by decide +kernel
theorem dX5_isBest_17 : decode cX5_isBest 17 = .ok (.invokevirtual 78, 3) := by decide +kernel
theorem dX5_isBest_20 : decode cX5_isBest 20 = .ok (.aload_n 0, 1) := by decide +kernel
theorem dX5_isBest_21 : decode cX5_isBest 21 = .ok (.getfield 11, 3) := by decide +kernel
theorem dX5_isBest_24 : decode cX5_isBest 24 = .ok (.iload 4, 2) := by decide +kernel
theorem dX5_isBest_26 : decode cX5_isBest 26 = .ok (.aaload, 1) := by decide +kernel
theorem dX5_isBest_27 : decode cX5_isBest 27 = .ok (.iload_n 3, 1) := by decide +kernel
theorem dX5_isBest_28 : decode cX5_isBest 28 = .ok (.laload, 1) := by decide +kernel
theorem dX5_isBest_29 : decode cX5_isBest 29 = .ok (.lcmp, 1) := by decide +kernel
theorem dX5_isBest_30 : decode cX5_isBest 30 = .ok (.ifCond .ne 7, 3) := by decide +kernel
theorem dX5_isBest_33 : decode cX5_isBest 33 = .ok (.iconst 1, 1) := by decide +kernel
theorem dX5_isBest_34 : decode cX5_isBest 34 = .ok (.goto 4, 3) := by decide +kernel
theorem dX5_isBest_37 : decode cX5_isBest 37 = .ok (.iconst 0, 1) := by decide +kernel
theorem dX5_isBest_38 : decode cX5_isBest 38 = .ok (.ireturn, 1) := by decide +kernel
theorem dX5_isBestOpenly_0 : decode cX5_isBestOpenly 0 = .ok (.aload_n 0, 1) := by decide +kernel
theorem dX5_isBestOpenly_1 : decode cX5_isBestOpenly 1 = .ok (.aload_n 1, 1) := by decide +kernel
theorem dX5_isBestOpenly_2 : decode cX5_isBestOpenly 2 = .ok (.iload_n 2, 1) := by decide +kernel
theorem dX5_isBestOpenly_3 : decode cX5_isBestOpenly 3 = .ok (.iload_n 3, 1) := by decide +kernel
theorem dX5_isBestOpenly_4 : decode cX5_isBestOpenly 4 = .ok (.invokevirtual 68, 3) := by decide +kernel
theorem dX5_isBestOpenly_7 : decode cX5_isBestOpenly 7 = .ok (.aload_n 0, 1) := by decide +kernel
theorem dX5_isBestOpenly_8 : decode cX5_isBestOpenly 8 = .ok (.getfield 11, 3) := by decide +kernel
theorem dX5_isBestOpenly_11 : decode cX5_isBestOpenly 11 = .ok (.iload_n 3, 1) := by decide +kernel
theorem dX5_isBestOpenly_12 : decode cX5_isBestOpenly 12 = .ok (.aaload, 1) := by decide +kernel
theorem dX5_isBestOpenly_13 : decode cX5_isBestOpenly 13 = .ok (.iload_n 2, 1) := by decide +kernel
theorem dX5_isBestOpenly_14 : decode cX5_isBestOpenly 14 = .ok (.laload, 1) := by decide +kernel
theorem dX5_isBestOpenly_15 : decode cX5_isBestOpenly 15 = .ok (.lcmp, 1) := by decide +kernel
theorem dX5_isBestOpenly_16 : decode cX5_isBestOpenly 16 = .ok (.ifCond .ne 7, 3) := by decide +kernel
theorem dX5_isBestOpenly_19 : decode cX5_isBestOpenly 19 = .ok (.iconst 1, 1) := by decide +kernel
theorem dX5_isBestOpenly_20 : decode cX5_isBestOpenly 20 = .ok (.goto 4, 3) := by decide +kernel
theorem dX5_isBestOpenly_23 : decode cX5_isBestOpenly 23 = .ok (.iconst 0, 1) := by decide +kernel
theorem dX5_isBestOpenly_24 : decode cX5_isBestOpenly 24 = .ok (.ireturn, 1) := by decide +kernel
theorem dX6_init_0 : decode cX6_init 0 = .ok (.aload_n 0, 1) := by decide +kernel
theorem dX6_init_1 : decode cX6_init 1 = .ok (.invokespecial 3, 3) := by decide +kernel
theorem dX6_init_4 : decode cX6_init 4 = .ok (.aload_n 0, 1) := by decide +kernel
theorem dX6_init_5 : decode cX6_init 5 = .ok (.iconst 4, 1) := by decide +kernel
theorem dX6_init_6 : decode cX6_init 6 = .ok (.newarray .int, 2) := by decide +kernel
theorem dX6_init_8 : decode cX6_init 8 = .ok (.putfield 9, 3) := by decide +kernel
theorem dX6_init_11 : decode cX6_init 11 = .ok (.aload_n 0, 1) := by decide +kernel
theorem dX6_init_12 : decode cX6_init 12 = .ok (.bipush 8, 2) := by decide +kernel
theorem dX6_init_14 : decode cX6_init 14 = .ok (.newarray .int, 2) := by decide +kernel
theorem dX6_init_16 : decode cX6_init 16 = .ok (.putfield 15, 3) := by decide +kernel
theorem dX6_init_19 : decode cX6_init 19 = .ok (.aload_n 0, 1) := by decide +kernel
theorem dX6_init_20 : decode cX6_init 20 = .ok (.bipush 14, 2) := by decide +kernel
theorem dX6_init_22 : decode cX6_init 22 = .ok (.anewarray 18, 3) := by decide +kernel
theorem dX6_init_25 : decode cX6_init 25 = .ok (.putfield 20, 3) := by decide +kernel
theorem dX6_init_28 : decode cX6_init 28 = .ok (.aload_n 0, 1) := by decide +kernel
theorem dX6_init_29 : decode cX6_init 29 = .ok (.bipush 6, 2) := by decide +kernel
theorem dX6_init_31 : decode cX6_init 31 = .ok (.anewarray 24, 3) := by decide +kernel
theorem dX6_init_34 : decode cX6_init 34 = .ok (.putfield 26, 3) := by decide +kernel
theorem dX6_init_37 : decode cX6_init 37 = .ok (.aload_n 0, 1) := by decide +kernel
theorem dX6_init_38 : decode cX6_init 38 = .ok (.iconst 0, 1) := by decide +kernel
theorem dX6_init_39 : decode cX6_init 39 = .ok (.putfield 30, 3) := by decide +kernel
theorem dX6_init_42 : decode cX6_init 42 = .ok (.aload_n 0, 1) := by decide +kernel
theorem dX6_init_43 : decode cX6_init 43 = .ok (.iconst 0, 1) := by decide +kernel
theorem dX6_init_44 : decode cX6_init 44 = .ok (.putfield 34, 3) := by decide +kernel
theorem dX6_init_47 : decode cX6_init 47 = .ok (.aload_n 0, 1) := by decide +kernel
theorem dX6_init_48 : decode cX6_init 48 = .ok (.iconst 1, 1) := by decide +kernel
theorem dX6_init_49 : decode cX6_init 49 = .ok (.putfield 37, 3) := by decide +kernel
theorem dX6_init_52 : decode cX6_init 52 = .ok (.aload_n 0, 1) := by decide +kernel
theorem dX6_init_53 : decode cX6_init 53 = .ok (.iconst 0, 1) := by decide +kernel
theorem dX6_init_54 : decode cX6_init 54 = .ok (.putfield 40, 3) := by decide +kernel
theorem dX6_init_57 : decode cX6_init 57 = .ok (.aload_n 0, 1) := by decide +kernel
theorem dX6_init_58 : decode cX6_init 58 = .ok (.iconst 0, 1) := by decide +kernel
theorem dX6_init_59 : decode cX6_init 59 = .ok (.putfield 43, 3) := by decide +kernel
theorem dX6_init_62 : decode cX6_init 62 = .ok (.aload_n 0, 1) := by decide +kernel
theorem dX6_init_63 : decode cX6_init 63 = .ok (.iconst 0, 1) := by decide +kernel
theorem dX6_init_64 : decode cX6_init 64 = .ok (.putfield 46, 3) := by decide +kernel
theorem dX6_init_67 : decode cX6_init 67 = .ok (.aload_n 0, 1) := by decide +kernel
theorem dX6_init_68 : decode cX6_init 68 = .ok (.iconst 0, 1) := by decide +kernel
theorem dX6_init_69 : decode cX6_init 69 = .ok (.putfield 49, 3) := by decide +kernel
theorem dX6_init_72 : decode cX6_init 72 = .ok (.getstatic 52, 3) := by decide +kernel
theorem dX6_init_75 : decode cX6_init 75 = .ok (.iconst 0, 1) := by decide +kernel
theorem dX6_init_76 : decode cX6_init 76 = .ok (.aload_n 0, 1) := by decide +kernel
theorem dX6_init_77 : decode cX6_init 77 = .ok (.getfield 9, 3) := by decide +kernel
theorem dX6_init_80 : decode cX6_init 80 = .ok (.iconst 0, 1) := by decide +kernel
theorem dX6_init_81 : decode cX6_init 81 = .ok (.iconst 4, 1) := by decide +kernel
theorem dX6_init_82 : decode cX6_init 82 = .ok (.invokestatic 55, 3) := by decide +kernel
theorem dX6_init_85 : decode cX6_init 85 = .ok (.iconst 0, 1) := by decide +kernel
theorem dX6_init_86 : decode cX6_init 86 = .ok (.istore_n 1, 1) := by decide +kernel
theorem dX6_init_87 : decode cX6_init 87 = .ok (.iload_n 1, 1) := by decide +kernel
theorem dX6_init_88 : decode cX6_init 88 = .ok (.bipush 8, 2) := by decide +kernel
theorem dX6_init_90 : decode cX6_init 90 = .ok (.if_icmp .ge 17, 3) := by decide +kernel
theorem dX6_init_93 : decode cX6_init 93 = .ok (.aload_n 0, 1) := by decide +kernel
theorem dX6_init_94 : decode cX6_init 94 = .ok (.getfield 15, 3) := by decide +kernel
theorem dX6_init_97 : decode cX6_init 97 = .ok (.iload_n 1, 1) := by decide +kernel
theorem dX6_init_98 : decode cX6_init 98 = .ok (.bipush 100, 2) := by decide +kernel
theorem dX6_init_100 : decode cX6_init 100 = .ok (.iastore, 1) := by decide +kernel
theorem dX6_init_101 : decode cX6_init 101 = .ok (.iinc 1 1, 3) := by decide +kernel
theorem dX6_init_104 : decode cX6_init 104 = .ok (.goto (-17), 3) := by decide +kernel
theorem dX6_init_107 : decode cX6_init 107 = .ok (.iconst 0, 1) := by decide +kernel
theorem dX6_init_108 : decode cX6_init 108 = .ok (.istore_n 1, 1) := by decide +kernel
theorem dX6_init_109 : decode cX6_init 109 = .ok (.iload_n 1, 1) := by decide +kernel
theorem dX6_init_110 : decode cX6_init 110 = .ok (.bipush 14, 2) := by decide +kernel
theorem dX6_init_112 : decode cX6_init 112 = .ok (.if_icmp .ge 22, 3) := by decide +kernel
theorem dX6_init_115 : decode cX6_init 115 = .ok (.aload_n 0, 1) := by decide +kernel
theorem dX6_init_116 : decode cX6_init 116 = .ok (.getfield 20, 3) := by decide +kernel
theorem dX6_init_119 : decode cX6_init 119 = .ok (.iload_n 1, 1) := by decide +kernel
theorem dX6_init_120 : decode cX6_init 120 = .ok (.new 18, 3) := by decide +kernel
theorem dX6_init_123 : decode cX6_init 123 = .ok (.dup, 1) := by decide +kernel
theorem dX6_init_124 : decode cX6_init 124 = .ok (.invokespecial 61, 3) := by decide +kernel
theorem dX6_init_127 : decode cX6_init 127 = .ok (.aastore, 1) := by decide +kernel
theorem dX6_init_128 : decode cX6_init 128 = .ok (.iinc 1 1, 3) := by decide +kernel
theorem dX6_init_131 : decode cX6_init 131 = .ok (.goto (-22), 3) := by decide +kernel
theorem dX6_init_134 : decode cX6_init 134 = .ok (.iconst 0, 1) := by decide +kernel
theorem dX6_init_135 : decode cX6_init 135 = .ok (.istore_n 1, 1) := by decide +kernel
theorem dX6_init_136 : decode cX6_init 136 = .ok (.iload_n 1, 1) := by decide +kernel
theorem dX6_init_137 : decode cX6_init 137 = .ok (.bipush 6, 2) := by decide +kernel
theorem dX6_init_139 : decode cX6_init 139 = .ok (.if_icmp .ge 22, 3) := by decide +kernel
theorem dX6_init_142 : decode cX6_init 142 = .ok (.aload_n 0, 1) := by decide +kernel
theorem dX6_init_143 : decode cX6_init 143 = .ok (.getfield 26, 3) := by decide +kernel
theorem dX6_init_146 : decode cX6_init 146 = .ok (.iload_n 1, 1) := by decide +kernel
theorem dX6_init_147 : decode cX6_init 147 = .ok (.new 24, 3) := by decide +kernel
theorem dX6_init_150 : decode cX6_init 150 = .ok (.dup, 1) := by decide +kernel
theorem dX6_init_151 : decode cX6_init 151 = .ok (.invokespecial 62, 3) := by decide +kernel
theorem dX6_init_154 : decode cX6_init 154 = .ok (.aastore, 1) := by decide +kernel
theorem dX6_init_155 : decode cX6_init 155 = .ok (.iinc 1 1, 3) := by decide +kernel
theorem dX6_init_158 : decode cX6_init 158 = .ok (.goto (-22), 3) := by decide +kernel
theorem dX6_init_161 : decode cX6_init 161 = .ok (.return_, 1) := by decide +kernel
theorem dX6_copyFrom_0 : decode cX6_copyFrom 0 = .ok (.aload_n 1, 1) := by decide +kernel
theorem dX6_copyFrom_1 : decode cX6_copyFrom 1 = .ok (.getfield 9, 3) := by decide +kernel
theorem dX6_copyFrom_4 : decode cX6_copyFrom 4 = .ok (.iconst 0, 1) := by decide +kernel
theorem dX6_copyFrom_5 : decode cX6_copyFrom 5 = .ok (.aload_n 0, 1) := by decide +kernel
theorem dX6_copyFrom_6 : decode cX6_copyFrom 6 = .ok (.getfield 9, 3) := by decide +kernel
theorem dX6_copyFrom_9 : decode cX6_copyFrom 9 = .ok (.iconst 0, 1) := by decide +kernel
theorem dX6_copyFrom_10 : decode cX6_copyFrom 10 = .ok (.iconst 4, 1) := by decide +kernel
theorem dX6_copyFrom_11 : decode cX6_copyFrom 11 = .ok (.invokestatic 55, 3) := by decide +kernel
theorem dX6_copyFrom_14 : decode cX6_copyFrom 14 = .ok (.aload_n 1, 1) := by decide +kernel
theorem dX6_copyFrom_15 : decode cX6_copyFrom 15 = .ok (.getfield 15, 3) := by decide +kernel
theorem dX6_copyFrom_18 : decode cX6_copyFrom 18 = .ok (.iconst 0, 1) := by decide +kernel
theorem dX6_copyFrom_19 : decode cX6_copyFrom 19 = .ok (.aload_n 0, 1) := by decide +kernel
theorem dX6_copyFrom_20 : decode cX6_copyFrom 20 = .ok (.getfield 15, 3) := by decide +kernel
theorem dX6_copyFrom_23 : decode cX6_copyFrom 23 = .ok (.iconst 0, 1) := by decide +kernel
theorem dX6_copyFrom_24 : decode cX6_copyFrom 24 = .ok (.bipush 8, 2) := by decide +kernel
theorem dX6_copyFrom_26 : decode cX6_copyFrom 26 = .ok (.invokestatic 55, 3) := by decide +kernel
theorem dX6_copyFrom_29 : decode cX6_copyFrom 29 = .ok (.iconst 0, 1) := by decide +kernel
theorem dX6_copyFrom_30 : decode cX6_copyFrom 30 = .ok (.istore_n 2, 1) := by decide +kernel
theorem dX6_copyFrom_31 : decode cX6_copyFrom 31 = .ok (.iload_n 2, 1) := by decide +kernel
theorem dX6_copyFrom_32 : decode cX6_copyFrom 32 = .ok (.aload_n 1, 1) := by decide +kernel
theorem dX6_copyFrom_33 : decode cX6_copyFrom 33 = .ok (.getfield 30, 3) := by decide +kernel
theorem dX6_copyFrom_36 : decode cX6_copyFrom 36 = .ok (.if_icmp .ge 24, 3) := by decide +kernel
theorem dX6_copyFrom_39 : decode cX6_copyFrom 39 = .ok (.aload_n 0, 1) := by decide +kernel
theorem dX6_copyFrom_40 : decode cX6_copyFrom 40 = .ok (.getfield 20, 3) := by decide +kernel
theorem dX6_copyFrom_43 : decode cX6_copyFrom 43 = .ok (.iload_n 2, 1) := by decide +kernel
theorem dX6_copyFrom_44 : decode cX6_copyFrom 44 = .ok (.aaload, 1) := by decide +kernel
theorem dX6_copyFrom_45 : decode cX6_copyFrom 45 = .ok (.aload_n 1, 1) := by decide +kernel
theorem dX6_copyFrom_46 : decode cX6_copyFrom 46 = .ok (.getfield 20, 3) := by decide +kernel
theorem dX6_copyFrom_49 : decode cX6_copyFrom 49 = .ok (.iload_n 2, 1) := by decide +kernel
theorem dX6_copyFrom_50 : decode cX6_copyFrom 50 = .ok (.aaload, 1) := by decide +kernel
theorem dX6_copyFrom_51 : decode cX6_copyFrom 51 = .ok (.invokevirtual 63, 3) := by decide +kernel
theorem dX6_copyFrom_54 : decode cX6_copyFrom 54 = .ok (.iinc 2 1, 3) := by decide +kernel
theorem dX6_copyFrom_57 : decode cX6_copyFrom 57 = .ok (.goto (-26), 3) := by decide +kernel
theorem dX6_copyFrom_60 : decode cX6_copyFrom 60 = .ok (.iconst 0, 1) := by decide +kernel
theorem dX6_copyFrom_61 : decode cX6_copyFrom 61 = .ok (.istore_n 2, 1) := by decide +kernel
theorem dX6_copyFrom_62 : decode cX6_copyFrom 62 = .ok (.iload_n 2, 1) := by decide +kernel
theorem dX6_copyFrom_63 : decode cX6_copyFrom 63 = .ok (.aload_n 1, 1) := by decide +kernel
theorem dX6_copyFrom_64 : decode cX6_copyFrom 64 = .ok (.getfield 34, 3) := by decide +kernel
theorem dX6_copyFrom_67 : decode cX6_copyFrom 67 = .ok (.if_icmp .ge 24, 3) := by decide +kernel
theorem dX6_copyFrom_70 : decode cX6_copyFrom 70 = .ok (.aload_n 0, 1) := by decide +kernel
theorem dX6_copyFrom_71 : decode cX6_copyFrom 71 = .ok (.getfield 26, 3) := by decide +kernel
theorem dX6_copyFrom_74 : decode cX6_copyFrom 74 = .ok (.iload_n 2, 1) := by decide +kernel
theorem dX6_copyFrom_75 : decode cX6_copyFrom 75 = .ok (.aaload, 1) := by decide +kernel
theorem dX6_copyFrom_76 : decode cX6_copyFrom 76 = .ok (.aload_n 1, 1) := by decide +kernel
theorem dX6_copyFrom_77 : decode cX6_copyFrom 77 = .ok (.getfield 26, 3) := by decide +kernel
theorem dX6_copyFrom_80 : decode cX6_copyFrom 80 = .ok (.iload_n 2, 1) := by decide +kernel
theorem dX6_copyFrom_81 : decode cX6_copyFrom 81 = .ok (.aaload, 1) := by decide +kernel
theorem dX6_copyFrom_82 : decode cX6_copyFrom 82 = .ok (.invokevirtual 67, 3) := by decide +kernel
theorem dX6_copyFrom_85 : decode cX6_copyFrom 85 = .ok (.iinc 2 1, 3) := by decide +kernel
theorem dX6_copyFrom_88 : decode cX6_copyFrom 88 = .ok (.goto (-26), 3) := by decide +kernel
theorem dX6_copyFrom_91 : decode cX6_copyFrom 91 = .ok (.aload_n 0, 1) := by decide +kernel
theorem dX6_copyFrom_92 : decode cX6_copyFrom 92 = .ok (.aload_n 1, 1) := by decide +kernel
theorem dX6_copyFrom_93 : decode cX6_copyFrom 93 = .ok (.getfield 30, 3) := by decide +kernel
theorem dX6_copyFrom_96 : decode cX6_copyFrom 96 = .ok (.putfield 30, 3) := by decide +kernel
theorem dX6_copyFrom_99 : decode cX6_copyFrom 99 = .ok (.aload_n 0, 1) := by decide +kernel
theorem dX6_copyFrom_100 : decode cX6_copyFrom 100 = .ok (.aload_n 1, 1) := by decide +kernel
theorem dX6_copyFrom_101 : decode cX6_copyFrom 101 = .ok (.getfield 34, 3) := by decide +kernel
theorem dX6_copyFrom_104 : decode cX6_copyFrom 104 = .ok (.putfield 34, 3) := by decide +kernel
theorem dX6_copyFrom_107 : decode cX6_copyFrom 107 = .ok (.aload_n 0, 1) := by decide +kernel
theorem dX6_copyFrom_108 : decode cX6_copyFrom 108 = .ok (.aload_n 1, 1) := by decide +kernel
theorem dX6_copyFrom_109 : decode cX6_copyFrom 109 = .ok (.getfield 37, 3) := by decide +kernel
theorem dX6_copyFrom_112 : decode cX6_copyFrom 112 = .ok (.putfield 37, 3) := by decide +kernel
theorem dX6_copyFrom_115 : decode cX6_copyFrom 115 = .ok (.aload_n 0, 1) := by decide +kernel
theorem dX6_copyFrom_116 : decode cX6_copyFrom 116 = .ok (.aload_n 1, 1) := by decide +kernel
theorem dX6_copyFrom_117 : decode cX6_copyFrom 117 = .ok (.getfield 40, 3) := by decide +kernel
theorem dX6_copyFrom_120 : decode cX6_copyFrom 120 = .ok (.putfield 40, 3) := by decide +kernel
theorem dX6_copyFrom_123 : decode cX6_copyFrom 123 = .ok (.aload_n 0, 1) := by decide +kernel
theorem dX6_copyFrom_124 : decode cX6_copyFrom 124 = .ok (.aload_n 1, 1) := by decide +kernel
theorem dX6_copyFrom_125 : decode cX6_copyFrom 125 = .ok (.getfield 43, 3) := by decide +kernel
theorem dX6_copyFrom_128 : decode cX6_copyFrom 128 = .ok (.putfield 43, 3) := by decide +kernel
theorem dX6_copyFrom_131 : decode cX6_copyFrom 131 = .ok (.aload_n 0, 1) := by decide +kernel
theorem dX6_copyFrom_132 : decode cX6_copyFrom 132 = .ok (.aload_n 1, 1) := by decide +kernel
theorem dX6_copyFrom_133 : decode cX6_copyFrom 133 = .ok (.getfield 46, 3) := by decide +kernel
theorem dX6_copyFrom_136 : decode cX6_copyFrom 136 = .ok (.putfield 46, 3) := by decide +kernel
theorem dX6_copyFrom_139 : decode cX6_copyFrom 139 = .ok (.aload_n 0, 1) := by decide +kernel
theorem dX6_copyFrom_140 : decode cX6_copyFrom 140 = .ok (.aload_n 1, 1) := by decide +kernel
theorem dX6_copyFrom_141 : decode cX6_copyFrom 141 = .ok (.getfield 49, 3) := by decide +kernel
theorem dX6_copyFrom_144 : decode cX6_copyFrom 144 = .ok (.putfield 49, 3) := by decide +kernel
theorem dX6_copyFrom_147 : decode cX6_copyFrom 147 = .ok (.return_, 1) := by decide +kernel
theorem dX6_hasRoad_0 : decode cX6_hasRoad 0 = .ok (.iload_n 1, 1) := by decide +kernel
theorem dX6_hasRoad_1 : decode cX6_hasRoad 1 = .ok (.iconst 0, 1) := by decide +kernel
theorem dX6_hasRoad_2 : decode cX6_hasRoad 2 = .ok (.aload_n 0, 1) := by decide +kernel
theorem dX6_hasRoad_3 : decode cX6_hasRoad 3 = .ok (.getfield 30, 3) := by decide +kernel
theorem dX6_hasRoad_6 : decode cX6_hasRoad 6 = .ok (.iconst 1, 1) := by decide +kernel
theorem dX6_hasRoad_7 : decode cX6_hasRoad 7 = .ok (.isub, 1) := by decide +kernel
theorem dX6_hasRoad_8 : decode cX6_hasRoad 8 = .ok (.invokestatic 70, 3) := by decide +kernel
theorem dX6_hasRoad_11 : decode cX6_hasRoad 11 = .ok (.ifCond .ne 7, 3) := by decide +kernel
theorem dX6_hasRoad_14 : decode cX6_hasRoad 14 = .ok (.iconst 1, 1) := by decide +kernel
theorem dX6_hasRoad_15 : decode cX6_hasRoad 15 = .ok (.goto 4, 3) := by decide +kernel
theorem dX6_hasRoad_18 : decode cX6_hasRoad 18 = .ok (.iconst 0, 1) := by decide +kernel
theorem dX6_hasRoad_19 : decode cX6_hasRoad 19 = .ok (.ireturn, 1) := by decide +kernel
theorem dX6_hasCart_0 : decode cX6_hasCart 0 = .ok (.iload_n 1, 1) := by decide +kernel
theorem dX6_hasCart_1 : decode cX6_hasCart 1 = .ok (.iconst 0, 1) := by decide +kernel
theorem dX6_hasCart_2 : decode cX6_hasCart 2 = .ok (.aload_n 0, 1) := by decide +kernel
theorem dX6_hasCart_3 : decode cX6_hasCart 3 = .ok (.getfield 34, 3) := by decide +kernel
theorem dX6_hasCart_6 : decode cX6_hasCart 6 = .ok (.iconst 1, 1) := by decide +kernel
theorem dX6_hasCart_7 : decode cX6_hasCart 7 = .ok (.isub, 1) := by decide +kernel
theorem dX6_hasCart_8 : decode cX6_hasCart 8 = .ok (.invokestatic 70, 3) := by decide +kernel
theorem dX6_hasCart_11 : decode cX6_hasCart 11 = .ok (.ifCond .ne 7, 3) := by decide +kernel
theorem dX6_hasCart_14 : decode cX6_hasCart 14 = .ok (.iconst 1, 1) := by decide +kernel
theorem dX6_hasCart_15 : decode cX6_hasCart 15 = .ok (.goto 4, 3) := by decide +kernel
theorem dX6_hasCart_18 : decode cX6_hasCart 18 = .ok (.iconst 0, 1) := by decide +kernel
theorem dX6_hasCart_19 : decode cX6_hasCart 19 = .ok (.ireturn, 1) := by decide +kernel
theorem dX6_roadsAt_0 : decode cX6_roadsAt 0 = .ok (.iconst 0, 1) := by decide +kernel
theorem dX6_roadsAt_1 : decode cX6_roadsAt 1 = .ok (.istore_n 2, 1) := by decide +kernel
theorem dX6_roadsAt_2 : decode cX6_roadsAt 2 = .ok (.iconst 0, 1) := by decide +kernel
theorem dX6_roadsAt_3 : decode cX6_roadsAt 3 = .ok (.istore_n 3, 1) := by decide +kernel
theorem dX6_roadsAt_4 : decode cX6_roadsAt 4 = .ok (.iload_n 3, 1) := by decide +kernel
theorem dX6_roadsAt_5 : decode cX6_roadsAt 5 = .ok (.aload_n 0, 1) := by decide +kernel
theorem dX6_roadsAt_6 : decode cX6_roadsAt 6 = .ok (.getfield 30, 3) := by decide +kernel
theorem dX6_roadsAt_9 : decode cX6_roadsAt 9 = .ok (.if_icmp .ge 28, 3) := by decide +kernel
theorem dX6_roadsAt_12 : decode cX6_roadsAt 12 = .ok (.aload_n 0, 1) := by decide +kernel
theorem dX6_roadsAt_13 : decode cX6_roadsAt 13 = .ok (.getfield 20, 3) := by decide +kernel
theorem dX6_roadsAt_16 : decode cX6_roadsAt 16 = .ok (.iload_n 3, 1) := by decide +kernel
theorem dX6_roadsAt_17 : decode cX6_roadsAt 17 = .ok (.aaload, 1) := by decide +kernel
theorem dX6_roadsAt_18 : decode cX6_roadsAt 18 = .ok (.iload_n 1, 1) := by decide +kernel
theorem dX6_roadsAt_19 : decode cX6_roadsAt 19 = .ok (.invokevirtual 74, 3) := by decide +kernel
theorem dX6_roadsAt_22 : decode cX6_roadsAt 22 = .ok (.ifCond .eq 9, 3) := by decide +kernel
theorem dX6_roadsAt_25 : decode cX6_roadsAt 25 = .ok (.iload_n 2, 1) := by decide +kernel
theorem dX6_roadsAt_26 : decode cX6_roadsAt 26 = .ok (.iconst 1, 1) := by decide +kernel
theorem dX6_roadsAt_27 : decode cX6_roadsAt 27 = .ok (.iload_n 3, 1) := by decide +kernel
theorem dX6_roadsAt_28 : decode cX6_roadsAt 28 = .ok (.ishl, 1) := by decide +kernel
theorem dX6_roadsAt_29 : decode cX6_roadsAt 29 = .ok (.ior, 1) := by decide +kernel
theorem dX6_roadsAt_30 : decode cX6_roadsAt 30 = .ok (.istore_n 2, 1) := by decide +kernel
theorem dX6_roadsAt_31 : decode cX6_roadsAt 31 = .ok (.iinc 3 1, 3) := by decide +kernel
theorem dX6_roadsAt_34 : decode cX6_roadsAt 34 = .ok (.goto (-30), 3) := by decide +kernel
theorem dX6_roadsAt_37 : decode cX6_roadsAt 37 = .ok (.iload_n 2, 1) := by decide +kernel
theorem dX6_roadsAt_38 : decode cX6_roadsAt 38 = .ok (.ireturn, 1) := by decide +kernel
theorem dX6_cartsAt_0 : decode cX6_cartsAt 0 = .ok (.iconst 0, 1) := by decide +kernel
theorem dX6_cartsAt_1 : decode cX6_cartsAt 1 = .ok (.istore_n 2, 1) := by decide +kernel
theorem dX6_cartsAt_2 : decode cX6_cartsAt 2 = .ok (.iconst 0, 1) := by decide +kernel
theorem dX6_cartsAt_3 : decode cX6_cartsAt 3 = .ok (.istore_n 3, 1) := by decide +kernel
theorem dX6_cartsAt_4 : decode cX6_cartsAt 4 = .ok (.iload_n 3, 1) := by decide +kernel
theorem dX6_cartsAt_5 : decode cX6_cartsAt 5 = .ok (.aload_n 0, 1) := by decide +kernel
theorem dX6_cartsAt_6 : decode cX6_cartsAt 6 = .ok (.getfield 34, 3) := by decide +kernel
theorem dX6_cartsAt_9 : decode cX6_cartsAt 9 = .ok (.if_icmp .ge 28, 3) := by decide +kernel
theorem dX6_cartsAt_12 : decode cX6_cartsAt 12 = .ok (.aload_n 0, 1) := by decide +kernel
theorem dX6_cartsAt_13 : decode cX6_cartsAt 13 = .ok (.getfield 26, 3) := by decide +kernel
theorem dX6_cartsAt_16 : decode cX6_cartsAt 16 = .ok (.iload_n 3, 1) := by decide +kernel
theorem dX6_cartsAt_17 : decode cX6_cartsAt 17 = .ok (.aaload, 1) := by decide +kernel
theorem dX6_cartsAt_18 : decode cX6_cartsAt 18 = .ok (.getfield 78, 3) := by decide +kernel
theorem dX6_cartsAt_21 : decode cX6_cartsAt 21 = .ok (.iload_n 1, 1) := by decide +kernel
theorem dX6_cartsAt_22 : decode cX6_cartsAt 22 = .ok (.if_icmp .ne 9, 3) := by decide +kernel
theorem dX6_cartsAt_25 : decode cX6_cartsAt 25 = .ok (.iload_n 2, 1) := by decide +kernel
theorem dX6_cartsAt_26 : decode cX6_cartsAt 26 = .ok (.iconst 1, 1) := by decide +kernel
theorem dX6_cartsAt_27 : decode cX6_cartsAt 27 = .ok (.iload_n 3, 1) := by decide +kernel
theorem dX6_cartsAt_28 : decode cX6_cartsAt 28 = .ok (.ishl, 1) := by decide +kernel
theorem dX6_cartsAt_29 : decode cX6_cartsAt 29 = .ok (.ior, 1) := by decide +kernel
theorem dX6_cartsAt_30 : decode cX6_cartsAt 30 = .ok (.istore_n 2, 1) := by decide +kernel
theorem dX6_cartsAt_31 : decode cX6_cartsAt 31 = .ok (.iinc 3 1, 3) := by decide +kernel
theorem dX6_cartsAt_34 : decode cX6_cartsAt 34 = .ok (.goto (-30), 3) := by decide +kernel
theorem dX6_cartsAt_37 : decode cX6_cartsAt 37 = .ok (.iload_n 2, 1) := by decide +kernel
theorem dX6_cartsAt_38 : decode cX6_cartsAt 38 = .ok (.ireturn, 1) := by decide +kernel
theorem dX6_guardsAtRoads_0 : decode cX6_guardsAtRoads 0 = .ok (.iconst 0, 1) := by decide +kernel
theorem dX6_guardsAtRoads_1 : decode cX6_guardsAtRoads 1 = .ok (.istore_n 1, 1) := by decide +kernel
theorem dX6_guardsAtRoads_2 : decode cX6_guardsAtRoads 2 = .ok (.iconst 0, 1) := by decide +kernel
theorem dX6_guardsAtRoads_3 : decode cX6_guardsAtRoads 3 = .ok (.istore_n 2, 1) := by decide +kernel
theorem dX6_guardsAtRoads_4 : decode cX6_guardsAtRoads 4 = .ok (.iload_n 2, 1) := by decide +kernel
theorem dX6_guardsAtRoads_5 : decode cX6_guardsAtRoads 5 = .ok (.aload_n 0, 1) := by decide +kernel
theorem dX6_guardsAtRoads_6 : decode cX6_guardsAtRoads 6 = .ok (.getfield 30, 3) := by decide +kernel
theorem dX6_guardsAtRoads_9 : decode cX6_guardsAtRoads 9 = .ok (.if_icmp .ge 21, 3) := by decide +kernel
theorem dX6_guardsAtRoads_12 : decode cX6_guardsAtRoads 12 = .ok (.iload_n 1, 1) := by decide +kernel
theorem dX6_guardsAtRoads_13 : decode cX6_guardsAtRoads 13 = .ok (.aload_n 0, 1) := by decide +kernel
theorem dX6_guardsAtRoads_14 : decode cX6_guardsAtRoads 14 = .ok (.getfield 20, 3) := by decide +kernel
theorem dX6_guardsAtRoads_17 : decode cX6_guardsAtRoads 17 = .ok (.iload_n 2, 1) := by decide +kernel
theorem dX6_guardsAtRoads_18 : decode cX6_guardsAtRoads 18 = .ok (.aaload, 1) := by decide +kernel
theorem dX6_guardsAtRoads_19 : decode cX6_guardsAtRoads 19 = .ok (.getfield 81, 3) := by decide +kernel
theorem dX6_guardsAtRoads_22 : decode cX6_guardsAtRoads 22 = .ok (.iadd, 1) := by decide +kernel
theorem dX6_guardsAtRoads_23 : decode cX6_guardsAtRoads 23 = .ok (.istore_n 1, 1) := by decide +kernel
theorem dX6_guardsAtRoads_24 : decode cX6_guardsAtRoads 24 = .ok (.iinc 2 1, 3) := by decide +kernel
theorem dX6_guardsAtRoads_27 : decode cX6_guardsAtRoads 27 = .ok (.goto (-23), 3) := by decide +kernel
theorem dX6_guardsAtRoads_30 : decode cX6_guardsAtRoads 30 = .ok (.iload_n 1, 1) := by decide +kernel
theorem dX6_guardsAtRoads_31 : decode cX6_guardsAtRoads 31 = .ok (.ireturn, 1) := by decide +kernel
theorem dX6_sacksOfCarts_0 : decode cX6_sacksOfCarts 0 = .ok (.iconst 0, 1) := by decide +kernel
theorem dX6_sacksOfCarts_1 : decode cX6_sacksOfCarts 1 = .ok (.istore_n 1, 1) := by decide +kernel
theorem dX6_sacksOfCarts_2 : decode cX6_sacksOfCarts 2 = .ok (.iconst 0, 1) := by decide +kernel
theorem dX6_sacksOfCarts_3 : decode cX6_sacksOfCarts 3 = .ok (.istore_n 2, 1) := by decide +kernel
theorem dX6_sacksOfCarts_4 : decode cX6_sacksOfCarts 4 = .ok (.iload_n 2, 1) := by decide +kernel
theorem dX6_sacksOfCarts_5 : decode cX6_sacksOfCarts 5 = .ok (.aload_n 0, 1) := by decide +kernel
theorem dX6_sacksOfCarts_6 : decode cX6_sacksOfCarts 6 = .ok (.getfield 34, 3) := by decide +kernel
theorem dX6_sacksOfCarts_9 : decode cX6_sacksOfCarts 9 = .ok (.if_icmp .ge 21, 3) := by decide +kernel
theorem dX6_sacksOfCarts_12 : decode cX6_sacksOfCarts 12 = .ok (.iload_n 1, 1) := by decide +kernel
theorem dX6_sacksOfCarts_13 : decode cX6_sacksOfCarts 13 = .ok (.aload_n 0, 1) := by decide +kernel
theorem dX6_sacksOfCarts_14 : decode cX6_sacksOfCarts 14 = .ok (.getfield 26, 3) := by decide +kernel
theorem dX6_sacksOfCarts_17 : decode cX6_sacksOfCarts 17 = .ok (.iload_n 2, 1) := by decide +kernel
theorem dX6_sacksOfCarts_18 : decode cX6_sacksOfCarts 18 = .ok (.aaload, 1) := by decide +kernel
theorem dX6_sacksOfCarts_19 : decode cX6_sacksOfCarts 19 = .ok (.getfield 84, 3) := by decide +kernel
theorem dX6_sacksOfCarts_22 : decode cX6_sacksOfCarts 22 = .ok (.iadd, 1) := by decide +kernel
theorem dX6_sacksOfCarts_23 : decode cX6_sacksOfCarts 23 = .ok (.istore_n 1, 1) := by decide +kernel
theorem dX6_sacksOfCarts_24 : decode cX6_sacksOfCarts 24 = .ok (.iinc 2 1, 3) := by decide +kernel
theorem dX6_sacksOfCarts_27 : decode cX6_sacksOfCarts 27 = .ok (.goto (-23), 3) := by decide +kernel
theorem dX6_sacksOfCarts_30 : decode cX6_sacksOfCarts 30 = .ok (.iload_n 1, 1) := by decide +kernel
theorem dX6_sacksOfCarts_31 : decode cX6_sacksOfCarts 31 = .ok (.ireturn, 1) := by decide +kernel
theorem dX6_coinsOfCarts_0 : decode cX6_coinsOfCarts 0 = .ok (.iconst 0, 1) := by decide +kernel
theorem dX6_coinsOfCarts_1 : decode cX6_coinsOfCarts 1 = .ok (.istore_n 1, 1) := by decide +kernel
theorem dX6_coinsOfCarts_2 : decode cX6_coinsOfCarts 2 = .ok (.iconst 0, 1) := by decide +kernel
theorem dX6_coinsOfCarts_3 : decode cX6_coinsOfCarts 3 = .ok (.istore_n 2, 1) := by decide +kernel
theorem dX6_coinsOfCarts_4 : decode cX6_coinsOfCarts 4 = .ok (.iload_n 2, 1) := by decide +kernel
theorem dX6_coinsOfCarts_5 : decode cX6_coinsOfCarts 5 = .ok (.aload_n 0, 1) := by decide +kernel
theorem dX6_coinsOfCarts_6 : decode cX6_coinsOfCarts 6 = .ok (.getfield 34, 3) := by decide +kernel
theorem dX6_coinsOfCarts_9 : decode cX6_coinsOfCarts 9 = .ok (.if_icmp .ge 21, 3) := by decide +kernel
theorem dX6_coinsOfCarts_12 : decode cX6_coinsOfCarts 12 = .ok (.iload_n 1, 1) := by decide +kernel
theorem dX6_coinsOfCarts_13 : decode cX6_coinsOfCarts 13 = .ok (.aload_n 0, 1) := by decide +kernel
theorem dX6_coinsOfCarts_14 : decode cX6_coinsOfCarts 14 = .ok (.getfield 26, 3) := by decide +kernel
theorem dX6_coinsOfCarts_17 : decode cX6_coinsOfCarts 17 = .ok (.iload_n 2, 1) := by decide +kernel
theorem dX6_coinsOfCarts_18 : decode cX6_coinsOfCarts 18 = .ok (.aaload, 1) := by decide +kernel
theorem dX6_coinsOfCarts_19 : decode cX6_coinsOfCarts 19 = .ok (.getfield 87, 3) := by decide +kernel
theorem dX6_coinsOfCarts_22 : decode cX6_coinsOfCarts 22 = .ok (.iadd, 1) := by decide +kernel
theorem dX6_coinsOfCarts_23 : decode cX6_coinsOfCarts 23 = .ok (.istore_n 1, 1) := by decide +kernel
theorem dX6_coinsOfCarts_24 : decode cX6_coinsOfCarts 24 = .ok (.iinc 2 1, 3) := by decide +kernel
theorem dX6_coinsOfCarts_27 : decode cX6_coinsOfCarts 27 = .ok (.goto (-23), 3) := by decide +kernel
theorem dX6_coinsOfCarts_30 : decode cX6_coinsOfCarts 30 = .ok (.iload_n 1, 1) := by decide +kernel
theorem dX6_coinsOfCarts_31 : decode cX6_coinsOfCarts 31 = .ok (.ireturn, 1) := by decide +kernel
theorem dX6_chanceWith_0 : decode cX6_chanceWith 0 = .ok (.bipush 90, 2) := by decide +kernel
theorem dX6_chanceWith_2 : decode cX6_chanceWith 2 = .ok (.aload_n 0, 1) := by decide +kernel
theorem dX6_chanceWith_3 : decode cX6_chanceWith 3 = .ok (.getfield 9, 3) := by decide +kernel
theorem dX6_chanceWith_6 : decode cX6_chanceWith 6 = .ok (.iconst 1, 1) := by decide +kernel
theorem dX6_chanceWith_7 : decode cX6_chanceWith 7 = .ok (.iaload, 1) := by decide +kernel
theorem dX6_chanceWith_8 : decode cX6_chanceWith 8 = .ok (.iload_n 1, 1) := by decide +kernel
theorem dX6_chanceWith_9 : decode cX6_chanceWith 9 = .ok (.imul, 1) := by decide +kernel
theorem dX6_chanceWith_10 : decode cX6_chanceWith 10 = .ok (.invokestatic 90, 3) := by decide +kernel
theorem dX6_chanceWith_13 : decode cX6_chanceWith 13 = .ok (.ireturn, 1) := by decide +kernel
theorem dX6_chanceOf_0 : decode cX6_chanceOf 0 = .ok (.aload_n 0, 1) := by decide +kernel
theorem dX6_chanceOf_1 : decode cX6_chanceOf 1 = .ok (.aload_n 1, 1) := by decide +kernel
theorem dX6_chanceOf_2 : decode cX6_chanceOf 2 = .ok (.getfield 81, 3) := by decide +kernel
theorem dX6_chanceOf_5 : decode cX6_chanceOf 5 = .ok (.invokevirtual 96, 3) := by decide +kernel
theorem dX6_chanceOf_8 : decode cX6_chanceOf 8 = .ok (.ireturn, 1) := by decide +kernel
theorem dX6_mostHidden_0 : decode cX6_mostHidden 0 = .ok (.bipush 100, 2) := by decide +kernel
theorem dX6_mostHidden_2 : decode cX6_mostHidden 2 = .ok (.iload_n 1, 1) := by decide +kernel
theorem dX6_mostHidden_3 : decode cX6_mostHidden 3 = .ok (.imul, 1) := by decide +kernel
theorem dX6_mostHidden_4 : decode cX6_mostHidden 4 = .ok (.iload_n 2, 1) := by decide +kernel
theorem dX6_mostHidden_5 : decode cX6_mostHidden 5 = .ok (.aload_n 0, 1) := by decide +kernel
theorem dX6_mostHidden_6 : decode cX6_mostHidden 6 = .ok (.getfield 9, 3) := by decide +kernel
theorem dX6_mostHidden_9 : decode cX6_mostHidden 9 = .ok (.iconst 0, 1) := by decide +kernel
theorem dX6_mostHidden_10 : decode cX6_mostHidden 10 = .ok (.iaload, 1) := by decide +kernel
theorem dX6_mostHidden_11 : decode cX6_mostHidden 11 = .ok (.imul, 1) := by decide +kernel
theorem dX6_mostHidden_12 : decode cX6_mostHidden 12 = .ok (.iadd, 1) := by decide +kernel
theorem dX6_mostHidden_13 : decode cX6_mostHidden 13 = .ok (.bipush 100, 2) := by decide +kernel
theorem dX6_mostHidden_15 : decode cX6_mostHidden 15 = .ok (.iload_n 2, 1) := by decide +kernel
theorem dX6_mostHidden_16 : decode cX6_mostHidden 16 = .ok (.isub, 1) := by decide +kernel
theorem dX6_mostHidden_17 : decode cX6_mostHidden 17 = .ok (.idiv, 1) := by decide +kernel
theorem dX6_mostHidden_18 : decode cX6_mostHidden 18 = .ok (.ireturn, 1) := by decide +kernel
theorem dX6_mostAtEnd_0 : decode cX6_mostAtEnd 0 = .ok (.iload_n 2, 1) := by decide +kernel
theorem dX6_mostAtEnd_1 : decode cX6_mostAtEnd 1 = .ok (.aload_n 1, 1) := by decide +kernel
theorem dX6_mostAtEnd_2 : decode cX6_mostAtEnd 2 = .ok (.getfield 100, 3) := by decide +kernel
theorem dX6_mostAtEnd_5 : decode cX6_mostAtEnd 5 = .ok (.iadd, 1) := by decide +kernel
theorem dX6_mostAtEnd_6 : decode cX6_mostAtEnd 6 = .ok (.aload_n 0, 1) := by decide +kernel
theorem dX6_mostAtEnd_7 : decode cX6_mostAtEnd 7 = .ok (.iload_n 2, 1) := by decide +kernel
theorem dX6_mostAtEnd_8 : decode cX6_mostAtEnd 8 = .ok (.aload_n 0, 1) := by decide +kernel
theorem dX6_mostAtEnd_9 : decode cX6_mostAtEnd 9 = .ok (.aload_n 1, 1) := by decide +kernel
theorem dX6_mostAtEnd_10 : decode cX6_mostAtEnd 10 = .ok (.invokevirtual 103, 3) := by decide +kernel
theorem dX6_mostAtEnd_13 : decode cX6_mostAtEnd 13 = .ok (.invokevirtual 107, 3) := by decide +kernel
theorem dX6_mostAtEnd_16 : decode cX6_mostAtEnd 16 = .ok (.invokestatic 90, 3) := by decide +kernel
theorem dX6_mostAtEnd_19 : decode cX6_mostAtEnd 19 = .ok (.ireturn, 1) := by decide +kernel
theorem dX6_isHonest_0 : decode cX6_isHonest 0 = .ok (.aload_n 0, 1) := by decide +kernel
theorem dX6_isHonest_1 : decode cX6_isHonest 1 = .ok (.getfield 15, 3) := by decide +kernel
theorem dX6_isHonest_4 : decode cX6_isHonest 4 = .ok (.aload_n 1, 1) := by decide +kernel
theorem dX6_isHonest_5 : decode cX6_isHonest 5 = .ok (.iload_n 2, 1) := by decide +kernel
theorem dX6_isHonest_6 : decode cX6_isHonest 6 = .ok (.invokevirtual 110, 3) := by decide +kernel
theorem dX6_isHonest_9 : decode cX6_isHonest 9 = .ok (.iaload, 1) := by decide +kernel
theorem dX6_isHonest_10 : decode cX6_isHonest 10 = .ok (.aload_n 0, 1) := by decide +kernel
theorem dX6_isHonest_11 : decode cX6_isHonest 11 = .ok (.aload_n 1, 1) := by decide +kernel
theorem dX6_isHonest_12 : decode cX6_isHonest 12 = .ok (.aload_n 0, 1) := by decide +kernel
theorem dX6_isHonest_13 : decode cX6_isHonest 13 = .ok (.getfield 15, 3) := by decide +kernel
theorem dX6_isHonest_16 : decode cX6_isHonest 16 = .ok (.iload_n 2, 1) := by decide +kernel
theorem dX6_isHonest_17 : decode cX6_isHonest 17 = .ok (.iaload, 1) := by decide +kernel
theorem dX6_isHonest_18 : decode cX6_isHonest 18 = .ok (.invokevirtual 113, 3) := by decide +kernel
theorem dX6_isHonest_21 : decode cX6_isHonest 21 = .ok (.if_icmp .gt 7, 3) := by decide +kernel
theorem dX6_isHonest_24 : decode cX6_isHonest 24 = .ok (.iconst 1, 1) := by decide +kernel
theorem dX6_isHonest_25 : decode cX6_isHonest 25 = .ok (.goto 4, 3) := by decide +kernel
theorem dX6_isHonest_28 : decode cX6_isHonest 28 = .ok (.iconst 0, 1) := by decide +kernel
theorem dX6_isHonest_29 : decode cX6_isHonest 29 = .ok (.ireturn, 1) := by decide +kernel
theorem dX6_allHonest_0 : decode cX6_allHonest 0 = .ok (.iconst 0, 1) := by decide +kernel
theorem dX6_allHonest_1 : decode cX6_allHonest 1 = .ok (.istore_n 1, 1) := by decide +kernel
theorem dX6_allHonest_2 : decode cX6_allHonest 2 = .ok (.iload_n 1, 1) := by decide +kernel
theorem dX6_allHonest_3 : decode cX6_allHonest 3 = .ok (.aload_n 0, 1) := by decide +kernel
theorem dX6_allHonest_4 : decode cX6_allHonest 4 = .ok (.getfield 30, 3) := by decide +kernel
theorem dX6_allHonest_7 : decode cX6_allHonest 7 = .ok (.if_icmp .ge 55, 3) := by decide +kernel
theorem dX6_allHonest_10 : decode cX6_allHonest 10 = .ok (.aload_n 0, 1) := by decide +kernel
theorem dX6_allHonest_11 : decode cX6_allHonest 11 = .ok (.aload_n 0, 1) := by decide +kernel
theorem dX6_allHonest_12 : decode cX6_allHonest 12 = .ok (.getfield 20, 3) := by decide +kernel
theorem dX6_allHonest_15 : decode cX6_allHonest 15 = .ok (.iload_n 1, 1) := by decide +kernel
theorem dX6_allHonest_16 : decode cX6_allHonest 16 = .ok (.aaload, 1) := by decide +kernel
theorem dX6_allHonest_17 : decode cX6_allHonest 17 = .ok (.aload_n 0, 1) := by decide +kernel
theorem dX6_allHonest_18 : decode cX6_allHonest 18 = .ok (.getfield 20, 3) := by decide +kernel
theorem dX6_allHonest_21 : decode cX6_allHonest 21 = .ok (.iload_n 1, 1) := by decide +kernel
theorem dX6_allHonest_22 : decode cX6_allHonest 22 = .ok (.aaload, 1) := by decide +kernel
theorem dX6_allHonest_23 : decode cX6_allHonest 23 = .ok (.getfield 117, 3) := by decide +kernel
theorem dX6_allHonest_26 : decode cX6_allHonest 26 = .ok (.invokevirtual 118, 3) := by decide +kernel
theorem dX6_allHonest_29 : decode cX6_allHonest 29 = .ok (.ifCond .eq 25, 3) := by decide +kernel
theorem dX6_allHonest_32 : decode cX6_allHonest 32 = .ok (.aload_n 0, 1) := by decide +kernel
theorem dX6_allHonest_33 : decode cX6_allHonest 33 = .ok (.aload_n 0, 1) := by decide +kernel
theorem dX6_allHonest_34 : decode cX6_allHonest 34 = .ok (.getfield 20, 3) := by decide +kernel
theorem dX6_allHonest_37 : decode cX6_allHonest 37 = .ok (.iload_n 1, 1) := by decide +kernel
theorem dX6_allHonest_38 : decode cX6_allHonest 38 = .ok (.aaload, 1) := by decide +kernel
theorem dX6_allHonest_39 : decode cX6_allHonest 39 = .ok (.aload_n 0, 1) := by decide +kernel
theorem dX6_allHonest_40 : decode cX6_allHonest 40 = .ok (.getfield 20, 3) := by decide +kernel
theorem dX6_allHonest_43 : decode cX6_allHonest 43 = .ok (.iload_n 1, 1) := by decide +kernel
theorem dX6_allHonest_44 : decode cX6_allHonest 44 = .ok (.aaload, 1) := by decide +kernel
theorem dX6_allHonest_45 : decode cX6_allHonest 45 = .ok (.getfield 122, 3) := by decide +kernel
theorem dX6_allHonest_48 : decode cX6_allHonest 48 = .ok (.invokevirtual 118, 3) := by decide +kernel
theorem dX6_allHonest_51 : decode cX6_allHonest 51 = .ok (.ifCond .ne 5, 3) := by decide +kernel
theorem dX6_allHonest_54 : decode cX6_allHonest 54 = .ok (.iconst 0, 1) := by decide +kernel
theorem dX6_allHonest_55 : decode cX6_allHonest 55 = .ok (.ireturn, 1) := by decide +kernel
theorem dX6_allHonest_56 : decode cX6_allHonest 56 = .ok (.iinc 1 1, 3) := by decide +kernel
theorem dX6_allHonest_59 : decode cX6_allHonest 59 = .ok (.goto (-57), 3) := by decide +kernel
theorem dX6_allHonest_62 : decode cX6_allHonest 62 = .ok (.iconst 1, 1) := by decide +kernel
theorem dX6_allHonest_63 : decode cX6_allHonest 63 = .ok (.ireturn, 1) := by decide +kernel
theorem dX6_fineOf_0 : decode cX6_fineOf 0 = .ok (.aload_n 1, 1) := by decide +kernel
theorem dX6_fineOf_1 : decode cX6_fineOf 1 = .ok (.getfield 87, 3) := by decide +kernel
theorem dX6_fineOf_4 : decode cX6_fineOf 4 = .ok (.aload_n 0, 1) := by decide +kernel
theorem dX6_fineOf_5 : decode cX6_fineOf 5 = .ok (.getfield 9, 3) := by decide +kernel
theorem dX6_fineOf_8 : decode cX6_fineOf 8 = .ok (.iconst 0, 1) := by decide +kernel
theorem dX6_fineOf_9 : decode cX6_fineOf 9 = .ok (.iaload, 1) := by decide +kernel
theorem dX6_fineOf_10 : decode cX6_fineOf 10 = .ok (.aload_n 1, 1) := by decide +kernel
theorem dX6_fineOf_11 : decode cX6_fineOf 11 = .ok (.getfield 84, 3) := by decide +kernel
theorem dX6_fineOf_14 : decode cX6_fineOf 14 = .ok (.imul, 1) := by decide +kernel
theorem dX6_fineOf_15 : decode cX6_fineOf 15 = .ok (.invokestatic 90, 3) := by decide +kernel
theorem dX6_fineOf_18 : decode cX6_fineOf 18 = .ok (.ireturn, 1) := by decide +kernel
theorem dX6_changeSetting_0 : decode cX6_changeSetting 0 = .ok (.iload_n 1, 1) := by decide +kernel
theorem dX6_changeSetting_1 : decode cX6_changeSetting 1 = .ok (.iconst 0, 1) := by decide +kernel
theorem dX6_changeSetting_2 : decode cX6_changeSetting 2 = .ok (.iconst 3, 1) := by decide +kernel
theorem dX6_changeSetting_3 : decode cX6_changeSetting 3 = .ok (.invokestatic 70, 3) := by decide +kernel
theorem dX6_changeSetting_6 : decode cX6_changeSetting 6 = .ok (.ifCond .eq 6, 3) := by decide +kernel
theorem dX6_changeSetting_9 : decode cX6_changeSetting 9 = .ok (.bipush (-2), 2) := by decide +kernel
theorem dX6_changeSetting_11 : decode cX6_changeSetting 11 = .ok (.ireturn, 1) := by decide +kernel
theorem dX6_changeSetting_12 : decode cX6_changeSetting 12 = .ok (.iload_n 2, 1) := by decide +kernel
theorem dX6_changeSetting_13 : decode cX6_changeSetting 13 = .ok (.getstatic 125, 3) := by decide +kernel
theorem dX6_changeSetting_16 : decode cX6_changeSetting 16 = .ok (.iload_n 1, 1) := by decide +kernel
theorem dX6_changeSetting_17 : decode cX6_changeSetting 17 = .ok (.iaload, 1) := by decide +kernel
theorem dX6_changeSetting_18 : decode cX6_changeSetting 18 = .ok (.getstatic 128, 3) := by decide +kernel
theorem dX6_changeSetting_21 : decode cX6_changeSetting 21 = .ok (.iload_n 1, 1) := by decide +kernel
theorem dX6_changeSetting_22 : decode cX6_changeSetting 22 = .ok (.iaload, 1) := by decide +kernel
theorem dX6_changeSetting_23 : decode cX6_changeSetting 23 = .ok (.invokestatic 70, 3) := by decide +kernel
theorem dX6_changeSetting_26 : decode cX6_changeSetting 26 = .ok (.ifCond .eq 6, 3) := by decide +kernel
theorem dX6_changeSetting_29 : decode cX6_changeSetting 29 = .ok (.bipush (-2), 2) := by decide +kernel
theorem dX6_changeSetting_31 : decode cX6_changeSetting 31 = .ok (.ireturn, 1) := by decide +kernel
theorem dX6_changeSetting_32 : decode cX6_changeSetting 32 = .ok (.iload_n 1, 1) := by decide +kernel
theorem dX6_changeSetting_33 : decode cX6_changeSetting 33 = .ok (.iconst 3, 1) := by decide +kernel
theorem dX6_changeSetting_34 : decode cX6_changeSetting 34 = .ok (.if_icmp .ne 14, 3) := by decide +kernel
theorem dX6_changeSetting_37 : decode cX6_changeSetting 37 = .ok (.aload_n 0, 1) := by decide +kernel
theorem dX6_changeSetting_38 : decode cX6_changeSetting 38 = .ok (.invokevirtual 131, 3) := by decide +kernel
theorem dX6_changeSetting_41 : decode cX6_changeSetting 41 = .ok (.iload_n 2, 1) := by decide +kernel
theorem dX6_changeSetting_42 : decode cX6_changeSetting 42 = .ok (.if_icmp .le 6, 3) := by decide +kernel
theorem dX6_changeSetting_45 : decode cX6_changeSetting 45 = .ok (.bipush (-5), 2) := by decide +kernel
theorem dX6_changeSetting_47 : decode cX6_changeSetting 47 = .ok (.ireturn, 1) := by decide +kernel
theorem dX6_changeSetting_48 : decode cX6_changeSetting 48 = .ok (.aload_n 0, 1) := by decide +kernel
theorem dX6_changeSetting_49 : decode cX6_changeSetting 49 = .ok (.getfield 9, 3) := by decide +kernel
theorem dX6_changeSetting_52 : decode cX6_changeSetting 52 = .ok (.iload_n 1, 1) := by decide +kernel
theorem dX6_changeSetting_53 : decode cX6_changeSetting 53 = .ok (.iaload, 1) := by decide +kernel
theorem dX6_changeSetting_54 : decode cX6_changeSetting 54 = .ok (.istore_n 3, 1) := by decide +kernel
theorem dX6_changeSetting_55 : decode cX6_changeSetting 55 = .ok (.aload_n 0, 1) := by decide +kernel
theorem dX6_changeSetting_56 : decode cX6_changeSetting 56 = .ok (.getfield 9, 3) := by decide +kernel
theorem dX6_changeSetting_59 : decode cX6_changeSetting 59 = .ok (.iload_n 1, 1) := by decide +kernel
theorem dX6_changeSetting_60 : decode cX6_changeSetting 60 = .ok (.iload_n 2, 1) := by decide +kernel
theorem dX6_changeSetting_61 : decode cX6_changeSetting 61 = .ok (.iastore, 1) := by decide +kernel
theorem dX6_changeSetting_62 : decode cX6_changeSetting 62 = .ok (.iload_n 3, 1) := by decide +kernel
theorem dX6_changeSetting_63 : decode cX6_changeSetting 63 = .ok (.ireturn, 1) := by decide +kernel
theorem dX6_addRoad_0 : decode cX6_addRoad 0 = .ok (.iload_n 1, 1) := by decide +kernel
theorem dX6_addRoad_1 : decode cX6_addRoad 1 = .ok (.invokestatic 135, 3) := by decide +kernel
theorem dX6_addRoad_4 : decode cX6_addRoad 4 = .ok (.ifCond .eq 10, 3) := by decide +kernel
theorem dX6_addRoad_7 : decode cX6_addRoad 7 = .ok (.iload_n 2, 1) := by decide +kernel
theorem dX6_addRoad_8 : decode cX6_addRoad 8 = .ok (.invokestatic 135, 3) := by decide +kernel
theorem dX6_addRoad_11 : decode cX6_addRoad 11 = .ok (.ifCond .ne 5, 3) := by decide +kernel
theorem dX6_addRoad_14 : decode cX6_addRoad 14 = .ok (.iconst (-1), 1) := by decide +kernel
theorem dX6_addRoad_15 : decode cX6_addRoad 15 = .ok (.ireturn, 1) := by decide +kernel
theorem dX6_addRoad_16 : decode cX6_addRoad 16 = .ok (.iload_n 1, 1) := by decide +kernel
theorem dX6_addRoad_17 : decode cX6_addRoad 17 = .ok (.iload_n 2, 1) := by decide +kernel
theorem dX6_addRoad_18 : decode cX6_addRoad 18 = .ok (.if_icmp .eq 14, 3) := by decide +kernel
theorem dX6_addRoad_21 : decode cX6_addRoad 21 = .ok (.iload_n 3, 1) := by decide +kernel
theorem dX6_addRoad_22 : decode cX6_addRoad 22 = .ok (.iconst 0, 1) := by decide +kernel
theorem dX6_addRoad_23 : decode cX6_addRoad 23 = .ok (.sipush 200, 3) := by decide +kernel
theorem dX6_addRoad_26 : decode cX6_addRoad 26 = .ok (.invokestatic 70, 3) := by decide +kernel
theorem dX6_addRoad_29 : decode cX6_addRoad 29 = .ok (.ifCond .eq 6, 3) := by decide +kernel
theorem dX6_addRoad_32 : decode cX6_addRoad 32 = .ok (.bipush (-2), 2) := by decide +kernel
theorem dX6_addRoad_34 : decode cX6_addRoad 34 = .ok (.ireturn, 1) := by decide +kernel
theorem dX6_addRoad_35 : decode cX6_addRoad 35 = .ok (.aload_n 0, 1) := by decide +kernel
theorem dX6_addRoad_36 : decode cX6_addRoad 36 = .ok (.getfield 30, 3) := by decide +kernel
theorem dX6_addRoad_39 : decode cX6_addRoad 39 = .ok (.bipush 14, 2) := by decide +kernel
theorem dX6_addRoad_41 : decode cX6_addRoad 41 = .ok (.if_icmp .lt 6, 3) := by decide +kernel
theorem dX6_addRoad_44 : decode cX6_addRoad 44 = .ok (.bipush (-4), 2) := by decide +kernel
theorem dX6_addRoad_46 : decode cX6_addRoad 46 = .ok (.ireturn, 1) := by decide +kernel
theorem dX6_addRoad_47 : decode cX6_addRoad 47 = .ok (.aload_n 0, 1) := by decide +kernel
theorem dX6_addRoad_48 : decode cX6_addRoad 48 = .ok (.getfield 20, 3) := by decide +kernel
theorem dX6_addRoad_51 : decode cX6_addRoad 51 = .ok (.aload_n 0, 1) := by decide +kernel
theorem dX6_addRoad_52 : decode cX6_addRoad 52 = .ok (.getfield 30, 3) := by decide +kernel
theorem dX6_addRoad_55 : decode cX6_addRoad 55 = .ok (.aaload, 1) := by decide +kernel
theorem dX6_addRoad_56 : decode cX6_addRoad 56 = .ok (.iload_n 1, 1) := by decide +kernel
theorem dX6_addRoad_57 : decode cX6_addRoad 57 = .ok (.iload_n 2, 1) := by decide +kernel
theorem dX6_addRoad_58 : decode cX6_addRoad 58 = .ok (.iload_n 3, 1) := by decide +kernel
theorem dX6_addRoad_59 : decode cX6_addRoad 59 = .ok (.invokevirtual 138, 3) := by decide +kernel
theorem dX6_addRoad_62 : decode cX6_addRoad 62 = .ok (.aload_n 0, 1) := by decide +kernel
theorem dX6_addRoad_63 : decode cX6_addRoad 63 = .ok (.dup, 1) := by decide +kernel
theorem dX6_addRoad_64 : decode cX6_addRoad 64 = .ok (.getfield 30, 3) := by decide +kernel
theorem dX6_addRoad_67 : decode cX6_addRoad 67 = .ok (.iconst 1, 1) := by decide +kernel
theorem dX6_addRoad_68 : decode cX6_addRoad 68 = .ok (.iadd, 1) := by decide +kernel
theorem dX6_addRoad_69 : decode cX6_addRoad 69 = .ok (.putfield 30, 3) := by decide +kernel
theorem dX6_addRoad_72 : decode cX6_addRoad 72 = .ok (.aload_n 0, 1) := by decide +kernel
theorem dX6_addRoad_73 : decode cX6_addRoad 73 = .ok (.getfield 30, 3) := by decide +kernel
theorem dX6_addRoad_76 : decode cX6_addRoad 76 = .ok (.iconst 1, 1) := by decide +kernel
theorem dX6_addRoad_77 : decode cX6_addRoad 77 = .ok (.isub, 1) := by decide +kernel
theorem dX6_addRoad_78 : decode cX6_addRoad 78 = .ok (.ireturn, 1) := by decide +kernel
theorem dX6_changePrice_0 : decode cX6_changePrice 0 = .ok (.iload_n 1, 1) := by decide +kernel
theorem dX6_changePrice_1 : decode cX6_changePrice 1 = .ok (.invokestatic 135, 3) := by decide +kernel
theorem dX6_changePrice_4 : decode cX6_changePrice 4 = .ok (.ifCond .ne 5, 3) := by decide +kernel
theorem dX6_changePrice_7 : decode cX6_changePrice 7 = .ok (.iconst (-1), 1) := by decide +kernel
theorem dX6_changePrice_8 : decode cX6_changePrice 8 = .ok (.ireturn, 1) := by decide +kernel
theorem dX6_changePrice_9 : decode cX6_changePrice 9 = .ok (.iload_n 2, 1) := by decide +kernel
theorem dX6_changePrice_10 : decode cX6_changePrice 10 = .ok (.iconst 1, 1) := by decide +kernel
theorem dX6_changePrice_11 : decode cX6_changePrice 11 = .ok (.sipush 999, 3) := by decide +kernel
theorem dX6_changePrice_14 : decode cX6_changePrice 14 = .ok (.invokestatic 70, 3) := by decide +kernel
theorem dX6_changePrice_17 : decode cX6_changePrice 17 = .ok (.ifCond .eq 6, 3) := by decide +kernel
theorem dX6_changePrice_20 : decode cX6_changePrice 20 = .ok (.bipush (-2), 2) := by decide +kernel
theorem dX6_changePrice_22 : decode cX6_changePrice 22 = .ok (.ireturn, 1) := by decide +kernel
theorem dX6_changePrice_23 : decode cX6_changePrice 23 = .ok (.aload_n 0, 1) := by decide +kernel
theorem dX6_changePrice_24 : decode cX6_changePrice 24 = .ok (.getfield 15, 3) := by decide +kernel
theorem dX6_changePrice_27 : decode cX6_changePrice 27 = .ok (.iload_n 1, 1) := by decide +kernel
theorem dX6_changePrice_28 : decode cX6_changePrice 28 = .ok (.iaload, 1) := by decide +kernel
theorem dX6_changePrice_29 : decode cX6_changePrice 29 = .ok (.istore_n 3, 1) := by decide +kernel
theorem dX6_changePrice_30 : decode cX6_changePrice 30 = .ok (.aload_n 0, 1) := by decide +kernel
theorem dX6_changePrice_31 : decode cX6_changePrice 31 = .ok (.getfield 15, 3) := by decide +kernel
theorem dX6_changePrice_34 : decode cX6_changePrice 34 = .ok (.iload_n 1, 1) := by decide +kernel
theorem dX6_changePrice_35 : decode cX6_changePrice 35 = .ok (.iload_n 2, 1) := by decide +kernel
theorem dX6_changePrice_36 : decode cX6_changePrice 36 = .ok (.iastore, 1) := by decide +kernel
theorem dX6_changePrice_37 : decode cX6_changePrice 37 = .ok (.iload_n 3, 1) := by decide +kernel
theorem dX6_changePrice_38 : decode cX6_changePrice 38 = .ok (.ireturn, 1) := by decide +kernel
theorem dX6_changeGuards_0 : decode cX6_changeGuards 0 = .ok (.aload_n 0, 1) := by decide +kernel
theorem dX6_changeGuards_1 : decode cX6_changeGuards 1 = .ok (.iload_n 1, 1) := by decide +kernel
theorem dX6_changeGuards_2 : decode cX6_changeGuards 2 = .ok (.invokevirtual 142, 3) := by decide +kernel
theorem dX6_changeGuards_5 : decode cX6_changeGuards 5 = .ok (.ifCond .ne 5, 3) := by decide +kernel
theorem dX6_changeGuards_8 : decode cX6_changeGuards 8 = .ok (.iconst (-1), 1) := by decide +kernel
theorem dX6_changeGuards_9 : decode cX6_changeGuards 9 = .ok (.ireturn, 1) := by decide +kernel
theorem dX6_changeGuards_10 : decode cX6_changeGuards 10 = .ok (.iload_n 2, 1) := by decide +kernel
theorem dX6_changeGuards_11 : decode cX6_changeGuards 11 = .ok (.iconst 0, 1) := by decide +kernel
theorem dX6_changeGuards_12 : decode cX6_changeGuards 12 = .ok (.bipush 40, 2) := by decide +kernel
theorem dX6_changeGuards_14 : decode cX6_changeGuards 14 = .ok (.invokestatic 70, 3) := by decide +kernel
theorem dX6_changeGuards_17 : decode cX6_changeGuards 17 = .ok (.ifCond .eq 6, 3) := by decide +kernel
theorem dX6_changeGuards_20 : decode cX6_changeGuards 20 = .ok (.bipush (-2), 2) := by decide +kernel
theorem dX6_changeGuards_22 : decode cX6_changeGuards 22 = .ok (.ireturn, 1) := by decide +kernel
theorem dX6_changeGuards_23 : decode cX6_changeGuards 23 = .ok (.aload_n 0, 1) := by decide +kernel
theorem dX6_changeGuards_24 : decode cX6_changeGuards 24 = .ok (.getfield 20, 3) := by decide +kernel
theorem dX6_changeGuards_27 : decode cX6_changeGuards 27 = .ok (.iload_n 1, 1) := by decide +kernel
theorem dX6_changeGuards_28 : decode cX6_changeGuards 28 = .ok (.aaload, 1) := by decide +kernel
theorem dX6_changeGuards_29 : decode cX6_changeGuards 29 = .ok (.getfield 81, 3) := by decide +kernel
theorem dX6_changeGuards_32 : decode cX6_changeGuards 32 = .ok (.istore_n 3, 1) := by decide +kernel
theorem dX6_changeGuards_33 : decode cX6_changeGuards 33 = .ok (.aload_n 0, 1) := by decide +kernel
theorem dX6_changeGuards_34 : decode cX6_changeGuards 34 = .ok (.invokevirtual 131, 3) := by decide +kernel
theorem dX6_changeGuards_37 : decode cX6_changeGuards 37 = .ok (.iload_n 3, 1) := by decide +kernel
theorem dX6_changeGuards_38 : decode cX6_changeGuards 38 = .ok (.isub, 1) := by decide +kernel
theorem dX6_changeGuards_39 : decode cX6_changeGuards 39 = .ok (.iload_n 2, 1) := by decide +kernel
theorem dX6_changeGuards_40 : decode cX6_changeGuards 40 = .ok (.iadd, 1) := by decide +kernel
theorem dX6_changeGuards_41 : decode cX6_changeGuards 41 = .ok (.aload_n 0, 1) := by decide +kernel
theorem dX6_changeGuards_42 : decode cX6_changeGuards 42 = .ok (.getfield 9, 3) := by decide +kernel
theorem dX6_changeGuards_45 : decode cX6_changeGuards 45 = .ok (.iconst 3, 1) := by decide +kernel
theorem dX6_changeGuards_46 : decode cX6_changeGuards 46 = .ok (.iaload, 1) := by decide +kernel
theorem dX6_changeGuards_47 : decode cX6_changeGuards 47 = .ok (.if_icmp .le 6, 3) := by decide +kernel
theorem dX6_changeGuards_50 : decode cX6_changeGuards 50 = .ok (.bipush (-5), 2) := by decide +kernel
theorem dX6_changeGuards_52 : decode cX6_changeGuards 52 = .ok (.ireturn, 1) := by decide +kernel
theorem dX6_changeGuards_53 : decode cX6_changeGuards 53 = .ok (.aload_n 0, 1) := by decide +kernel
theorem dX6_changeGuards_54 : decode cX6_changeGuards 54 = .ok (.getfield 20, 3) := by decide +kernel
theorem dX6_changeGuards_57 : decode cX6_changeGuards 57 = .ok (.iload_n 1, 1) := by decide +kernel
theorem dX6_changeGuards_58 : decode cX6_changeGuards 58 = .ok (.aaload, 1) := by decide +kernel
theorem dX6_changeGuards_59 : decode cX6_changeGuards 59 = .ok (.iload_n 2, 1) := by decide +kernel
theorem dX6_changeGuards_60 : decode cX6_changeGuards 60 = .ok (.putfield 81, 3) := by decide +kernel
theorem dX6_changeGuards_63 : decode cX6_changeGuards 63 = .ok (.iload_n 3, 1) := by decide +kernel
theorem dX6_changeGuards_64 : decode cX6_changeGuards 64 = .ok (.ireturn, 1) := by decide +kernel
theorem dX6_changeToll_0 : decode cX6_changeToll 0 = .ok (.aload_n 0, 1) := by decide +kernel
theorem dX6_changeToll_1 : decode cX6_changeToll 1 = .ok (.iload_n 1, 1) := by decide +kernel
theorem dX6_changeToll_2 : decode cX6_changeToll 2 = .ok (.invokevirtual 142, 3) := by decide +kernel
theorem dX6_changeToll_5 : decode cX6_changeToll 5 = .ok (.ifCond .ne 5, 3) := by decide +kernel
theorem dX6_changeToll_8 : decode cX6_changeToll 8 = .ok (.iconst (-1), 1) := by decide +kernel
theorem dX6_changeToll_9 : decode cX6_changeToll 9 = .ok (.ireturn, 1) := by decide +kernel
theorem dX6_changeToll_10 : decode cX6_changeToll 10 = .ok (.iload_n 2, 1) := by decide +kernel
theorem dX6_changeToll_11 : decode cX6_changeToll 11 = .ok (.iconst 0, 1) := by decide +kernel
theorem dX6_changeToll_12 : decode cX6_changeToll 12 = .ok (.sipush 200, 3) := by decide +kernel
theorem dX6_changeToll_15 : decode cX6_changeToll 15 = .ok (.invokestatic 70, 3) := by decide +kernel
theorem dX6_changeToll_18 : decode cX6_changeToll 18 = .ok (.ifCond .eq 6, 3) := by decide +kernel
theorem dX6_changeToll_21 : decode cX6_changeToll 21 = .ok (.bipush (-2), 2) := by decide +kernel
theorem dX6_changeToll_23 : decode cX6_changeToll 23 = .ok (.ireturn, 1) := by decide +kernel
theorem dX6_changeToll_24 : decode cX6_changeToll 24 = .ok (.aload_n 0, 1) := by decide +kernel
theorem dX6_changeToll_25 : decode cX6_changeToll 25 = .ok (.getfield 20, 3) := by decide +kernel
theorem dX6_changeToll_28 : decode cX6_changeToll 28 = .ok (.iload_n 1, 1) := by decide +kernel
theorem dX6_changeToll_29 : decode cX6_changeToll 29 = .ok (.aaload, 1) := by decide +kernel
theorem dX6_changeToll_30 : decode cX6_changeToll 30 = .ok (.getfield 100, 3) := by decide +kernel
theorem dX6_changeToll_33 : decode cX6_changeToll 33 = .ok (.istore_n 3, 1) := by decide +kernel
theorem dX6_changeToll_34 : decode cX6_changeToll 34 = .ok (.aload_n 0, 1) := by decide +kernel
theorem dX6_changeToll_35 : decode cX6_changeToll 35 = .ok (.getfield 20, 3) := by decide +kernel
theorem dX6_changeToll_38 : decode cX6_changeToll 38 = .ok (.iload_n 1, 1) := by decide +kernel
theorem dX6_changeToll_39 : decode cX6_changeToll 39 = .ok (.aaload, 1) := by decide +kernel
theorem dX6_changeToll_40 : decode cX6_changeToll 40 = .ok (.iload_n 2, 1) := by decide +kernel
theorem dX6_changeToll_41 : decode cX6_changeToll 41 = .ok (.putfield 100, 3) := by decide +kernel
theorem dX6_changeToll_44 : decode cX6_changeToll 44 = .ok (.iload_n 3, 1) := by decide +kernel
theorem dX6_changeToll_45 : decode cX6_changeToll 45 = .ok (.ireturn, 1) := by decide +kernel
theorem dX6_addCart_0 : decode cX6_addCart 0 = .ok (.iload_n 1, 1) := by decide +kernel
theorem dX6_addCart_1 : decode cX6_addCart 1 = .ok (.invokestatic 135, 3) := by decide +kernel
theorem dX6_addCart_4 : decode cX6_addCart 4 = .ok (.ifCond .ne 5, 3) := by decide +kernel
theorem dX6_addCart_7 : decode cX6_addCart 7 = .ok (.iconst (-1), 1) := by decide +kernel
theorem dX6_addCart_8 : decode cX6_addCart 8 = .ok (.ireturn, 1) := by decide +kernel
theorem dX6_addCart_9 : decode cX6_addCart 9 = .ok (.iload_n 2, 1) := by decide +kernel
theorem dX6_addCart_10 : decode cX6_addCart 10 = .ok (.iconst 0, 1) := by decide +kernel
theorem dX6_addCart_11 : decode cX6_addCart 11 = .ok (.ldc 145, 2) := by decide +kernel
theorem dX6_addCart_13 : decode cX6_addCart 13 = .ok (.invokestatic 70, 3) := by decide +kernel
theorem dX6_addCart_16 : decode cX6_addCart 16 = .ok (.ifCond .eq 6, 3) := by decide +kernel
theorem dX6_addCart_19 : decode cX6_addCart 19 = .ok (.bipush (-2), 2) := by decide +kernel
theorem dX6_addCart_21 : decode cX6_addCart 21 = .ok (.ireturn, 1) := by decide +kernel
theorem dX6_addCart_22 : decode cX6_addCart 22 = .ok (.aload_n 0, 1) := by decide +kernel
theorem dX6_addCart_23 : decode cX6_addCart 23 = .ok (.getfield 34, 3) := by decide +kernel
theorem dX6_addCart_26 : decode cX6_addCart 26 = .ok (.bipush 6, 2) := by decide +kernel
theorem dX6_addCart_28 : decode cX6_addCart 28 = .ok (.if_icmp .lt 6, 3) := by decide +kernel
theorem dX6_addCart_31 : decode cX6_addCart 31 = .ok (.bipush (-4), 2) := by decide +kernel
theorem dX6_addCart_33 : decode cX6_addCart 33 = .ok (.ireturn, 1) := by decide +kernel
theorem dX6_addCart_34 : decode cX6_addCart 34 = .ok (.aload_n 0, 1) := by decide +kernel
theorem dX6_addCart_35 : decode cX6_addCart 35 = .ok (.getfield 26, 3) := by decide +kernel
theorem dX6_addCart_38 : decode cX6_addCart 38 = .ok (.aload_n 0, 1) := by decide +kernel
theorem dX6_addCart_39 : decode cX6_addCart 39 = .ok (.getfield 34, 3) := by decide +kernel
theorem dX6_addCart_42 : decode cX6_addCart 42 = .ok (.aaload, 1) := by decide +kernel
theorem dX6_addCart_43 : decode cX6_addCart 43 = .ok (.iload_n 1, 1) := by decide +kernel
theorem dX6_addCart_44 : decode cX6_addCart 44 = .ok (.iload_n 2, 1) := by decide +kernel
theorem dX6_addCart_45 : decode cX6_addCart 45 = .ok (.invokevirtual 146, 3) := by decide +kernel
theorem dX6_addCart_48 : decode cX6_addCart 48 = .ok (.aload_n 0, 1) := by decide +kernel
theorem dX6_addCart_49 : decode cX6_addCart 49 = .ok (.dup, 1) := by decide +kernel
theorem dX6_addCart_50 : decode cX6_addCart 50 = .ok (.getfield 34, 3) := by decide +kernel
theorem dX6_addCart_53 : decode cX6_addCart 53 = .ok (.iconst 1, 1) := by decide +kernel
theorem dX6_addCart_54 : decode cX6_addCart 54 = .ok (.iadd, 1) := by decide +kernel
theorem dX6_addCart_55 : decode cX6_addCart 55 = .ok (.putfield 34, 3) := by decide +kernel
theorem dX6_addCart_58 : decode cX6_addCart 58 = .ok (.aload_n 0, 1) := by decide +kernel
theorem dX6_addCart_59 : decode cX6_addCart 59 = .ok (.dup, 1) := by decide +kernel
theorem dX6_addCart_60 : decode cX6_addCart 60 = .ok (.getfield 49, 3) := by decide +kernel
theorem dX6_addCart_63 : decode cX6_addCart 63 = .ok (.iload_n 2, 1) := by decide +kernel
theorem dX6_addCart_64 : decode cX6_addCart 64 = .ok (.iadd, 1) := by decide +kernel
theorem dX6_addCart_65 : decode cX6_addCart 65 = .ok (.putfield 49, 3) := by decide +kernel
theorem dX6_addCart_68 : decode cX6_addCart 68 = .ok (.aload_n 0, 1) := by decide +kernel
theorem dX6_addCart_69 : decode cX6_addCart 69 = .ok (.getfield 34, 3) := by decide +kernel
theorem dX6_addCart_72 : decode cX6_addCart 72 = .ok (.iconst 1, 1) := by decide +kernel
theorem dX6_addCart_73 : decode cX6_addCart 73 = .ok (.isub, 1) := by decide +kernel
theorem dX6_addCart_74 : decode cX6_addCart 74 = .ok (.ireturn, 1) := by decide +kernel
theorem dX6_buySacks_0 : decode cX6_buySacks 0 = .ok (.aload_n 0, 1) := by decide +kernel
theorem dX6_buySacks_1 : decode cX6_buySacks 1 = .ok (.iload_n 1, 1) := by decide +kernel
theorem dX6_buySacks_2 : decode cX6_buySacks 2 = .ok (.invokevirtual 149, 3) := by decide +kernel
theorem dX6_buySacks_5 : decode cX6_buySacks 5 = .ok (.ifCond .ne 5, 3) := by decide +kernel
theorem dX6_buySacks_8 : decode cX6_buySacks 8 = .ok (.iconst (-1), 1) := by decide +kernel
theorem dX6_buySacks_9 : decode cX6_buySacks 9 = .ok (.ireturn, 1) := by decide +kernel
theorem dX6_buySacks_10 : decode cX6_buySacks 10 = .ok (.iload_n 2, 1) := by decide +kernel
theorem dX6_buySacks_11 : decode cX6_buySacks 11 = .ok (.iconst 1, 1) := by decide +kernel
theorem dX6_buySacks_12 : decode cX6_buySacks 12 = .ok (.bipush 99, 2) := by decide +kernel
theorem dX6_buySacks_14 : decode cX6_buySacks 14 = .ok (.invokestatic 70, 3) := by decide +kernel
theorem dX6_buySacks_17 : decode cX6_buySacks 17 = .ok (.ifCond .eq 6, 3) := by decide +kernel
theorem dX6_buySacks_20 : decode cX6_buySacks 20 = .ok (.bipush (-2), 2) := by decide +kernel
theorem dX6_buySacks_22 : decode cX6_buySacks 22 = .ok (.ireturn, 1) := by decide +kernel
theorem dX6_buySacks_23 : decode cX6_buySacks 23 = .ok (.aload_n 0, 1) := by decide +kernel
theorem dX6_buySacks_24 : decode cX6_buySacks 24 = .ok (.getfield 26, 3) := by decide +kernel
theorem dX6_buySacks_27 : decode cX6_buySacks 27 = .ok (.iload_n 1, 1) := by decide +kernel
theorem dX6_buySacks_28 : decode cX6_buySacks 28 = .ok (.aaload, 1) := by decide +kernel
theorem dX6_buySacks_29 : decode cX6_buySacks 29 = .ok (.astore_n 3, 1) := by decide +kernel
theorem dX6_buySacks_30 : decode cX6_buySacks 30 = .ok (.iload_n 2, 1) := by decide +kernel
theorem dX6_buySacks_31 : decode cX6_buySacks 31 = .ok (.aload_n 0, 1) := by decide +kernel
theorem dX6_buySacks_32 : decode cX6_buySacks 32 = .ok (.getfield 15, 3) := by decide +kernel
theorem dX6_buySacks_35 : decode cX6_buySacks 35 = .ok (.aload_n 3, 1) := by decide +kernel
theorem dX6_buySacks_36 : decode cX6_buySacks 36 = .ok (.getfield 78, 3) := by decide +kernel
theorem dX6_buySacks_39 : decode cX6_buySacks 39 = .ok (.iaload, 1) := by decide +kernel
theorem dX6_buySacks_40 : decode cX6_buySacks 40 = .ok (.imul, 1) := by decide +kernel
theorem dX6_buySacks_41 : decode cX6_buySacks 41 = .ok (.istore 4, 2) := by decide +kernel
theorem dX6_buySacks_43 : decode cX6_buySacks 43 = .ok (.iload 4, 2) := by decide +kernel
theorem dX6_buySacks_45 : decode cX6_buySacks 45 = .ok (.aload_n 3, 1) := by decide +kernel
theorem dX6_buySacks_46 : decode cX6_buySacks 46 = .ok (.getfield 87, 3) := by decide +kernel
theorem dX6_buySacks_49 : decode cX6_buySacks 49 = .ok (.if_icmp .le 6, 3) := by decide +kernel
theorem dX6_buySacks_52 : decode cX6_buySacks 52 = .ok (.bipush (-5), 2) := by decide +kernel
theorem dX6_buySacks_54 : decode cX6_buySacks 54 = .ok (.ireturn, 1) := by decide +kernel
theorem dX6_buySacks_55 : decode cX6_buySacks 55 = .ok (.aload_n 3, 1) := by decide +kernel
theorem dX6_buySacks_56 : decode cX6_buySacks 56 = .ok (.getfield 84, 3) := by decide +kernel
theorem dX6_buySacks_59 : decode cX6_buySacks 59 = .ok (.iload_n 2, 1) := by decide +kernel
theorem dX6_buySacks_60 : decode cX6_buySacks 60 = .ok (.iadd, 1) := by decide +kernel
theorem dX6_buySacks_61 : decode cX6_buySacks 61 = .ok (.bipush 99, 2) := by decide +kernel
theorem dX6_buySacks_63 : decode cX6_buySacks 63 = .ok (.if_icmp .le 6, 3) := by decide +kernel
theorem dX6_buySacks_66 : decode cX6_buySacks 66 = .ok (.bipush (-4), 2) := by decide +kernel
theorem dX6_buySacks_68 : decode cX6_buySacks 68 = .ok (.ireturn, 1) := by decide +kernel
theorem dX6_buySacks_69 : decode cX6_buySacks 69 = .ok (.aload_n 3, 1) := by decide +kernel
theorem dX6_buySacks_70 : decode cX6_buySacks 70 = .ok (.dup, 1) := by decide +kernel
theorem dX6_buySacks_71 : decode cX6_buySacks 71 = .ok (.getfield 87, 3) := by decide +kernel
theorem dX6_buySacks_74 : decode cX6_buySacks 74 = .ok (.iload 4, 2) := by decide +kernel
theorem dX6_buySacks_76 : decode cX6_buySacks 76 = .ok (.isub, 1) := by decide +kernel
theorem dX6_buySacks_77 : decode cX6_buySacks 77 = .ok (.putfield 87, 3) := by decide +kernel
theorem dX6_buySacks_80 : decode cX6_buySacks 80 = .ok (.aload_n 3, 1) := by decide +kernel
theorem dX6_buySacks_81 : decode cX6_buySacks 81 = .ok (.dup, 1) := by decide +kernel
theorem dX6_buySacks_82 : decode cX6_buySacks 82 = .ok (.getfield 152, 3) := by decide +kernel
theorem dX6_buySacks_85 : decode cX6_buySacks 85 = .ok (.iload 4, 2) := by decide +kernel
theorem dX6_buySacks_87 : decode cX6_buySacks 87 = .ok (.iadd, 1) := by decide +kernel
theorem dX6_buySacks_88 : decode cX6_buySacks 88 = .ok (.putfield 152, 3) := by decide +kernel
theorem dX6_buySacks_91 : decode cX6_buySacks 91 = .ok (.aload_n 3, 1) := by decide +kernel
theorem dX6_buySacks_92 : decode cX6_buySacks 92 = .ok (.dup, 1) := by decide +kernel
theorem dX6_buySacks_93 : decode cX6_buySacks 93 = .ok (.getfield 84, 3) := by decide +kernel
theorem dX6_buySacks_96 : decode cX6_buySacks 96 = .ok (.iload_n 2, 1) := by decide +kernel
theorem dX6_buySacks_97 : decode cX6_buySacks 97 = .ok (.iadd, 1) := by decide +kernel
theorem dX6_buySacks_98 : decode cX6_buySacks 98 = .ok (.putfield 84, 3) := by decide +kernel
theorem dX6_buySacks_101 : decode cX6_buySacks 101 = .ok (.aload_n 0, 1) := by decide +kernel
theorem dX6_buySacks_102 : decode cX6_buySacks 102 = .ok (.dup, 1) := by decide +kernel
theorem dX6_buySacks_103 : decode cX6_buySacks 103 = .ok (.getfield 40, 3) := by decide +kernel
theorem dX6_buySacks_106 : decode cX6_buySacks 106 = .ok (.iload_n 2, 1) := by decide +kernel
theorem dX6_buySacks_107 : decode cX6_buySacks 107 = .ok (.iadd, 1) := by decide +kernel
theorem dX6_buySacks_108 : decode cX6_buySacks 108 = .ok (.putfield 40, 3) := by decide +kernel
theorem dX6_buySacks_111 : decode cX6_buySacks 111 = .ok (.aload_n 3, 1) := by decide +kernel
theorem dX6_buySacks_112 : decode cX6_buySacks 112 = .ok (.getfield 87, 3) := by decide +kernel
theorem dX6_buySacks_115 : decode cX6_buySacks 115 = .ok (.ireturn, 1) := by decide +kernel
theorem dX6_sellSacks_0 : decode cX6_sellSacks 0 = .ok (.aload_n 0, 1) := by decide +kernel
theorem dX6_sellSacks_1 : decode cX6_sellSacks 1 = .ok (.iload_n 1, 1) := by decide +kernel
theorem dX6_sellSacks_2 : decode cX6_sellSacks 2 = .ok (.invokevirtual 149, 3) := by decide +kernel
theorem dX6_sellSacks_5 : decode cX6_sellSacks 5 = .ok (.ifCond .ne 5, 3) := by decide +kernel
theorem dX6_sellSacks_8 : decode cX6_sellSacks 8 = .ok (.iconst (-1), 1) := by decide +kernel
theorem dX6_sellSacks_9 : decode cX6_sellSacks 9 = .ok (.ireturn, 1) := by decide +kernel
theorem dX6_sellSacks_10 : decode cX6_sellSacks 10 = .ok (.iload_n 2, 1) := by decide +kernel
theorem dX6_sellSacks_11 : decode cX6_sellSacks 11 = .ok (.iconst 1, 1) := by decide +kernel
theorem dX6_sellSacks_12 : decode cX6_sellSacks 12 = .ok (.bipush 99, 2) := by decide +kernel
theorem dX6_sellSacks_14 : decode cX6_sellSacks 14 = .ok (.invokestatic 70, 3) := by decide +kernel
theorem dX6_sellSacks_17 : decode cX6_sellSacks 17 = .ok (.ifCond .eq 6, 3) := by decide +kernel
theorem dX6_sellSacks_20 : decode cX6_sellSacks 20 = .ok (.bipush (-2), 2) := by decide +kernel
theorem dX6_sellSacks_22 : decode cX6_sellSacks 22 = .ok (.ireturn, 1) := by decide +kernel
theorem dX6_sellSacks_23 : decode cX6_sellSacks 23 = .ok (.aload_n 0, 1) := by decide +kernel
theorem dX6_sellSacks_24 : decode cX6_sellSacks 24 = .ok (.getfield 26, 3) := by decide +kernel
theorem dX6_sellSacks_27 : decode cX6_sellSacks 27 = .ok (.iload_n 1, 1) := by decide +kernel
theorem dX6_sellSacks_28 : decode cX6_sellSacks 28 = .ok (.aaload, 1) := by decide +kernel
theorem dX6_sellSacks_29 : decode cX6_sellSacks 29 = .ok (.astore_n 3, 1) := by decide +kernel
theorem dX6_sellSacks_30 : decode cX6_sellSacks 30 = .ok (.iload_n 2, 1) := by decide +kernel
theorem dX6_sellSacks_31 : decode cX6_sellSacks 31 = .ok (.aload_n 3, 1) := by decide +kernel
theorem dX6_sellSacks_32 : decode cX6_sellSacks 32 = .ok (.getfield 84, 3) := by decide +kernel
theorem dX6_sellSacks_35 : decode cX6_sellSacks 35 = .ok (.if_icmp .le 6, 3) := by decide +kernel
theorem dX6_sellSacks_38 : decode cX6_sellSacks 38 = .ok (.bipush (-5), 2) := by decide +kernel
theorem dX6_sellSacks_40 : decode cX6_sellSacks 40 = .ok (.ireturn, 1) := by decide +kernel
theorem dX6_sellSacks_41 : decode cX6_sellSacks 41 = .ok (.iload_n 2, 1) := by decide +kernel
theorem dX6_sellSacks_42 : decode cX6_sellSacks 42 = .ok (.aload_n 0, 1) := by decide +kernel
theorem dX6_sellSacks_43 : decode cX6_sellSacks 43 = .ok (.getfield 15, 3) := by decide +kernel
theorem dX6_sellSacks_46 : decode cX6_sellSacks 46 = .ok (.aload_n 3, 1) := by decide +kernel
theorem dX6_sellSacks_47 : decode cX6_sellSacks 47 = .ok (.getfield 78, 3) := by decide +kernel
theorem dX6_sellSacks_50 : decode cX6_sellSacks 50 = .ok (.iaload, 1) := by decide +kernel
theorem dX6_sellSacks_51 : decode cX6_sellSacks 51 = .ok (.imul, 1) := by decide +kernel
theorem dX6_sellSacks_52 : decode cX6_sellSacks 52 = .ok (.istore 4, 2) := by decide +kernel
theorem dX6_sellSacks_54 : decode cX6_sellSacks 54 = .ok (.aload_n 3, 1) := by decide +kernel
theorem dX6_sellSacks_55 : decode cX6_sellSacks 55 = .ok (.getfield 87, 3) := by decide +kernel
theorem dX6_sellSacks_58 : decode cX6_sellSacks 58 = .ok (.iload 4, 2) := by decide +kernel
theorem dX6_sellSacks_60 : decode cX6_sellSacks 60 = .ok (.iadd, 1) := by decide +kernel
theorem dX6_sellSacks_61 : decode cX6_sellSacks 61 = .ok (.ldc 145, 2) := by decide +kernel
theorem dX6_sellSacks_63 : decode cX6_sellSacks 63 = .ok (.if_icmp .le 6, 3) := by decide +kernel
theorem dX6_sellSacks_66 : decode cX6_sellSacks 66 = .ok (.bipush (-4), 2) := by decide +kernel
theorem dX6_sellSacks_68 : decode cX6_sellSacks 68 = .ok (.ireturn, 1) := by decide +kernel
theorem dX6_sellSacks_69 : decode cX6_sellSacks 69 = .ok (.aload_n 3, 1) := by decide +kernel
theorem dX6_sellSacks_70 : decode cX6_sellSacks 70 = .ok (.dup, 1) := by decide +kernel
theorem dX6_sellSacks_71 : decode cX6_sellSacks 71 = .ok (.getfield 87, 3) := by decide +kernel
theorem dX6_sellSacks_74 : decode cX6_sellSacks 74 = .ok (.iload 4, 2) := by decide +kernel
theorem dX6_sellSacks_76 : decode cX6_sellSacks 76 = .ok (.iadd, 1) := by decide +kernel
theorem dX6_sellSacks_77 : decode cX6_sellSacks 77 = .ok (.putfield 87, 3) := by decide +kernel
theorem dX6_sellSacks_80 : decode cX6_sellSacks 80 = .ok (.aload_n 3, 1) := by decide +kernel
theorem dX6_sellSacks_81 : decode cX6_sellSacks 81 = .ok (.dup, 1) := by decide +kernel
theorem dX6_sellSacks_82 : decode cX6_sellSacks 82 = .ok (.getfield 155, 3) := by decide +kernel
theorem dX6_sellSacks_85 : decode cX6_sellSacks 85 = .ok (.iload 4, 2) := by decide +kernel
theorem dX6_sellSacks_87 : decode cX6_sellSacks 87 = .ok (.iadd, 1) := by decide +kernel
theorem dX6_sellSacks_88 : decode cX6_sellSacks 88 = .ok (.putfield 155, 3) := by decide +kernel
theorem dX6_sellSacks_91 : decode cX6_sellSacks 91 = .ok (.aload_n 3, 1) := by decide +kernel
theorem dX6_sellSacks_92 : decode cX6_sellSacks 92 = .ok (.dup, 1) := by decide +kernel
theorem dX6_sellSacks_93 : decode cX6_sellSacks 93 = .ok (.getfield 84, 3) := by decide +kernel
theorem dX6_sellSacks_96 : decode cX6_sellSacks 96 = .ok (.iload_n 2, 1) := by decide +kernel
theorem dX6_sellSacks_97 : decode cX6_sellSacks 97 = .ok (.isub, 1) := by decide +kernel
theorem dX6_sellSacks_98 : decode cX6_sellSacks 98 = .ok (.putfield 84, 3) := by decide +kernel
theorem dX6_sellSacks_101 : decode cX6_sellSacks 101 = .ok (.aload_n 0, 1) := by decide +kernel
theorem dX6_sellSacks_102 : decode cX6_sellSacks 102 = .ok (.dup, 1) := by decide +kernel
theorem dX6_sellSacks_103 : decode cX6_sellSacks 103 = .ok (.getfield 43, 3) := by decide +kernel
theorem dX6_sellSacks_106 : decode cX6_sellSacks 106 = .ok (.iload_n 2, 1) := by decide +kernel
theorem dX6_sellSacks_107 : decode cX6_sellSacks 107 = .ok (.iadd, 1) := by decide +kernel
theorem dX6_sellSacks_108 : decode cX6_sellSacks 108 = .ok (.putfield 43, 3) := by decide +kernel
theorem dX6_sellSacks_111 : decode cX6_sellSacks 111 = .ok (.aload_n 3, 1) := by decide +kernel
theorem dX6_sellSacks_112 : decode cX6_sellSacks 112 = .ok (.getfield 87, 3) := by decide +kernel
theorem dX6_sellSacks_115 : decode cX6_sellSacks 115 = .ok (.ireturn, 1) := by decide +kernel
theorem dX6_drive_0 : decode cX6_drive 0 = .ok (.aload_n 0, 1) := by decide +kernel
theorem dX6_drive_1 : decode cX6_drive 1 = .ok (.iload_n 1, 1) := by decide +kernel
theorem dX6_drive_2 : decode cX6_drive 2 = .ok (.invokevirtual 149, 3) := by decide +kernel
theorem dX6_drive_5 : decode cX6_drive 5 = .ok (.ifCond .eq 11, 3) := by decide +kernel
theorem dX6_drive_8 : decode cX6_drive 8 = .ok (.aload_n 0, 1) := by decide +kernel
theorem dX6_drive_9 : decode cX6_drive 9 = .ok (.iload_n 2, 1) := by decide +kernel
theorem dX6_drive_10 : decode cX6_drive 10 = .ok (.invokevirtual 142, 3) := by decide +kernel
theorem dX6_drive_13 : decode cX6_drive 13 = .ok (.ifCond .ne 5, 3) := by decide +kernel
theorem dX6_drive_16 : decode cX6_drive 16 = .ok (.iconst (-1), 1) := by decide +kernel
theorem dX6_drive_17 : decode cX6_drive 17 = .ok (.ireturn, 1) := by decide +kernel
theorem dX6_drive_18 : decode cX6_drive 18 = .ok (.iload_n 3, 1) := by decide +kernel
theorem dX6_drive_19 : decode cX6_drive 19 = .ok (.iconst 0, 1) := by decide +kernel
theorem dX6_drive_20 : decode cX6_drive 20 = .ok (.iconst 1, 1) := by decide +kernel
theorem dX6_drive_21 : decode cX6_drive 21 = .ok (.invokestatic 70, 3) := by decide +kernel
theorem dX6_drive_24 : decode cX6_drive 24 = .ok (.ifCond .eq 6, 3) := by decide +kernel
theorem dX6_drive_27 : decode cX6_drive 27 = .ok (.bipush (-2), 2) := by decide +kernel
theorem dX6_drive_29 : decode cX6_drive 29 = .ok (.ireturn, 1) := by decide +kernel
theorem dX6_drive_30 : decode cX6_drive 30 = .ok (.aload_n 0, 1) := by decide +kernel
theorem dX6_drive_31 : decode cX6_drive 31 = .ok (.getfield 26, 3) := by decide +kernel
theorem dX6_drive_34 : decode cX6_drive 34 = .ok (.iload_n 1, 1) := by decide +kernel
theorem dX6_drive_35 : decode cX6_drive 35 = .ok (.aaload, 1) := by decide +kernel
theorem dX6_drive_36 : decode cX6_drive 36 = .ok (.astore 4, 2) := by decide +kernel
theorem dX6_drive_38 : decode cX6_drive 38 = .ok (.aload_n 0, 1) := by decide +kernel
theorem dX6_drive_39 : decode cX6_drive 39 = .ok (.getfield 20, 3) := by decide +kernel
theorem dX6_drive_42 : decode cX6_drive 42 = .ok (.iload_n 2, 1) := by decide +kernel
theorem dX6_drive_43 : decode cX6_drive 43 = .ok (.aaload, 1) := by decide +kernel
theorem dX6_drive_44 : decode cX6_drive 44 = .ok (.astore 5, 2) := by decide +kernel
theorem dX6_drive_46 : decode cX6_drive 46 = .ok (.aload 5, 2) := by decide +kernel
theorem dX6_drive_48 : decode cX6_drive 48 = .ok (.aload 4, 2) := by decide +kernel
theorem dX6_drive_50 : decode cX6_drive 50 = .ok (.getfield 78, 3) := by decide +kernel
theorem dX6_drive_53 : decode cX6_drive 53 = .ok (.invokevirtual 74, 3) := by decide +kernel
theorem dX6_drive_56 : decode cX6_drive 56 = .ok (.ifCond .ne 6, 3) := by decide +kernel
theorem dX6_drive_59 : decode cX6_drive 59 = .ok (.bipush (-5), 2) := by decide +kernel
theorem dX6_drive_61 : decode cX6_drive 61 = .ok (.ireturn, 1) := by decide +kernel
theorem dX6_drive_62 : decode cX6_drive 62 = .ok (.iload_n 3, 1) := by decide +kernel
theorem dX6_drive_63 : decode cX6_drive 63 = .ok (.ifCond .ne 25, 3) := by decide +kernel
theorem dX6_drive_66 : decode cX6_drive 66 = .ok (.aload 5, 2) := by decide +kernel
theorem dX6_drive_68 : decode cX6_drive 68 = .ok (.getfield 100, 3) := by decide +kernel
theorem dX6_drive_71 : decode cX6_drive 71 = .ok (.aload 4, 2) := by decide +kernel
theorem dX6_drive_73 : decode cX6_drive 73 = .ok (.getfield 84, 3) := by decide +kernel
theorem dX6_drive_76 : decode cX6_drive 76 = .ok (.imul, 1) := by decide +kernel
theorem dX6_drive_77 : decode cX6_drive 77 = .ok (.aload 4, 2) := by decide +kernel
theorem dX6_drive_79 : decode cX6_drive 79 = .ok (.getfield 87, 3) := by decide +kernel
theorem dX6_drive_82 : decode cX6_drive 82 = .ok (.if_icmp .le 6, 3) := by decide +kernel
theorem dX6_drive_85 : decode cX6_drive 85 = .ok (.bipush (-5), 2) := by decide +kernel
theorem dX6_drive_87 : decode cX6_drive 87 = .ok (.ireturn, 1) := by decide +kernel
theorem dX6_drive_88 : decode cX6_drive 88 = .ok (.iconst 0, 1) := by decide +kernel
theorem dX6_drive_89 : decode cX6_drive 89 = .ok (.istore 6, 2) := by decide +kernel
theorem dX6_drive_91 : decode cX6_drive 91 = .ok (.iload_n 3, 1) := by decide +kernel
theorem dX6_drive_92 : decode cX6_drive 92 = .ok (.iconst 1, 1) := by decide +kernel
theorem dX6_drive_93 : decode cX6_drive 93 = .ok (.if_icmp .ne 16, 3) := by decide +kernel
theorem dX6_drive_96 : decode cX6_drive 96 = .ok (.aload_n 0, 1) := by decide +kernel
theorem dX6_drive_97 : decode cX6_drive 97 = .ok (.aload 4, 2) := by decide +kernel
theorem dX6_drive_99 : decode cX6_drive 99 = .ok (.aload 5, 2) := by decide +kernel
theorem dX6_drive_101 : decode cX6_drive 101 = .ok (.invokevirtual 158, 3) := by decide +kernel
theorem dX6_drive_104 : decode cX6_drive 104 = .ok (.istore 6, 2) := by decide +kernel
theorem dX6_drive_106 : decode cX6_drive 106 = .ok (.goto 11, 3) := by decide +kernel
theorem dX6_drive_109 : decode cX6_drive 109 = .ok (.aload_n 0, 1) := by decide +kernel
theorem dX6_drive_110 : decode cX6_drive 110 = .ok (.aload 4, 2) := by decide +kernel
theorem dX6_drive_112 : decode cX6_drive 112 = .ok (.aload 5, 2) := by decide +kernel
theorem dX6_drive_114 : decode cX6_drive 114 = .ok (.invokevirtual 162, 3) := by decide +kernel
theorem dX6_drive_117 : decode cX6_drive 117 = .ok (.aload 4, 2) := by decide +kernel
theorem dX6_drive_119 : decode cX6_drive 119 = .ok (.aload 5, 2) := by decide +kernel
theorem dX6_drive_121 : decode cX6_drive 121 = .ok (.aload 4, 2) := by decide +kernel
theorem dX6_drive_123 : decode cX6_drive 123 = .ok (.getfield 78, 3) := by decide +kernel
theorem dX6_drive_126 : decode cX6_drive 126 = .ok (.invokevirtual 110, 3) := by decide +kernel
theorem dX6_drive_129 : decode cX6_drive 129 = .ok (.putfield 78, 3) := by decide +kernel
theorem dX6_drive_132 : decode cX6_drive 132 = .ok (.iload 6, 2) := by decide +kernel
theorem dX6_drive_134 : decode cX6_drive 134 = .ok (.ireturn, 1) := by decide +kernel
theorem dX6_payToll_0 : decode cX6_payToll 0 = .ok (.aload_n 2, 1) := by decide +kernel
theorem dX6_payToll_1 : decode cX6_payToll 1 = .ok (.getfield 100, 3) := by decide +kernel
theorem dX6_payToll_4 : decode cX6_payToll 4 = .ok (.aload_n 1, 1) := by decide +kernel
theorem dX6_payToll_5 : decode cX6_payToll 5 = .ok (.getfield 84, 3) := by decide +kernel
theorem dX6_payToll_8 : decode cX6_payToll 8 = .ok (.imul, 1) := by decide +kernel
theorem dX6_payToll_9 : decode cX6_payToll 9 = .ok (.istore_n 3, 1) := by decide +kernel
theorem dX6_payToll_10 : decode cX6_payToll 10 = .ok (.aload_n 1, 1) := by decide +kernel
theorem dX6_payToll_11 : decode cX6_payToll 11 = .ok (.dup, 1) := by decide +kernel
theorem dX6_payToll_12 : decode cX6_payToll 12 = .ok (.getfield 87, 3) := by decide +kernel
theorem dX6_payToll_15 : decode cX6_payToll 15 = .ok (.iload_n 3, 1) := by decide +kernel
theorem dX6_payToll_16 : decode cX6_payToll 16 = .ok (.isub, 1) := by decide +kernel
theorem dX6_payToll_17 : decode cX6_payToll 17 = .ok (.putfield 87, 3) := by decide +kernel
theorem dX6_payToll_20 : decode cX6_payToll 20 = .ok (.aload_n 1, 1) := by decide +kernel
theorem dX6_payToll_21 : decode cX6_payToll 21 = .ok (.dup, 1) := by decide +kernel
theorem dX6_payToll_22 : decode cX6_payToll 22 = .ok (.getfield 166, 3) := by decide +kernel
theorem dX6_payToll_25 : decode cX6_payToll 25 = .ok (.iload_n 3, 1) := by decide +kernel
theorem dX6_payToll_26 : decode cX6_payToll 26 = .ok (.iadd, 1) := by decide +kernel
theorem dX6_payToll_27 : decode cX6_payToll 27 = .ok (.putfield 166, 3) := by decide +kernel
theorem dX6_payToll_30 : decode cX6_payToll 30 = .ok (.aload_n 2, 1) := by decide +kernel
theorem dX6_payToll_31 : decode cX6_payToll 31 = .ok (.dup, 1) := by decide +kernel
theorem dX6_payToll_32 : decode cX6_payToll 32 = .ok (.getfield 169, 3) := by decide +kernel
theorem dX6_payToll_35 : decode cX6_payToll 35 = .ok (.iconst 1, 1) := by decide +kernel
theorem dX6_payToll_36 : decode cX6_payToll 36 = .ok (.iadd, 1) := by decide +kernel
theorem dX6_payToll_37 : decode cX6_payToll 37 = .ok (.putfield 169, 3) := by decide +kernel
theorem dX6_payToll_40 : decode cX6_payToll 40 = .ok (.return_, 1) := by decide +kernel
theorem dX6_sneak_0 : decode cX6_sneak 0 = .ok (.aload_n 2, 1) := by decide +kernel
theorem dX6_sneak_1 : decode cX6_sneak 1 = .ok (.dup, 1) := by decide +kernel
theorem dX6_sneak_2 : decode cX6_sneak 2 = .ok (.getfield 172, 3) := by decide +kernel
theorem dX6_sneak_5 : decode cX6_sneak 5 = .ok (.iconst 1, 1) := by decide +kernel
theorem dX6_sneak_6 : decode cX6_sneak 6 = .ok (.iadd, 1) := by decide +kernel
theorem dX6_sneak_7 : decode cX6_sneak 7 = .ok (.putfield 172, 3) := by decide +kernel
theorem dX6_sneak_10 : decode cX6_sneak 10 = .ok (.aload_n 1, 1) := by decide +kernel
theorem dX6_sneak_11 : decode cX6_sneak 11 = .ok (.getfield 84, 3) := by decide +kernel
theorem dX6_sneak_14 : decode cX6_sneak 14 = .ok (.ifCond .eq 15, 3) := by decide +kernel
theorem dX6_sneak_17 : decode cX6_sneak 17 = .ok (.aload_n 0, 1) := by decide +kernel
theorem dX6_sneak_18 : decode cX6_sneak 18 = .ok (.invokevirtual 175, 3) := by decide +kernel
theorem dX6_sneak_21 : decode cX6_sneak 21 = .ok (.aload_n 0, 1) := by decide +kernel
theorem dX6_sneak_22 : decode cX6_sneak 22 = .ok (.aload_n 2, 1) := by decide +kernel
theorem dX6_sneak_23 : decode cX6_sneak 23 = .ok (.invokevirtual 103, 3) := by decide +kernel
theorem dX6_sneak_26 : decode cX6_sneak 26 = .ok (.if_icmp .lt 5, 3) := by decide +kernel
theorem dX6_sneak_29 : decode cX6_sneak 29 = .ok (.iconst 0, 1) := by decide +kernel
theorem dX6_sneak_30 : decode cX6_sneak 30 = .ok (.ireturn, 1) := by decide +kernel
theorem dX6_sneak_31 : decode cX6_sneak 31 = .ok (.aload_n 0, 1) := by decide +kernel
theorem dX6_sneak_32 : decode cX6_sneak 32 = .ok (.aload_n 1, 1) := by decide +kernel
theorem dX6_sneak_33 : decode cX6_sneak 33 = .ok (.invokevirtual 178, 3) := by decide +kernel
theorem dX6_sneak_36 : decode cX6_sneak 36 = .ok (.istore_n 3, 1) := by decide +kernel
theorem dX6_sneak_37 : decode cX6_sneak 37 = .ok (.aload_n 1, 1) := by decide +kernel
theorem dX6_sneak_38 : decode cX6_sneak 38 = .ok (.getfield 84, 3) := by decide +kernel
theorem dX6_sneak_41 : decode cX6_sneak 41 = .ok (.istore 4, 2) := by decide +kernel
theorem dX6_sneak_43 : decode cX6_sneak 43 = .ok (.aload_n 1, 1) := by decide +kernel
theorem dX6_sneak_44 : decode cX6_sneak 44 = .ok (.dup, 1) := by decide +kernel
theorem dX6_sneak_45 : decode cX6_sneak 45 = .ok (.getfield 87, 3) := by decide +kernel
theorem dX6_sneak_48 : decode cX6_sneak 48 = .ok (.iload_n 3, 1) := by decide +kernel
theorem dX6_sneak_49 : decode cX6_sneak 49 = .ok (.isub, 1) := by decide +kernel
theorem dX6_sneak_50 : decode cX6_sneak 50 = .ok (.putfield 87, 3) := by decide +kernel
theorem dX6_sneak_53 : decode cX6_sneak 53 = .ok (.aload_n 1, 1) := by decide +kernel
theorem dX6_sneak_54 : decode cX6_sneak 54 = .ok (.dup, 1) := by decide +kernel
theorem dX6_sneak_55 : decode cX6_sneak 55 = .ok (.getfield 182, 3) := by decide +kernel
theorem dX6_sneak_58 : decode cX6_sneak 58 = .ok (.iload_n 3, 1) := by decide +kernel
theorem dX6_sneak_59 : decode cX6_sneak 59 = .ok (.iadd, 1) := by decide +kernel
theorem dX6_sneak_60 : decode cX6_sneak 60 = .ok (.putfield 182, 3) := by decide +kernel
theorem dX6_sneak_63 : decode cX6_sneak 63 = .ok (.aload_n 1, 1) := by decide +kernel
theorem dX6_sneak_64 : decode cX6_sneak 64 = .ok (.iconst 0, 1) := by decide +kernel
theorem dX6_sneak_65 : decode cX6_sneak 65 = .ok (.putfield 84, 3) := by decide +kernel
theorem dX6_sneak_68 : decode cX6_sneak 68 = .ok (.aload_n 1, 1) := by decide +kernel
theorem dX6_sneak_69 : decode cX6_sneak 69 = .ok (.dup, 1) := by decide +kernel
theorem dX6_sneak_70 : decode cX6_sneak 70 = .ok (.getfield 185, 3) := by decide +kernel
theorem dX6_sneak_73 : decode cX6_sneak 73 = .ok (.iload 4, 2) := by decide +kernel
theorem dX6_sneak_75 : decode cX6_sneak 75 = .ok (.iadd, 1) := by decide +kernel
theorem dX6_sneak_76 : decode cX6_sneak 76 = .ok (.putfield 185, 3) := by decide +kernel
theorem dX6_sneak_79 : decode cX6_sneak 79 = .ok (.aload_n 0, 1) := by decide +kernel
theorem dX6_sneak_80 : decode cX6_sneak 80 = .ok (.dup, 1) := by decide +kernel
theorem dX6_sneak_81 : decode cX6_sneak 81 = .ok (.getfield 46, 3) := by decide +kernel
theorem dX6_sneak_84 : decode cX6_sneak 84 = .ok (.iload 4, 2) := by decide +kernel
theorem dX6_sneak_86 : decode cX6_sneak 86 = .ok (.iadd, 1) := by decide +kernel
theorem dX6_sneak_87 : decode cX6_sneak 87 = .ok (.putfield 46, 3) := by decide +kernel
theorem dX6_sneak_90 : decode cX6_sneak 90 = .ok (.iload 4, 2) := by decide +kernel
theorem dX6_sneak_92 : decode cX6_sneak 92 = .ok (.ireturn, 1) := by decide +kernel
theorem dX6_draw_0 : decode cX6_draw 0 = .ok (.aload_n 0, 1) := by decide +kernel
theorem dX6_draw_1 : decode cX6_draw 1 = .ok (.bipush 75, 2) := by decide +kernel
theorem dX6_draw_3 : decode cX6_draw 3 = .ok (.aload_n 0, 1) := by decide +kernel
theorem dX6_draw_4 : decode cX6_draw 4 = .ok (.getfield 37, 3) := by decide +kernel
theorem dX6_draw_7 : decode cX6_draw 7 = .ok (.imul, 1) := by decide +kernel
theorem dX6_draw_8 : decode cX6_draw 8 = .ok (.bipush 74, 2) := by decide +kernel
theorem dX6_draw_10 : decode cX6_draw 10 = .ok (.iadd, 1) := by decide +kernel
theorem dX6_draw_11 : decode cX6_draw 11 = .ok (.ldc 188, 2) := by decide +kernel
theorem dX6_draw_13 : decode cX6_draw 13 = .ok (.irem, 1) := by decide +kernel
theorem dX6_draw_14 : decode cX6_draw 14 = .ok (.putfield 37, 3) := by decide +kernel
theorem dX6_draw_17 : decode cX6_draw 17 = .ok (.aload_n 0, 1) := by decide +kernel
theorem dX6_draw_18 : decode cX6_draw 18 = .ok (.getfield 37, 3) := by decide +kernel
theorem dX6_draw_21 : decode cX6_draw 21 = .ok (.iconst 4, 1) := by decide +kernel
theorem dX6_draw_22 : decode cX6_draw 22 = .ok (.idiv, 1) := by decide +kernel
theorem dX6_draw_23 : decode cX6_draw 23 = .ok (.bipush 100, 2) := by decide +kernel
theorem dX6_draw_25 : decode cX6_draw 25 = .ok (.irem, 1) := by decide +kernel
theorem dX6_draw_26 : decode cX6_draw 26 = .ok (.ireturn, 1) := by decide +kernel
theorem dX7_init_0 : decode cX7_init 0 = .ok (.aload_n 0, 1) := by decide +kernel
theorem dX7_init_1 : decode cX7_init 1 = .ok (.invokespecial 1, 3) := by decide +kernel
theorem dX7_init_4 : decode cX7_init 4 = .ok (.aload_n 0, 1) := by decide +kernel
theorem dX7_init_5 : decode cX7_init 5 = .ok (.new 7, 3) := by decide +kernel
theorem dX7_init_8 : decode cX7_init 8 = .ok (.dup, 1) := by decide +kernel
theorem dX7_init_9 : decode cX7_init 9 = .ok (.invokespecial 9, 3) := by decide +kernel
theorem dX7_init_12 : decode cX7_init 12 = .ok (.putfield 10, 3) := by decide +kernel
theorem dX7_init_15 : decode cX7_init 15 = .ok (.aload_n 0, 1) := by decide +kernel
theorem dX7_init_16 : decode cX7_init 16 = .ok (.new 16, 3) := by decide +kernel
theorem dX7_init_19 : decode cX7_init 19 = .ok (.dup, 1) := by decide +kernel
theorem dX7_init_20 : decode cX7_init 20 = .ok (.invokespecial 18, 3) := by decide +kernel
theorem dX7_init_23 : decode cX7_init 23 = .ok (.putfield 19, 3) := by decide +kernel
theorem dX7_init_26 : decode cX7_init 26 = .ok (.aload_n 0, 1) := by decide +kernel
theorem dX7_init_27 : decode cX7_init 27 = .ok (.iconst 2, 1) := by decide +kernel
theorem dX7_init_28 : decode cX7_init 28 = .ok (.anewarray 7, 3) := by decide +kernel
theorem dX7_init_31 : decode cX7_init 31 = .ok (.putfield 23, 3) := by decide +kernel
theorem dX7_init_34 : decode cX7_init 34 = .ok (.aload_n 0, 1) := by decide +kernel
theorem dX7_init_35 : decode cX7_init 35 = .ok (.iconst 2, 1) := by decide +kernel
theorem dX7_init_36 : decode cX7_init 36 = .ok (.newarray .boolean, 2) := by decide +kernel
theorem dX7_init_38 : decode cX7_init 38 = .ok (.putfield 27, 3) := by decide +kernel
theorem dX7_init_41 : decode cX7_init 41 = .ok (.aload_n 0, 1) := by decide +kernel
theorem dX7_init_42 : decode cX7_init 42 = .ok (.new 31, 3) := by decide +kernel
theorem dX7_init_45 : decode cX7_init 45 = .ok (.dup, 1) := by decide +kernel
theorem dX7_init_46 : decode cX7_init 46 = .ok (.invokespecial 33, 3) := by decide +kernel
theorem dX7_init_49 : decode cX7_init 49 = .ok (.putfield 34, 3) := by decide +kernel
theorem dX7_init_52 : decode cX7_init 52 = .ok (.aload_n 0, 1) := by decide +kernel
theorem dX7_init_53 : decode cX7_init 53 = .ok (.new 38, 3) := by decide +kernel
theorem dX7_init_56 : decode cX7_init 56 = .ok (.dup, 1) := by decide +kernel
theorem dX7_init_57 : decode cX7_init 57 = .ok (.aload_n 0, 1) := by decide +kernel
theorem dX7_init_58 : decode cX7_init 58 = .ok (.getfield 34, 3) := by decide +kernel
theorem dX7_init_61 : decode cX7_init 61 = .ok (.invokespecial 40, 3) := by decide +kernel
theorem dX7_init_64 : decode cX7_init 64 = .ok (.putfield 43, 3) := by decide +kernel
theorem dX7_init_67 : decode cX7_init 67 = .ok (.aload_n 0, 1) := by decide +kernel
theorem dX7_init_68 : decode cX7_init 68 = .ok (.new 47, 3) := by decide +kernel
theorem dX7_init_71 : decode cX7_init 71 = .ok (.dup, 1) := by decide +kernel
theorem dX7_init_72 : decode cX7_init 72 = .ok (.iconst 0, 1) := by decide +kernel
theorem dX7_init_73 : decode cX7_init 73 = .ok (.invokespecial 49, 3) := by decide +kernel
theorem dX7_init_76 : decode cX7_init 76 = .ok (.putfield 52, 3) := by decide +kernel
theorem dX7_init_79 : decode cX7_init 79 = .ok (.aload_n 0, 1) := by decide +kernel
theorem dX7_init_80 : decode cX7_init 80 = .ok (.new 47, 3) := by decide +kernel
theorem dX7_init_83 : decode cX7_init 83 = .ok (.dup, 1) := by decide +kernel
theorem dX7_init_84 : decode cX7_init 84 = .ok (.iconst 1, 1) := by decide +kernel
theorem dX7_init_85 : decode cX7_init 85 = .ok (.invokespecial 49, 3) := by decide +kernel
theorem dX7_init_88 : decode cX7_init 88 = .ok (.putfield 56, 3) := by decide +kernel
theorem dX7_init_91 : decode cX7_init 91 = .ok (.aload_n 0, 1) := by decide +kernel
theorem dX7_init_92 : decode cX7_init 92 = .ok (.bipush 8, 2) := by decide +kernel
theorem dX7_init_94 : decode cX7_init 94 = .ok (.newarray .int, 2) := by decide +kernel
theorem dX7_init_96 : decode cX7_init 96 = .ok (.putfield 59, 3) := by decide +kernel
theorem dX7_init_99 : decode cX7_init 99 = .ok (.iconst 0, 1) := by decide +kernel
theorem dX7_init_100 : decode cX7_init 100 = .ok (.istore_n 1, 1) := by decide +kernel
theorem dX7_init_101 : decode cX7_init 101 = .ok (.iload_n 1, 1) := by decide +kernel
theorem dX7_init_102 : decode cX7_init 102 = .ok (.iconst 2, 1) := by decide +kernel
theorem dX7_init_103 : decode cX7_init 103 = .ok (.if_icmp .ge 22, 3) := by decide +kernel
theorem dX7_init_106 : decode cX7_init 106 = .ok (.aload_n 0, 1) := by decide +kernel
theorem dX7_init_107 : decode cX7_init 107 = .ok (.getfield 23, 3) := by decide +kernel
theorem dX7_init_110 : decode cX7_init 110 = .ok (.iload_n 1, 1) := by decide +kernel
theorem dX7_init_111 : decode cX7_init 111 = .ok (.new 7, 3) := by decide +kernel
theorem dX7_init_114 : decode cX7_init 114 = .ok (.dup, 1) := by decide +kernel
theorem dX7_init_115 : decode cX7_init 115 = .ok (.invokespecial 9, 3) := by decide +kernel
theorem dX7_init_118 : decode cX7_init 118 = .ok (.aastore, 1) := by decide +kernel
theorem dX7_init_119 : decode cX7_init 119 = .ok (.iinc 1 1, 3) := by decide +kernel
theorem dX7_init_122 : decode cX7_init 122 = .ok (.goto (-21), 3) := by decide +kernel
theorem dX7_init_125 : decode cX7_init 125 = .ok (.return_, 1) := by decide +kernel
theorem dX7_set_0 : decode cX7_set 0 = .ok (.aload_n 0, 1) := by decide +kernel
theorem dX7_set_1 : decode cX7_set 1 = .ok (.getfield 19, 3) := by decide +kernel
theorem dX7_set_4 : decode cX7_set 4 = .ok (.aload_n 0, 1) := by decide +kernel
theorem dX7_set_5 : decode cX7_set 5 = .ok (.getfield 10, 3) := by decide +kernel
theorem dX7_set_8 : decode cX7_set 8 = .ok (.invokevirtual 63, 3) := by decide +kernel
theorem dX7_set_11 : decode cX7_set 11 = .ok (.aload_n 0, 1) := by decide +kernel
theorem dX7_set_12 : decode cX7_set 12 = .ok (.aload_n 0, 1) := by decide +kernel
theorem dX7_set_13 : decode cX7_set 13 = .ok (.getfield 10, 3) := by decide +kernel
theorem dX7_set_16 : decode cX7_set 16 = .ok (.iload_n 1, 1) := by decide +kernel
theorem dX7_set_17 : decode cX7_set 17 = .ok (.iload_n 2, 1) := by decide +kernel
theorem dX7_set_18 : decode cX7_set 18 = .ok (.invokevirtual 67, 3) := by decide +kernel
theorem dX7_set_21 : decode cX7_set 21 = .ok (.invokevirtual 71, 3) := by decide +kernel
theorem dX7_set_24 : decode cX7_set 24 = .ok (.ireturn, 1) := by decide +kernel
theorem dX7_road_0 : decode cX7_road 0 = .ok (.aload_n 0, 1) := by decide +kernel
theorem dX7_road_1 : decode cX7_road 1 = .ok (.getfield 19, 3) := by decide +kernel
theorem dX7_road_4 : decode cX7_road 4 = .ok (.aload_n 0, 1) := by decide +kernel
theorem dX7_road_5 : decode cX7_road 5 = .ok (.getfield 10, 3) := by decide +kernel
theorem dX7_road_8 : decode cX7_road 8 = .ok (.invokevirtual 63, 3) := by decide +kernel
theorem dX7_road_11 : decode cX7_road 11 = .ok (.aload_n 0, 1) := by decide +kernel
theorem dX7_road_12 : decode cX7_road 12 = .ok (.aload_n 0, 1) := by decide +kernel
theorem dX7_road_13 : decode cX7_road 13 = .ok (.getfield 10, 3) := by decide +kernel
theorem dX7_road_16 : decode cX7_road 16 = .ok (.iload_n 1, 1) := by decide +kernel
theorem dX7_road_17 : decode cX7_road 17 = .ok (.iload_n 2, 1) := by decide +kernel
theorem dX7_road_18 : decode cX7_road 18 = .ok (.iload_n 3, 1) := by decide +kernel
theorem dX7_road_19 : decode cX7_road 19 = .ok (.invokevirtual 75, 3) := by decide +kernel
theorem dX7_road_22 : decode cX7_road 22 = .ok (.invokevirtual 71, 3) := by decide +kernel
theorem dX7_road_25 : decode cX7_road 25 = .ok (.ireturn, 1) := by decide +kernel
theorem dX7_price_0 : decode cX7_price 0 = .ok (.aload_n 0, 1) := by decide +kernel
theorem dX7_price_1 : decode cX7_price 1 = .ok (.getfield 19, 3) := by decide +kernel
theorem dX7_price_4 : decode cX7_price 4 = .ok (.aload_n 0, 1) := by decide +kernel
theorem dX7_price_5 : decode cX7_price 5 = .ok (.getfield 10, 3) := by decide +kernel
theorem dX7_price_8 : decode cX7_price 8 = .ok (.invokevirtual 63, 3) := by decide +kernel
theorem dX7_price_11 : decode cX7_price 11 = .ok (.aload_n 0, 1) := by decide +kernel
theorem dX7_price_12 : decode cX7_price 12 = .ok (.aload_n 0, 1) := by decide +kernel
theorem dX7_price_13 : decode cX7_price 13 = .ok (.getfield 10, 3) := by decide +kernel
theorem dX7_price_16 : decode cX7_price 16 = .ok (.iload_n 1, 1) := by decide +kernel
theorem dX7_price_17 : decode cX7_price 17 = .ok (.iload_n 2, 1) := by decide +kernel
theorem dX7_price_18 : decode cX7_price 18 = .ok (.invokevirtual 79, 3) := by decide +kernel
theorem dX7_price_21 : decode cX7_price 21 = .ok (.invokevirtual 71, 3) := by decide +kernel
theorem dX7_price_24 : decode cX7_price 24 = .ok (.ireturn, 1) := by decide +kernel
theorem dX7_guard_0 : decode cX7_guard 0 = .ok (.aload_n 0, 1) := by decide +kernel
theorem dX7_guard_1 : decode cX7_guard 1 = .ok (.getfield 19, 3) := by decide +kernel
theorem dX7_guard_4 : decode cX7_guard 4 = .ok (.aload_n 0, 1) := by decide +kernel
theorem dX7_guard_5 : decode cX7_guard 5 = .ok (.getfield 10, 3) := by decide +kernel
theorem dX7_guard_8 : decode cX7_guard 8 = .ok (.invokevirtual 63, 3) := by decide +kernel
theorem dX7_guard_11 : decode cX7_guard 11 = .ok (.aload_n 0, 1) := by decide +kernel
theorem dX7_guard_12 : decode cX7_guard 12 = .ok (.aload_n 0, 1) := by decide +kernel
theorem dX7_guard_13 : decode cX7_guard 13 = .ok (.getfield 10, 3) := by decide +kernel
theorem dX7_guard_16 : decode cX7_guard 16 = .ok (.iload_n 1, 1) := by decide +kernel
theorem dX7_guard_17 : decode cX7_guard 17 = .ok (.iload_n 2, 1) := by decide +kernel
theorem dX7_guard_18 : decode cX7_guard 18 = .ok (.invokevirtual 82, 3) := by decide +kernel
theorem dX7_guard_21 : decode cX7_guard 21 = .ok (.invokevirtual 71, 3) := by decide +kernel
theorem dX7_guard_24 : decode cX7_guard 24 = .ok (.ireturn, 1) := by decide +kernel
theorem dX7_toll_0 : decode cX7_toll 0 = .ok (.aload_n 0, 1) := by decide +kernel
theorem dX7_toll_1 : decode cX7_toll 1 = .ok (.getfield 19, 3) := by decide +kernel
theorem dX7_toll_4 : decode cX7_toll 4 = .ok (.aload_n 0, 1) := by decide +kernel
theorem dX7_toll_5 : decode cX7_toll 5 = .ok (.getfield 10, 3) := by decide +kernel
theorem dX7_toll_8 : decode cX7_toll 8 = .ok (.invokevirtual 63, 3) := by decide +kernel
theorem dX7_toll_11 : decode cX7_toll 11 = .ok (.aload_n 0, 1) := by decide +kernel
theorem dX7_toll_12 : decode cX7_toll 12 = .ok (.aload_n 0, 1) := by decide +kernel
theorem dX7_toll_13 : decode cX7_toll 13 = .ok (.getfield 10, 3) := by decide +kernel
theorem dX7_toll_16 : decode cX7_toll 16 = .ok (.iload_n 1, 1) := by decide +kernel
theorem dX7_toll_17 : decode cX7_toll 17 = .ok (.iload_n 2, 1) := by decide +kernel
theorem dX7_toll_18 : decode cX7_toll 18 = .ok (.invokevirtual 85, 3) := by decide +kernel
theorem dX7_toll_21 : decode cX7_toll 21 = .ok (.invokevirtual 71, 3) := by decide +kernel
theorem dX7_toll_24 : decode cX7_toll 24 = .ok (.ireturn, 1) := by decide +kernel
theorem dX7_makeHonest_0 : decode cX7_makeHonest 0 = .ok (.aload_n 0, 1) := by decide +kernel
theorem dX7_makeHonest_1 : decode cX7_makeHonest 1 = .ok (.getfield 19, 3) := by decide +kernel
theorem dX7_makeHonest_4 : decode cX7_makeHonest 4 = .ok (.aload_n 0, 1) := by decide +kernel
theorem dX7_makeHonest_5 : decode cX7_makeHonest 5 = .ok (.getfield 10, 3) := by decide +kernel
theorem dX7_makeHonest_8 : decode cX7_makeHonest 8 = .ok (.invokevirtual 63, 3) := by decide +kernel
theorem dX7_makeHonest_11 : decode cX7_makeHonest 11 = .ok (.aload_n 0, 1) := by decide +kernel
theorem dX7_makeHonest_12 : decode cX7_makeHonest 12 = .ok (.invokevirtual 88, 3) := by decide +kernel
theorem dX7_makeHonest_15 : decode cX7_makeHonest 15 = .ok (.istore_n 1, 1) := by decide +kernel
theorem dX7_makeHonest_16 : decode cX7_makeHonest 16 = .ok (.aload_n 0, 1) := by decide +kernel
theorem dX7_makeHonest_17 : decode cX7_makeHonest 17 = .ok (.getfield 59, 3) := by decide +kernel
theorem dX7_makeHonest_20 : decode cX7_makeHonest 20 = .ok (.iconst 0, 1) := by decide +kernel
theorem dX7_makeHonest_21 : decode cX7_makeHonest 21 = .ok (.aload_n 0, 1) := by decide +kernel
theorem dX7_makeHonest_22 : decode cX7_makeHonest 22 = .ok (.getfield 10, 3) := by decide +kernel
theorem dX7_makeHonest_25 : decode cX7_makeHonest 25 = .ok (.getfield 92, 3) := by decide +kernel
theorem dX7_makeHonest_28 : decode cX7_makeHonest 28 = .ok (.iconst 0, 1) := by decide +kernel
theorem dX7_makeHonest_29 : decode cX7_makeHonest 29 = .ok (.bipush 8, 2) := by decide +kernel
theorem dX7_makeHonest_31 : decode cX7_makeHonest 31 = .ok (.invokestatic 95, 3) := by decide +kernel
theorem dX7_makeHonest_34 : decode cX7_makeHonest 34 = .ok (.aload_n 0, 1) := by decide +kernel
theorem dX7_makeHonest_35 : decode cX7_makeHonest 35 = .ok (.iload_n 1, 1) := by decide +kernel
theorem dX7_makeHonest_36 : decode cX7_makeHonest 36 = .ok (.invokevirtual 71, 3) := by decide +kernel
theorem dX7_makeHonest_39 : decode cX7_makeHonest 39 = .ok (.ireturn, 1) := by decide +kernel
theorem dX7_cart_0 : decode cX7_cart 0 = .ok (.aload_n 0, 1) := by decide +kernel
theorem dX7_cart_1 : decode cX7_cart 1 = .ok (.getfield 19, 3) := by decide +kernel
theorem dX7_cart_4 : decode cX7_cart 4 = .ok (.aload_n 0, 1) := by decide +kernel
theorem dX7_cart_5 : decode cX7_cart 5 = .ok (.getfield 10, 3) := by decide +kernel
theorem dX7_cart_8 : decode cX7_cart 8 = .ok (.invokevirtual 63, 3) := by decide +kernel
theorem dX7_cart_11 : decode cX7_cart 11 = .ok (.aload_n 0, 1) := by decide +kernel
theorem dX7_cart_12 : decode cX7_cart 12 = .ok (.aload_n 0, 1) := by decide +kernel
theorem dX7_cart_13 : decode cX7_cart 13 = .ok (.getfield 10, 3) := by decide +kernel
theorem dX7_cart_16 : decode cX7_cart 16 = .ok (.iload_n 1, 1) := by decide +kernel
theorem dX7_cart_17 : decode cX7_cart 17 = .ok (.iload_n 2, 1) := by decide +kernel
theorem dX7_cart_18 : decode cX7_cart 18 = .ok (.invokevirtual 101, 3) := by decide +kernel
theorem dX7_cart_21 : decode cX7_cart 21 = .ok (.invokevirtual 71, 3) := by decide +kernel
theorem dX7_cart_24 : decode cX7_cart 24 = .ok (.ireturn, 1) := by decide +kernel
theorem dX7_buy_0 : decode cX7_buy 0 = .ok (.aload_n 0, 1) := by decide +kernel
theorem dX7_buy_1 : decode cX7_buy 1 = .ok (.getfield 19, 3) := by decide +kernel
theorem dX7_buy_4 : decode cX7_buy 4 = .ok (.aload_n 0, 1) := by decide +kernel
theorem dX7_buy_5 : decode cX7_buy 5 = .ok (.getfield 10, 3) := by decide +kernel
theorem dX7_buy_8 : decode cX7_buy 8 = .ok (.invokevirtual 63, 3) := by decide +kernel
theorem dX7_buy_11 : decode cX7_buy 11 = .ok (.aload_n 0, 1) := by decide +kernel
theorem dX7_buy_12 : decode cX7_buy 12 = .ok (.aload_n 0, 1) := by decide +kernel
theorem dX7_buy_13 : decode cX7_buy 13 = .ok (.getfield 10, 3) := by decide +kernel
theorem dX7_buy_16 : decode cX7_buy 16 = .ok (.iload_n 1, 1) := by decide +kernel
theorem dX7_buy_17 : decode cX7_buy 17 = .ok (.iload_n 2, 1) := by decide +kernel
theorem dX7_buy_18 : decode cX7_buy 18 = .ok (.invokevirtual 104, 3) := by decide +kernel
theorem dX7_buy_21 : decode cX7_buy 21 = .ok (.invokevirtual 71, 3) := by decide +kernel
theorem dX7_buy_24 : decode cX7_buy 24 = .ok (.ireturn, 1) := by decide +kernel
theorem dX7_sell_0 : decode cX7_sell 0 = .ok (.aload_n 0, 1) := by decide +kernel
theorem dX7_sell_1 : decode cX7_sell 1 = .ok (.getfield 19, 3) := by decide +kernel
theorem dX7_sell_4 : decode cX7_sell 4 = .ok (.aload_n 0, 1) := by decide +kernel
theorem dX7_sell_5 : decode cX7_sell 5 = .ok (.getfield 10, 3) := by decide +kernel
theorem dX7_sell_8 : decode cX7_sell 8 = .ok (.invokevirtual 63, 3) := by decide +kernel
theorem dX7_sell_11 : decode cX7_sell 11 = .ok (.aload_n 0, 1) := by decide +kernel
theorem dX7_sell_12 : decode cX7_sell 12 = .ok (.aload_n 0, 1) := by decide +kernel
theorem dX7_sell_13 : decode cX7_sell 13 = .ok (.getfield 10, 3) := by decide +kernel
theorem dX7_sell_16 : decode cX7_sell 16 = .ok (.iload_n 1, 1) := by decide +kernel
theorem dX7_sell_17 : decode cX7_sell 17 = .ok (.iload_n 2, 1) := by decide +kernel
theorem dX7_sell_18 : decode cX7_sell 18 = .ok (.invokevirtual 107, 3) := by decide +kernel
theorem dX7_sell_21 : decode cX7_sell 21 = .ok (.invokevirtual 71, 3) := by decide +kernel
theorem dX7_sell_24 : decode cX7_sell 24 = .ok (.ireturn, 1) := by decide +kernel
theorem dX7_go_0 : decode cX7_go 0 = .ok (.aload_n 0, 1) := by decide +kernel
theorem dX7_go_1 : decode cX7_go 1 = .ok (.getfield 19, 3) := by decide +kernel
theorem dX7_go_4 : decode cX7_go 4 = .ok (.aload_n 0, 1) := by decide +kernel
theorem dX7_go_5 : decode cX7_go 5 = .ok (.getfield 10, 3) := by decide +kernel
theorem dX7_go_8 : decode cX7_go 8 = .ok (.invokevirtual 63, 3) := by decide +kernel
theorem dX7_go_11 : decode cX7_go 11 = .ok (.aload_n 0, 1) := by decide +kernel
theorem dX7_go_12 : decode cX7_go 12 = .ok (.aload_n 0, 1) := by decide +kernel
theorem dX7_go_13 : decode cX7_go 13 = .ok (.getfield 10, 3) := by decide +kernel
theorem dX7_go_16 : decode cX7_go 16 = .ok (.iload_n 1, 1) := by decide +kernel
theorem dX7_go_17 : decode cX7_go 17 = .ok (.iload_n 2, 1) := by decide +kernel
theorem dX7_go_18 : decode cX7_go 18 = .ok (.iload_n 3, 1) := by decide +kernel
theorem dX7_go_19 : decode cX7_go 19 = .ok (.invokevirtual 110, 3) := by decide +kernel
theorem dX7_go_22 : decode cX7_go 22 = .ok (.invokevirtual 71, 3) := by decide +kernel
theorem dX7_go_25 : decode cX7_go 25 = .ok (.ireturn, 1) := by decide +kernel
theorem dX7_ofTown_0 : decode cX7_ofTown 0 = .ok (.iload_n 1, 1) := by decide +kernel
theorem dX7_ofTown_1 : decode cX7_ofTown 1 = .ok (.invokestatic 124, 3) := by decide +kernel
theorem dX7_ofTown_4 : decode cX7_ofTown 4 = .ok (.ifCond .ne 5, 3) := by decide +kernel
theorem dX7_ofTown_7 : decode cX7_ofTown 7 = .ok (.iconst (-1), 1) := by decide +kernel
theorem dX7_ofTown_8 : decode cX7_ofTown 8 = .ok (.ireturn, 1) := by decide +kernel
theorem dX7_ofTown_9 : decode cX7_ofTown 9 = .ok (.iload_n 2, 1) := by decide +kernel
theorem dX7_ofTown_10 : decode cX7_ofTown 10 = .ok (.tableswitch 67 0 3 #[30, 40, 49, 58], 30) := by decide +kernel
theorem dX7_ofTown_40 : decode cX7_ofTown 40 = .ok (.aload_n 0, 1) := by decide +kernel
theorem dX7_ofTown_41 : decode cX7_ofTown 41 = .ok (.getfield 10, 3) := by decide +kernel
theorem dX7_ofTown_44 : decode cX7_ofTown 44 = .ok (.getfield 92, 3) := by decide +kernel
theorem dX7_ofTown_47 : decode cX7_ofTown 47 = .ok (.iload_n 1, 1) := by decide +kernel
theorem dX7_ofTown_48 : decode cX7_ofTown 48 = .ok (.iaload, 1) := by decide +kernel
theorem dX7_ofTown_49 : decode cX7_ofTown 49 = .ok (.ireturn, 1) := by decide +kernel
theorem dX7_ofTown_50 : decode cX7_ofTown 50 = .ok (.aload_n 0, 1) := by decide +kernel
theorem dX7_ofTown_51 : decode cX7_ofTown 51 = .ok (.getfield 10, 3) := by decide +kernel
theorem dX7_ofTown_54 : decode cX7_ofTown 54 = .ok (.iload_n 1, 1) := by decide +kernel
theorem dX7_ofTown_55 : decode cX7_ofTown 55 = .ok (.invokevirtual 128, 3) := by decide +kernel
theorem dX7_ofTown_58 : decode cX7_ofTown 58 = .ok (.ireturn, 1) := by decide +kernel
theorem dX7_ofTown_59 : decode cX7_ofTown 59 = .ok (.aload_n 0, 1) := by decide +kernel
theorem dX7_ofTown_60 : decode cX7_ofTown 60 = .ok (.getfield 10, 3) := by decide +kernel
theorem dX7_ofTown_63 : decode cX7_ofTown 63 = .ok (.iload_n 1, 1) := by decide +kernel
theorem dX7_ofTown_64 : decode cX7_ofTown 64 = .ok (.invokevirtual 131, 3) := by decide +kernel
theorem dX7_ofTown_67 : decode cX7_ofTown 67 = .ok (.ireturn, 1) := by decide +kernel
theorem dX7_ofTown_68 : decode cX7_ofTown 68 = .ok (.aload_n 0, 1) := by decide +kernel
theorem dX7_ofTown_69 : decode cX7_ofTown 69 = .ok (.invokevirtual 134, 3) := by decide +kernel
theorem dX7_ofTown_72 : decode cX7_ofTown 72 = .ok (.iload_n 1, 1) := by decide +kernel
theorem dX7_ofTown_73 : decode cX7_ofTown 73 = .ok (.ishr, 1) := by decide +kernel
theorem dX7_ofTown_74 : decode cX7_ofTown 74 = .ok (.iconst 1, 1) := by decide +kernel
theorem dX7_ofTown_75 : decode cX7_ofTown 75 = .ok (.iand, 1) := by decide +kernel
theorem dX7_ofTown_76 : decode cX7_ofTown 76 = .ok (.ireturn, 1) := by decide +kernel
theorem dX7_ofTown_77 : decode cX7_ofTown 77 = .ok (.bipush (-2), 2) := by decide +kernel
theorem dX7_ofTown_79 : decode cX7_ofTown 79 = .ok (.ireturn, 1) := by decide +kernel
theorem dX7_ofRoad_0 : decode cX7_ofRoad 0 = .ok (.aload_n 0, 1) := by decide +kernel
theorem dX7_ofRoad_1 : decode cX7_ofRoad 1 = .ok (.getfield 10, 3) := by decide +kernel
theorem dX7_ofRoad_4 : decode cX7_ofRoad 4 = .ok (.iload_n 1, 1) := by decide +kernel
theorem dX7_ofRoad_5 : decode cX7_ofRoad 5 = .ok (.invokevirtual 137, 3) := by decide +kernel
theorem dX7_ofRoad_8 : decode cX7_ofRoad 8 = .ok (.ifCond .ne 5, 3) := by decide +kernel
theorem dX7_ofRoad_11 : decode cX7_ofRoad 11 = .ok (.iconst (-1), 1) := by decide +kernel
theorem dX7_ofRoad_12 : decode cX7_ofRoad 12 = .ok (.ireturn, 1) := by decide +kernel
theorem dX7_ofRoad_13 : decode cX7_ofRoad 13 = .ok (.aload_n 0, 1) := by decide +kernel
theorem dX7_ofRoad_14 : decode cX7_ofRoad 14 = .ok (.getfield 10, 3) := by decide +kernel
theorem dX7_ofRoad_17 : decode cX7_ofRoad 17 = .ok (.getfield 140, 3) := by decide +kernel
theorem dX7_ofRoad_20 : decode cX7_ofRoad 20 = .ok (.iload_n 1, 1) := by decide +kernel
theorem dX7_ofRoad_21 : decode cX7_ofRoad 21 = .ok (.aaload, 1) := by decide +kernel
theorem dX7_ofRoad_22 : decode cX7_ofRoad 22 = .ok (.astore_n 3, 1) := by decide +kernel
theorem dX7_ofRoad_23 : decode cX7_ofRoad 23 = .ok (.iload_n 2, 1) := by decide +kernel
theorem dX7_ofRoad_24 : decode cX7_ofRoad 24 = .ok (.tableswitch 123 0 8 #[52, 57, 62, 67, 72, 81, 97, 113, 118], 52) := by decide +kernel
theorem dX7_ofRoad_76 : decode cX7_ofRoad 76 = .ok (.aload_n 3, 1) := by decide +kernel
theorem dX7_ofRoad_77 : decode cX7_ofRoad 77 = .ok (.getfield 144, 3) := by decide +kernel
theorem dX7_ofRoad_80 : decode cX7_ofRoad 80 = .ok (.ireturn, 1) := by decide +kernel
theorem dX7_ofRoad_81 : decode cX7_ofRoad 81 = .ok (.aload_n 3, 1) := by decide +kernel
theorem dX7_ofRoad_82 : decode cX7_ofRoad 82 = .ok (.getfield 149, 3) := by decide +kernel
theorem dX7_ofRoad_85 : decode cX7_ofRoad 85 = .ok (.ireturn, 1) := by decide +kernel
theorem dX7_ofRoad_86 : decode cX7_ofRoad 86 = .ok (.aload_n 3, 1) := by decide +kernel
theorem dX7_ofRoad_87 : decode cX7_ofRoad 87 = .ok (.getfield 152, 3) := by decide +kernel
theorem dX7_ofRoad_90 : decode cX7_ofRoad 90 = .ok (.ireturn, 1) := by decide +kernel
theorem dX7_ofRoad_91 : decode cX7_ofRoad 91 = .ok (.aload_n 3, 1) := by decide +kernel
theorem dX7_ofRoad_92 : decode cX7_ofRoad 92 = .ok (.getfield 155, 3) := by decide +kernel
theorem dX7_ofRoad_95 : decode cX7_ofRoad 95 = .ok (.ireturn, 1) := by decide +kernel
theorem dX7_ofRoad_96 : decode cX7_ofRoad 96 = .ok (.aload_n 0, 1) := by decide +kernel
theorem dX7_ofRoad_97 : decode cX7_ofRoad 97 = .ok (.getfield 10, 3) := by decide +kernel
theorem dX7_ofRoad_100 : decode cX7_ofRoad 100 = .ok (.aload_n 3, 1) := by decide +kernel
theorem dX7_ofRoad_101 : decode cX7_ofRoad 101 = .ok (.invokevirtual 158, 3) := by decide +kernel
theorem dX7_ofRoad_104 : decode cX7_ofRoad 104 = .ok (.ireturn, 1) := by decide +kernel
theorem dX7_ofRoad_105 : decode cX7_ofRoad 105 = .ok (.aload_n 0, 1) := by decide +kernel
theorem dX7_ofRoad_106 : decode cX7_ofRoad 106 = .ok (.getfield 10, 3) := by decide +kernel
theorem dX7_ofRoad_109 : decode cX7_ofRoad 109 = .ok (.aload_n 3, 1) := by decide +kernel
theorem dX7_ofRoad_110 : decode cX7_ofRoad 110 = .ok (.aload_n 3, 1) := by decide +kernel
theorem dX7_ofRoad_111 : decode cX7_ofRoad 111 = .ok (.getfield 144, 3) := by decide +kernel
theorem dX7_ofRoad_114 : decode cX7_ofRoad 114 = .ok (.invokevirtual 162, 3) := by decide +kernel
theorem dX7_ofRoad_117 : decode cX7_ofRoad 117 = .ok (.invokestatic 166, 3) := by decide +kernel
theorem dX7_ofRoad_120 : decode cX7_ofRoad 120 = .ok (.ireturn, 1) := by decide +kernel
theorem dX7_ofRoad_121 : decode cX7_ofRoad 121 = .ok (.aload_n 0, 1) := by decide +kernel
theorem dX7_ofRoad_122 : decode cX7_ofRoad 122 = .ok (.getfield 10, 3) := by decide +kernel
theorem dX7_ofRoad_125 : decode cX7_ofRoad 125 = .ok (.aload_n 3, 1) := by decide +kernel
theorem dX7_ofRoad_126 : decode cX7_ofRoad 126 = .ok (.aload_n 3, 1) := by decide +kernel
theorem dX7_ofRoad_127 : decode cX7_ofRoad 127 = .ok (.getfield 149, 3) := by decide +kernel
theorem dX7_ofRoad_130 : decode cX7_ofRoad 130 = .ok (.invokevirtual 162, 3) := by decide +kernel
theorem dX7_ofRoad_133 : decode cX7_ofRoad 133 = .ok (.invokestatic 166, 3) := by decide +kernel
theorem dX7_ofRoad_136 : decode cX7_ofRoad 136 = .ok (.ireturn, 1) := by decide +kernel
theorem dX7_ofRoad_137 : decode cX7_ofRoad 137 = .ok (.aload_n 3, 1) := by decide +kernel
theorem dX7_ofRoad_138 : decode cX7_ofRoad 138 = .ok (.getfield 170, 3) := by decide +kernel
theorem dX7_ofRoad_141 : decode cX7_ofRoad 141 = .ok (.ireturn, 1) := by decide +kernel
theorem dX7_ofRoad_142 : decode cX7_ofRoad 142 = .ok (.aload_n 3, 1) := by decide +kernel
theorem dX7_ofRoad_143 : decode cX7_ofRoad 143 = .ok (.getfield 173, 3) := by decide +kernel
theorem dX7_ofRoad_146 : decode cX7_ofRoad 146 = .ok (.ireturn, 1) := by decide +kernel
theorem dX7_ofRoad_147 : decode cX7_ofRoad 147 = .ok (.bipush (-2), 2) := by decide +kernel
theorem dX7_ofRoad_149 : decode cX7_ofRoad 149 = .ok (.ireturn, 1) := by decide +kernel
theorem dX7_ofCart_0 : decode cX7_ofCart 0 = .ok (.aload_n 0, 1) := by decide +kernel
theorem dX7_ofCart_1 : decode cX7_ofCart 1 = .ok (.getfield 10, 3) := by decide +kernel
theorem dX7_ofCart_4 : decode cX7_ofCart 4 = .ok (.iload_n 1, 1) := by decide +kernel
theorem dX7_ofCart_5 : decode cX7_ofCart 5 = .ok (.invokevirtual 176, 3) := by decide +kernel
theorem dX7_ofCart_8 : decode cX7_ofCart 8 = .ok (.ifCond .ne 5, 3) := by decide +kernel
theorem dX7_ofCart_11 : decode cX7_ofCart 11 = .ok (.iconst (-1), 1) := by decide +kernel
theorem dX7_ofCart_12 : decode cX7_ofCart 12 = .ok (.ireturn, 1) := by decide +kernel
theorem dX7_ofCart_13 : decode cX7_ofCart 13 = .ok (.aload_n 0, 1) := by decide +kernel
theorem dX7_ofCart_14 : decode cX7_ofCart 14 = .ok (.getfield 10, 3) := by decide +kernel
theorem dX7_ofCart_17 : decode cX7_ofCart 17 = .ok (.getfield 179, 3) := by decide +kernel
theorem dX7_ofCart_20 : decode cX7_ofCart 20 = .ok (.iload_n 1, 1) := by decide +kernel
theorem dX7_ofCart_21 : decode cX7_ofCart 21 = .ok (.aaload, 1) := by decide +kernel
theorem dX7_ofCart_22 : decode cX7_ofCart 22 = .ok (.astore_n 3, 1) := by decide +kernel
theorem dX7_ofCart_23 : decode cX7_ofCart 23 = .ok (.iload_n 2, 1) := by decide +kernel
theorem dX7_ofCart_24 : decode cX7_ofCart 24 = .ok (.tableswitch 88 0 7 #[48, 53, 58, 63, 68, 73, 78, 83], 48) := by decide +kernel
theorem dX7_ofCart_72 : decode cX7_ofCart 72 = .ok (.aload_n 3, 1) := by decide +kernel
theorem dX7_ofCart_73 : decode cX7_ofCart 73 = .ok (.getfield 183, 3) := by decide +kernel
theorem dX7_ofCart_76 : decode cX7_ofCart 76 = .ok (.ireturn, 1) := by decide +kernel
theorem dX7_ofCart_77 : decode cX7_ofCart 77 = .ok (.aload_n 3, 1) := by decide +kernel
theorem dX7_ofCart_78 : decode cX7_ofCart 78 = .ok (.getfield 186, 3) := by decide +kernel
theorem dX7_ofCart_81 : decode cX7_ofCart 81 = .ok (.ireturn, 1) := by decide +kernel
theorem dX7_ofCart_82 : decode cX7_ofCart 82 = .ok (.aload_n 3, 1) := by decide +kernel
theorem dX7_ofCart_83 : decode cX7_ofCart 83 = .ok (.getfield 189, 3) := by decide +kernel
theorem dX7_ofCart_86 : decode cX7_ofCart 86 = .ok (.ireturn, 1) := by decide +kernel
theorem dX7_ofCart_87 : decode cX7_ofCart 87 = .ok (.aload_n 3, 1) := by decide +kernel
theorem dX7_ofCart_88 : decode cX7_ofCart 88 = .ok (.getfield 192, 3) := by decide +kernel
theorem dX7_ofCart_91 : decode cX7_ofCart 91 = .ok (.ireturn, 1) := by decide +kernel
theorem dX7_ofCart_92 : decode cX7_ofCart 92 = .ok (.aload_n 3, 1) := by decide +kernel
theorem dX7_ofCart_93 : decode cX7_ofCart 93 = .ok (.getfield 195, 3) := by decide +kernel
theorem dX7_ofCart_96 : decode cX7_ofCart 96 = .ok (.ireturn, 1) := by decide +kernel
theorem dX7_ofCart_97 : decode cX7_ofCart 97 = .ok (.aload_n 3, 1) := by decide +kernel
theorem dX7_ofCart_98 : decode cX7_ofCart 98 = .ok (.getfield 198, 3) := by decide +kernel
theorem dX7_ofCart_101 : decode cX7_ofCart 101 = .ok (.ireturn, 1) := by decide +kernel
theorem dX7_ofCart_102 : decode cX7_ofCart 102 = .ok (.aload_n 3, 1) := by decide +kernel
theorem dX7_ofCart_103 : decode cX7_ofCart 103 = .ok (.getfield 201, 3) := by decide +kernel
theorem dX7_ofCart_106 : decode cX7_ofCart 106 = .ok (.ireturn, 1) := by decide +kernel
theorem dX7_ofCart_107 : decode cX7_ofCart 107 = .ok (.aload_n 3, 1) := by decide +kernel
theorem dX7_ofCart_108 : decode cX7_ofCart 108 = .ok (.getfield 204, 3) := by decide +kernel
theorem dX7_ofCart_111 : decode cX7_ofCart 111 = .ok (.ireturn, 1) := by decide +kernel
theorem dX7_ofCart_112 : decode cX7_ofCart 112 = .ok (.bipush (-2), 2) := by decide +kernel
theorem dX7_ofCart_114 : decode cX7_ofCart 114 = .ok (.ireturn, 1) := by decide +kernel
theorem dX7_worth_0 : decode cX7_worth 0 = .ok (.iload_n 1, 1) := by decide +kernel
theorem dX7_worth_1 : decode cX7_worth 1 = .ok (.invokestatic 124, 3) := by decide +kernel
theorem dX7_worth_4 : decode cX7_worth 4 = .ok (.ifCond .ne 7, 3) := by decide +kernel
theorem dX7_worth_7 : decode cX7_worth 7 = .ok (.ldc2_w 207, 3) := by decide +kernel
theorem dX7_worth_10 : decode cX7_worth 10 = .ok (.lreturn, 1) := by decide +kernel
theorem dX7_worth_11 : decode cX7_worth 11 = .ok (.iload_n 2, 1) := by decide +kernel
theorem dX7_worth_12 : decode cX7_worth 12 = .ok (.iconst 0, 1) := by decide +kernel
theorem dX7_worth_13 : decode cX7_worth 13 = .ok (.iconst 4, 1) := by decide +kernel
theorem dX7_worth_14 : decode cX7_worth 14 = .ok (.invokestatic 209, 3) := by decide +kernel
theorem dX7_worth_17 : decode cX7_worth 17 = .ok (.ifCond .ne 12, 3) := by decide +kernel
theorem dX7_worth_20 : decode cX7_worth 20 = .ok (.iload_n 3, 1) := by decide +kernel
theorem dX7_worth_21 : decode cX7_worth 21 = .ok (.iconst 0, 1) := by decide +kernel
theorem dX7_worth_22 : decode cX7_worth 22 = .ok (.iconst 1, 1) := by decide +kernel
theorem dX7_worth_23 : decode cX7_worth 23 = .ok (.invokestatic 209, 3) := by decide +kernel
theorem dX7_worth_26 : decode cX7_worth 26 = .ok (.ifCond .eq 7, 3) := by decide +kernel
theorem dX7_worth_29 : decode cX7_worth 29 = .ok (.ldc2_w 213, 3) := by decide +kernel
theorem dX7_worth_32 : decode cX7_worth 32 = .ok (.lreturn, 1) := by decide +kernel
theorem dX7_worth_33 : decode cX7_worth 33 = .ok (.iload_n 3, 1) := by decide +kernel
theorem dX7_worth_34 : decode cX7_worth 34 = .ok (.iconst 1, 1) := by decide +kernel
theorem dX7_worth_35 : decode cX7_worth 35 = .ok (.if_icmp .ne 10, 3) := by decide +kernel
theorem dX7_worth_38 : decode cX7_worth 38 = .ok (.aload_n 0, 1) := by decide +kernel
theorem dX7_worth_39 : decode cX7_worth 39 = .ok (.getfield 56, 3) := by decide +kernel
theorem dX7_worth_42 : decode cX7_worth 42 = .ok (.goto 7, 3) := by decide +kernel
theorem dX7_worth_45 : decode cX7_worth 45 = .ok (.aload_n 0, 1) := by decide +kernel
theorem dX7_worth_46 : decode cX7_worth 46 = .ok (.getfield 52, 3) := by decide +kernel
theorem dX7_worth_49 : decode cX7_worth 49 = .ok (.astore 4, 2) := by decide +kernel
theorem dX7_worth_51 : decode cX7_worth 51 = .ok (.aload 4, 2) := by decide +kernel
theorem dX7_worth_53 : decode cX7_worth 53 = .ok (.aload_n 0, 1) := by decide +kernel
theorem dX7_worth_54 : decode cX7_worth 54 = .ok (.getfield 10, 3) := by decide +kernel
theorem dX7_worth_57 : decode cX7_worth 57 = .ok (.iload_n 2, 1) := by decide +kernel
theorem dX7_worth_58 : decode cX7_worth 58 = .ok (.invokevirtual 215, 3) := by decide +kernel
theorem dX7_worth_61 : decode cX7_worth 61 = .ok (.aload 4, 2) := by decide +kernel
theorem dX7_worth_63 : decode cX7_worth 63 = .ok (.getfield 219, 3) := by decide +kernel
theorem dX7_worth_66 : decode cX7_worth 66 = .ok (.iload_n 2, 1) := by decide +kernel
theorem dX7_worth_67 : decode cX7_worth 67 = .ok (.aaload, 1) := by decide +kernel
theorem dX7_worth_68 : decode cX7_worth 68 = .ok (.iload_n 1, 1) := by decide +kernel
theorem dX7_worth_69 : decode cX7_worth 69 = .ok (.laload, 1) := by decide +kernel
theorem dX7_worth_70 : decode cX7_worth 70 = .ok (.lreturn, 1) := by decide +kernel
theorem dX7_count_0 : decode cX7_count 0 = .ok (.iload_n 1, 1) := by decide +kernel
theorem dX7_count_1 : decode cX7_count 1 = .ok (.tableswitch 212 0 17 #[87, 95, 103, 111, 119, 127, 135, 143, 154, 159, 167, 175, 183, 183, 183, 183, 196, 204], 87) := by decide +kernel
theorem dX7_count_88 : decode cX7_count 88 = .ok (.aload_n 0, 1) := by decide +kernel
theorem dX7_count_89 : decode cX7_count 89 = .ok (.getfield 10, 3) := by decide +kernel
theorem dX7_count_92 : decode cX7_count 92 = .ok (.getfield 226, 3) := by decide +kernel
theorem dX7_count_95 : decode cX7_count 95 = .ok (.ireturn, 1) := by decide +kernel
theorem dX7_count_96 : decode cX7_count 96 = .ok (.aload_n 0, 1) := by decide +kernel
theorem dX7_count_97 : decode cX7_count 97 = .ok (.getfield 10, 3) := by decide +kernel
theorem dX7_count_100 : decode cX7_count 100 = .ok (.getfield 229, 3) := by decide +kernel
theorem dX7_count_103 : decode cX7_count 103 = .ok (.ireturn, 1) := by decide +kernel
theorem dX7_count_104 : decode cX7_count 104 = .ok (.aload_n 0, 1) := by decide +kernel
theorem dX7_count_105 : decode cX7_count 105 = .ok (.getfield 10, 3) := by decide +kernel
theorem dX7_count_108 : decode cX7_count 108 = .ok (.invokevirtual 232, 3) := by decide +kernel
theorem dX7_count_111 : decode cX7_count 111 = .ok (.ireturn, 1) := by decide +kernel
theorem dX7_count_112 : decode cX7_count 112 = .ok (.aload_n 0, 1) := by decide +kernel
theorem dX7_count_113 : decode cX7_count 113 = .ok (.getfield 10, 3) := by decide +kernel
theorem dX7_count_116 : decode cX7_count 116 = .ok (.invokevirtual 235, 3) := by decide +kernel
theorem dX7_count_119 : decode cX7_count 119 = .ok (.ireturn, 1) := by decide +kernel
theorem dX7_count_120 : decode cX7_count 120 = .ok (.aload_n 0, 1) := by decide +kernel
theorem dX7_count_121 : decode cX7_count 121 = .ok (.getfield 10, 3) := by decide +kernel
theorem dX7_count_124 : decode cX7_count 124 = .ok (.getfield 238, 3) := by decide +kernel
theorem dX7_count_127 : decode cX7_count 127 = .ok (.ireturn, 1) := by decide +kernel
theorem dX7_count_128 : decode cX7_count 128 = .ok (.aload_n 0, 1) := by decide +kernel
theorem dX7_count_129 : decode cX7_count 129 = .ok (.getfield 10, 3) := by decide +kernel
theorem dX7_count_132 : decode cX7_count 132 = .ok (.getfield 241, 3) := by decide +kernel
theorem dX7_count_135 : decode cX7_count 135 = .ok (.ireturn, 1) := by decide +kernel
theorem dX7_count_136 : decode cX7_count 136 = .ok (.aload_n 0, 1) := by decide +kernel
theorem dX7_count_137 : decode cX7_count 137 = .ok (.getfield 10, 3) := by decide +kernel
theorem dX7_count_140 : decode cX7_count 140 = .ok (.getfield 244, 3) := by decide +kernel
theorem dX7_count_143 : decode cX7_count 143 = .ok (.ireturn, 1) := by decide +kernel
theorem dX7_count_144 : decode cX7_count 144 = .ok (.aload_n 0, 1) := by decide +kernel
theorem dX7_count_145 : decode cX7_count 145 = .ok (.getfield 10, 3) := by decide +kernel
theorem dX7_count_148 : decode cX7_count 148 = .ok (.invokevirtual 247, 3) := by decide +kernel
theorem dX7_count_151 : decode cX7_count 151 = .ok (.invokestatic 166, 3) := by decide +kernel
theorem dX7_count_154 : decode cX7_count 154 = .ok (.ireturn, 1) := by decide +kernel
theorem dX7_count_155 : decode cX7_count 155 = .ok (.aload_n 0, 1) := by decide +kernel
theorem dX7_count_156 : decode cX7_count 156 = .ok (.invokevirtual 134, 3) := by decide +kernel
theorem dX7_count_159 : decode cX7_count 159 = .ok (.ireturn, 1) := by decide +kernel
theorem dX7_count_160 : decode cX7_count 160 = .ok (.aload_n 0, 1) := by decide +kernel
theorem dX7_count_161 : decode cX7_count 161 = .ok (.getfield 10, 3) := by decide +kernel
theorem dX7_count_164 : decode cX7_count 164 = .ok (.invokevirtual 251, 3) := by decide +kernel
theorem dX7_count_167 : decode cX7_count 167 = .ok (.ireturn, 1) := by decide +kernel
theorem dX7_count_168 : decode cX7_count 168 = .ok (.aload_n 0, 1) := by decide +kernel
theorem dX7_count_169 : decode cX7_count 169 = .ok (.getfield 10, 3) := by decide +kernel
theorem dX7_count_172 : decode cX7_count 172 = .ok (.getfield 254, 3) := by decide +kernel
theorem dX7_count_175 : decode cX7_count 175 = .ok (.ireturn, 1) := by decide +kernel
theorem dX7_count_176 : decode cX7_count 176 = .ok (.aload_n 0, 1) := by decide +kernel
theorem dX7_count_177 : decode cX7_count 177 = .ok (.getfield 10, 3) := by decide +kernel
theorem dX7_count_180 : decode cX7_count 180 = .ok (.getfield 257, 3) := by decide +kernel
theorem dX7_count_183 : decode cX7_count 183 = .ok (.ireturn, 1) := by decide +kernel
theorem dX7_count_184 : decode cX7_count 184 = .ok (.aload_n 0, 1) := by decide +kernel
theorem dX7_count_185 : decode cX7_count 185 = .ok (.getfield 10, 3) := by decide +kernel
theorem dX7_count_188 : decode cX7_count 188 = .ok (.getfield 260, 3) := by decide +kernel
theorem dX7_count_191 : decode cX7_count 191 = .ok (.iload_n 1, 1) := by decide +kernel
theorem dX7_count_192 : decode cX7_count 192 = .ok (.bipush 12, 2) := by decide +kernel
theorem dX7_count_194 : decode cX7_count 194 = .ok (.isub, 1) := by decide +kernel
theorem dX7_count_195 : decode cX7_count 195 = .ok (.iaload, 1) := by decide +kernel
theorem dX7_count_196 : decode cX7_count 196 = .ok (.ireturn, 1) := by decide +kernel
theorem dX7_count_197 : decode cX7_count 197 = .ok (.aload_n 0, 1) := by decide +kernel
theorem dX7_count_198 : decode cX7_count 198 = .ok (.getfield 34, 3) := by decide +kernel
theorem dX7_count_201 : decode cX7_count 201 = .ok (.getfield 113, 3) := by decide +kernel
theorem dX7_count_204 : decode cX7_count 204 = .ok (.ireturn, 1) := by decide +kernel
theorem dX7_count_205 : decode cX7_count 205 = .ok (.aload_n 0, 1) := by decide +kernel
theorem dX7_count_206 : decode cX7_count 206 = .ok (.getfield 19, 3) := by decide +kernel
theorem dX7_count_209 : decode cX7_count 209 = .ok (.getfield 263, 3) := by decide +kernel
theorem dX7_count_212 : decode cX7_count 212 = .ok (.ireturn, 1) := by decide +kernel
theorem dX7_count_213 : decode cX7_count 213 = .ok (.bipush (-2), 2) := by decide +kernel
theorem dX7_count_215 : decode cX7_count 215 = .ok (.ireturn, 1) := by decide +kernel
theorem dX7_step_0 : decode cX7_step 0 = .ok (.iload_n 1, 1) := by decide +kernel
theorem dX7_step_1 : decode cX7_step 1 = .ok (.invokestatic 124, 3) := by decide +kernel
theorem dX7_step_4 : decode cX7_step 4 = .ok (.ifCond .ne 5, 3) := by decide +kernel
theorem dX7_step_7 : decode cX7_step 7 = .ok (.iconst (-1), 1) := by decide +kernel
theorem dX7_step_8 : decode cX7_step 8 = .ok (.ireturn, 1) := by decide +kernel
theorem dX7_step_9 : decode cX7_step 9 = .ok (.iload_n 2, 1) := by decide +kernel
theorem dX7_step_10 : decode cX7_step 10 = .ok (.iconst 0, 1) := by decide +kernel
theorem dX7_step_11 : decode cX7_step 11 = .ok (.iconst 1, 1) := by decide +kernel
theorem dX7_step_12 : decode cX7_step 12 = .ok (.invokestatic 209, 3) := by decide +kernel
theorem dX7_step_15 : decode cX7_step 15 = .ok (.ifCond .eq 6, 3) := by decide +kernel
theorem dX7_step_18 : decode cX7_step 18 = .ok (.bipush (-2), 2) := by decide +kernel
theorem dX7_step_20 : decode cX7_step 20 = .ok (.ireturn, 1) := by decide +kernel
theorem dX7_step_21 : decode cX7_step 21 = .ok (.aload_n 0, 1) := by decide +kernel
theorem dX7_step_22 : decode cX7_step 22 = .ok (.getfield 10, 3) := by decide +kernel
theorem dX7_step_25 : decode cX7_step 25 = .ok (.getfield 260, 3) := by decide +kernel
theorem dX7_step_28 : decode cX7_step 28 = .ok (.iconst 2, 1) := by decide +kernel
theorem dX7_step_29 : decode cX7_step 29 = .ok (.iaload, 1) := by decide +kernel
theorem dX7_step_30 : decode cX7_step 30 = .ok (.istore_n 3, 1) := by decide +kernel
theorem dX7_step_31 : decode cX7_step 31 = .ok (.aload_n 0, 1) := by decide +kernel
theorem dX7_step_32 : decode cX7_step 32 = .ok (.getfield 52, 3) := by decide +kernel
theorem dX7_step_35 : decode cX7_step 35 = .ok (.aload_n 0, 1) := by decide +kernel
theorem dX7_step_36 : decode cX7_step 36 = .ok (.getfield 10, 3) := by decide +kernel
theorem dX7_step_39 : decode cX7_step 39 = .ok (.iload_n 3, 1) := by decide +kernel
theorem dX7_step_40 : decode cX7_step 40 = .ok (.invokevirtual 215, 3) := by decide +kernel
theorem dX7_step_43 : decode cX7_step 43 = .ok (.aload_n 0, 1) := by decide +kernel
theorem dX7_step_44 : decode cX7_step 44 = .ok (.getfield 52, 3) := by decide +kernel
theorem dX7_step_47 : decode cX7_step 47 = .ok (.aload_n 0, 1) := by decide +kernel
theorem dX7_step_48 : decode cX7_step 48 = .ok (.getfield 10, 3) := by decide +kernel
theorem dX7_step_51 : decode cX7_step 51 = .ok (.iload_n 1, 1) := by decide +kernel
theorem dX7_step_52 : decode cX7_step 52 = .ok (.iload_n 3, 1) := by decide +kernel
theorem dX7_step_53 : decode cX7_step 53 = .ok (.invokevirtual 266, 3) := by decide +kernel
theorem dX7_step_56 : decode cX7_step 56 = .ok (.istore 4, 2) := by decide +kernel
theorem dX7_step_58 : decode cX7_step 58 = .ok (.iload_n 2, 1) := by decide +kernel
theorem dX7_step_59 : decode cX7_step 59 = .ok (.ifCond .ne 6, 3) := by decide +kernel
theorem dX7_step_62 : decode cX7_step 62 = .ok (.iload 4, 2) := by decide +kernel
theorem dX7_step_64 : decode cX7_step 64 = .ok (.ireturn, 1) := by decide +kernel
theorem dX7_step_65 : decode cX7_step 65 = .ok (.aload_n 0, 1) := by decide +kernel
theorem dX7_step_66 : decode cX7_step 66 = .ok (.getfield 10, 3) := by decide +kernel
theorem dX7_step_69 : decode cX7_step 69 = .ok (.iload 4, 2) := by decide +kernel
theorem dX7_step_71 : decode cX7_step 71 = .ok (.invokevirtual 137, 3) := by decide +kernel
theorem dX7_step_74 : decode cX7_step 74 = .ok (.ifCond .ne 5, 3) := by decide +kernel
theorem dX7_step_77 : decode cX7_step 77 = .ok (.iconst 0, 1) := by decide +kernel
theorem dX7_step_78 : decode cX7_step 78 = .ok (.ireturn, 1) := by decide +kernel
theorem dX7_step_79 : decode cX7_step 79 = .ok (.aload_n 0, 1) := by decide +kernel
theorem dX7_step_80 : decode cX7_step 80 = .ok (.getfield 52, 3) := by decide +kernel
theorem dX7_step_83 : decode cX7_step 83 = .ok (.aload_n 0, 1) := by decide +kernel
theorem dX7_step_84 : decode cX7_step 84 = .ok (.getfield 10, 3) := by decide +kernel
theorem dX7_step_87 : decode cX7_step 87 = .ok (.getfield 140, 3) := by decide +kernel
theorem dX7_step_90 : decode cX7_step 90 = .ok (.iload 4, 2) := by decide +kernel
theorem dX7_step_92 : decode cX7_step 92 = .ok (.aaload, 1) := by decide +kernel
theorem dX7_step_93 : decode cX7_step 93 = .ok (.iload_n 1, 1) := by decide +kernel
theorem dX7_step_94 : decode cX7_step 94 = .ok (.iload_n 3, 1) := by decide +kernel
theorem dX7_step_95 : decode cX7_step 95 = .ok (.invokevirtual 270, 3) := by decide +kernel
theorem dX7_step_98 : decode cX7_step 98 = .ok (.ifCond .ne 7, 3) := by decide +kernel
theorem dX7_step_101 : decode cX7_step 101 = .ok (.iconst 1, 1) := by decide +kernel
theorem dX7_step_102 : decode cX7_step 102 = .ok (.goto 4, 3) := by decide +kernel
theorem dX7_step_105 : decode cX7_step 105 = .ok (.iconst 0, 1) := by decide +kernel
theorem dX7_step_106 : decode cX7_step 106 = .ok (.invokestatic 166, 3) := by decide +kernel
theorem dX7_step_109 : decode cX7_step 109 = .ok (.ireturn, 1) := by decide +kernel
theorem dX7_fewestGuards_0 : decode cX7_fewestGuards 0 = .ok (.aload_n 0, 1) := by decide +kernel
theorem dX7_fewestGuards_1 : decode cX7_fewestGuards 1 = .ok (.getfield 10, 3) := by decide +kernel
theorem dX7_fewestGuards_4 : decode cX7_fewestGuards 4 = .ok (.iload_n 1, 1) := by decide +kernel
theorem dX7_fewestGuards_5 : decode cX7_fewestGuards 5 = .ok (.invokevirtual 137, 3) := by decide +kernel
theorem dX7_fewestGuards_8 : decode cX7_fewestGuards 8 = .ok (.ifCond .ne 5, 3) := by decide +kernel
theorem dX7_fewestGuards_11 : decode cX7_fewestGuards 11 = .ok (.iconst (-1), 1) := by decide +kernel
theorem dX7_fewestGuards_12 : decode cX7_fewestGuards 12 = .ok (.ireturn, 1) := by decide +kernel
theorem dX7_fewestGuards_13 : decode cX7_fewestGuards 13 = .ok (.aload_n 0, 1) := by decide +kernel
theorem dX7_fewestGuards_14 : decode cX7_fewestGuards 14 = .ok (.getfield 10, 3) := by decide +kernel
theorem dX7_fewestGuards_17 : decode cX7_fewestGuards 17 = .ok (.getfield 92, 3) := by decide +kernel
theorem dX7_fewestGuards_20 : decode cX7_fewestGuards 20 = .ok (.aload_n 0, 1) := by decide +kernel
theorem dX7_fewestGuards_21 : decode cX7_fewestGuards 21 = .ok (.getfield 10, 3) := by decide +kernel
theorem dX7_fewestGuards_24 : decode cX7_fewestGuards 24 = .ok (.getfield 140, 3) := by decide +kernel
theorem dX7_fewestGuards_27 : decode cX7_fewestGuards 27 = .ok (.iload_n 1, 1) := by decide +kernel
theorem dX7_fewestGuards_28 : decode cX7_fewestGuards 28 = .ok (.aaload, 1) := by decide +kernel
theorem dX7_fewestGuards_29 : decode cX7_fewestGuards 29 = .ok (.getfield 144, 3) := by decide +kernel
theorem dX7_fewestGuards_32 : decode cX7_fewestGuards 32 = .ok (.iaload, 1) := by decide +kernel
theorem dX7_fewestGuards_33 : decode cX7_fewestGuards 33 = .ok (.istore_n 2, 1) := by decide +kernel
theorem dX7_fewestGuards_34 : decode cX7_fewestGuards 34 = .ok (.aload_n 0, 1) := by decide +kernel
theorem dX7_fewestGuards_35 : decode cX7_fewestGuards 35 = .ok (.getfield 10, 3) := by decide +kernel
theorem dX7_fewestGuards_38 : decode cX7_fewestGuards 38 = .ok (.getfield 92, 3) := by decide +kernel
theorem dX7_fewestGuards_41 : decode cX7_fewestGuards 41 = .ok (.aload_n 0, 1) := by decide +kernel
theorem dX7_fewestGuards_42 : decode cX7_fewestGuards 42 = .ok (.getfield 10, 3) := by decide +kernel
theorem dX7_fewestGuards_45 : decode cX7_fewestGuards 45 = .ok (.getfield 140, 3) := by decide +kernel
theorem dX7_fewestGuards_48 : decode cX7_fewestGuards 48 = .ok (.iload_n 1, 1) := by decide +kernel
theorem dX7_fewestGuards_49 : decode cX7_fewestGuards 49 = .ok (.aaload, 1) := by decide +kernel
theorem dX7_fewestGuards_50 : decode cX7_fewestGuards 50 = .ok (.getfield 149, 3) := by decide +kernel
theorem dX7_fewestGuards_53 : decode cX7_fewestGuards 53 = .ok (.iaload, 1) := by decide +kernel
theorem dX7_fewestGuards_54 : decode cX7_fewestGuards 54 = .ok (.istore_n 3, 1) := by decide +kernel
theorem dX7_fewestGuards_55 : decode cX7_fewestGuards 55 = .ok (.iconst 0, 1) := by decide +kernel
theorem dX7_fewestGuards_56 : decode cX7_fewestGuards 56 = .ok (.istore 4, 2) := by decide +kernel
theorem dX7_fewestGuards_58 : decode cX7_fewestGuards 58 = .ok (.iload 4, 2) := by decide +kernel
theorem dX7_fewestGuards_60 : decode cX7_fewestGuards 60 = .ok (.bipush 40, 2) := by decide +kernel
theorem dX7_fewestGuards_62 : decode cX7_fewestGuards 62 = .ok (.if_icmp .gt 51, 3) := by decide +kernel
theorem dX7_fewestGuards_65 : decode cX7_fewestGuards 65 = .ok (.aload_n 0, 1) := by decide +kernel
theorem dX7_fewestGuards_66 : decode cX7_fewestGuards 66 = .ok (.getfield 10, 3) := by decide +kernel
theorem dX7_fewestGuards_69 : decode cX7_fewestGuards 69 = .ok (.iload 4, 2) := by decide +kernel
theorem dX7_fewestGuards_71 : decode cX7_fewestGuards 71 = .ok (.invokevirtual 274, 3) := by decide +kernel
theorem dX7_fewestGuards_74 : decode cX7_fewestGuards 74 = .ok (.istore 5, 2) := by decide +kernel
theorem dX7_fewestGuards_76 : decode cX7_fewestGuards 76 = .ok (.iload_n 3, 1) := by decide +kernel
theorem dX7_fewestGuards_77 : decode cX7_fewestGuards 77 = .ok (.aload_n 0, 1) := by decide +kernel
theorem dX7_fewestGuards_78 : decode cX7_fewestGuards 78 = .ok (.getfield 10, 3) := by decide +kernel
theorem dX7_fewestGuards_81 : decode cX7_fewestGuards 81 = .ok (.iload_n 2, 1) := by decide +kernel
theorem dX7_fewestGuards_82 : decode cX7_fewestGuards 82 = .ok (.iload 5, 2) := by decide +kernel
theorem dX7_fewestGuards_84 : decode cX7_fewestGuards 84 = .ok (.invokevirtual 277, 3) := by decide +kernel
theorem dX7_fewestGuards_87 : decode cX7_fewestGuards 87 = .ok (.if_icmp .gt 20, 3) := by decide +kernel
theorem dX7_fewestGuards_90 : decode cX7_fewestGuards 90 = .ok (.iload_n 2, 1) := by decide +kernel
theorem dX7_fewestGuards_91 : decode cX7_fewestGuards 91 = .ok (.aload_n 0, 1) := by decide +kernel
theorem dX7_fewestGuards_92 : decode cX7_fewestGuards 92 = .ok (.getfield 10, 3) := by decide +kernel
theorem dX7_fewestGuards_95 : decode cX7_fewestGuards 95 = .ok (.iload_n 3, 1) := by decide +kernel
theorem dX7_fewestGuards_96 : decode cX7_fewestGuards 96 = .ok (.iload 5, 2) := by decide +kernel
theorem dX7_fewestGuards_98 : decode cX7_fewestGuards 98 = .ok (.invokevirtual 277, 3) := by decide +kernel
theorem dX7_fewestGuards_101 : decode cX7_fewestGuards 101 = .ok (.if_icmp .gt 6, 3) := by decide +kernel
theorem dX7_fewestGuards_104 : decode cX7_fewestGuards 104 = .ok (.iload 4, 2) := by decide +kernel
theorem dX7_fewestGuards_106 : decode cX7_fewestGuards 106 = .ok (.ireturn, 1) := by decide +kernel
theorem dX7_fewestGuards_107 : decode cX7_fewestGuards 107 = .ok (.iinc 4 1, 3) := by decide +kernel
theorem dX7_fewestGuards_110 : decode cX7_fewestGuards 110 = .ok (.goto (-52), 3) := by decide +kernel
theorem dX7_fewestGuards_113 : decode cX7_fewestGuards 113 = .ok (.bipush (-6), 2) := by decide +kernel
theorem dX7_fewestGuards_115 : decode cX7_fewestGuards 115 = .ok (.ireturn, 1) := by decide +kernel
theorem dX7_mostPrice_0 : decode cX7_mostPrice 0 = .ok (.iload_n 1, 1) := by decide +kernel
theorem dX7_mostPrice_1 : decode cX7_mostPrice 1 = .ok (.invokestatic 124, 3) := by decide +kernel
theorem dX7_mostPrice_4 : decode cX7_mostPrice 4 = .ok (.ifCond .ne 5, 3) := by decide +kernel
theorem dX7_mostPrice_7 : decode cX7_mostPrice 7 = .ok (.iconst (-1), 1) := by decide +kernel
theorem dX7_mostPrice_8 : decode cX7_mostPrice 8 = .ok (.ireturn, 1) := by decide +kernel
theorem dX7_mostPrice_9 : decode cX7_mostPrice 9 = .ok (.sipush 999, 3) := by decide +kernel
theorem dX7_mostPrice_12 : decode cX7_mostPrice 12 = .ok (.istore_n 2, 1) := by decide +kernel
theorem dX7_mostPrice_13 : decode cX7_mostPrice 13 = .ok (.iconst 0, 1) := by decide +kernel
theorem dX7_mostPrice_14 : decode cX7_mostPrice 14 = .ok (.istore_n 3, 1) := by decide +kernel
theorem dX7_mostPrice_15 : decode cX7_mostPrice 15 = .ok (.iload_n 3, 1) := by decide +kernel
theorem dX7_mostPrice_16 : decode cX7_mostPrice 16 = .ok (.aload_n 0, 1) := by decide +kernel
theorem dX7_mostPrice_17 : decode cX7_mostPrice 17 = .ok (.getfield 10, 3) := by decide +kernel
theorem dX7_mostPrice_20 : decode cX7_mostPrice 20 = .ok (.getfield 226, 3) := by decide +kernel
theorem dX7_mostPrice_23 : decode cX7_mostPrice 23 = .ok (.if_icmp .ge 57, 3) := by decide +kernel
theorem dX7_mostPrice_26 : decode cX7_mostPrice 26 = .ok (.aload_n 0, 1) := by decide +kernel
theorem dX7_mostPrice_27 : decode cX7_mostPrice 27 = .ok (.getfield 10, 3) := by decide +kernel
theorem dX7_mostPrice_30 : decode cX7_mostPrice 30 = .ok (.getfield 140, 3) := by decide +kernel
theorem dX7_mostPrice_33 : decode cX7_mostPrice 33 = .ok (.iload_n 3, 1) := by decide +kernel
theorem dX7_mostPrice_34 : decode cX7_mostPrice 34 = .ok (.aaload, 1) := by decide +kernel
theorem dX7_mostPrice_35 : decode cX7_mostPrice 35 = .ok (.astore 4, 2) := by decide +kernel
theorem dX7_mostPrice_37 : decode cX7_mostPrice 37 = .ok (.aload 4, 2) := by decide +kernel
theorem dX7_mostPrice_39 : decode cX7_mostPrice 39 = .ok (.iload_n 1, 1) := by decide +kernel
theorem dX7_mostPrice_40 : decode cX7_mostPrice 40 = .ok (.invokevirtual 280, 3) := by decide +kernel
theorem dX7_mostPrice_43 : decode cX7_mostPrice 43 = .ok (.ifCond .eq 31, 3) := by decide +kernel
theorem dX7_mostPrice_46 : decode cX7_mostPrice 46 = .ok (.iload_n 2, 1) := by decide +kernel
theorem dX7_mostPrice_47 : decode cX7_mostPrice 47 = .ok (.aload_n 0, 1) := by decide +kernel
theorem dX7_mostPrice_48 : decode cX7_mostPrice 48 = .ok (.getfield 10, 3) := by decide +kernel
theorem dX7_mostPrice_51 : decode cX7_mostPrice 51 = .ok (.aload 4, 2) := by decide +kernel
theorem dX7_mostPrice_53 : decode cX7_mostPrice 53 = .ok (.aload_n 0, 1) := by decide +kernel
theorem dX7_mostPrice_54 : decode cX7_mostPrice 54 = .ok (.getfield 10, 3) := by decide +kernel
theorem dX7_mostPrice_57 : decode cX7_mostPrice 57 = .ok (.getfield 92, 3) := by decide +kernel
theorem dX7_mostPrice_60 : decode cX7_mostPrice 60 = .ok (.aload 4, 2) := by decide +kernel
theorem dX7_mostPrice_62 : decode cX7_mostPrice 62 = .ok (.iload_n 1, 1) := by decide +kernel
theorem dX7_mostPrice_63 : decode cX7_mostPrice 63 = .ok (.invokevirtual 283, 3) := by decide +kernel
theorem dX7_mostPrice_66 : decode cX7_mostPrice 66 = .ok (.iaload, 1) := by decide +kernel
theorem dX7_mostPrice_67 : decode cX7_mostPrice 67 = .ok (.invokevirtual 286, 3) := by decide +kernel
theorem dX7_mostPrice_70 : decode cX7_mostPrice 70 = .ok (.invokestatic 290, 3) := by decide +kernel
theorem dX7_mostPrice_73 : decode cX7_mostPrice 73 = .ok (.istore_n 2, 1) := by decide +kernel
theorem dX7_mostPrice_74 : decode cX7_mostPrice 74 = .ok (.iinc 3 1, 3) := by decide +kernel
theorem dX7_mostPrice_77 : decode cX7_mostPrice 77 = .ok (.goto (-62), 3) := by decide +kernel
theorem dX7_mostPrice_80 : decode cX7_mostPrice 80 = .ok (.iload_n 2, 1) := by decide +kernel
theorem dX7_mostPrice_81 : decode cX7_mostPrice 81 = .ok (.ireturn, 1) := by decide +kernel
theorem dX7_ifHonest_0 : decode cX7_ifHonest 0 = .ok (.aload_n 0, 1) := by decide +kernel
theorem dX7_ifHonest_1 : decode cX7_ifHonest 1 = .ok (.invokevirtual 88, 3) := by decide +kernel
theorem dX7_ifHonest_4 : decode cX7_ifHonest 4 = .ok (.ireturn, 1) := by decide +kernel
theorem dX7_undo_0 : decode cX7_undo 0 = .ok (.aload_n 0, 1) := by decide +kernel
theorem dX7_undo_1 : decode cX7_undo 1 = .ok (.getfield 19, 3) := by decide +kernel
theorem dX7_undo_4 : decode cX7_undo 4 = .ok (.getfield 263, 3) := by decide +kernel
theorem dX7_undo_7 : decode cX7_undo 7 = .ok (.ifCond .ne 6, 3) := by decide +kernel
theorem dX7_undo_10 : decode cX7_undo 10 = .ok (.bipush (-5), 2) := by decide +kernel
theorem dX7_undo_12 : decode cX7_undo 12 = .ok (.ireturn, 1) := by decide +kernel
theorem dX7_undo_13 : decode cX7_undo 13 = .ok (.aload_n 0, 1) := by decide +kernel
theorem dX7_undo_14 : decode cX7_undo 14 = .ok (.getfield 19, 3) := by decide +kernel
theorem dX7_undo_17 : decode cX7_undo 17 = .ok (.aload_n 0, 1) := by decide +kernel
theorem dX7_undo_18 : decode cX7_undo 18 = .ok (.getfield 10, 3) := by decide +kernel
theorem dX7_undo_21 : decode cX7_undo 21 = .ok (.invokevirtual 318, 3) := by decide +kernel
theorem dX7_undo_24 : decode cX7_undo 24 = .ok (.aload_n 0, 1) := by decide +kernel
theorem dX7_undo_25 : decode cX7_undo 25 = .ok (.getfield 19, 3) := by decide +kernel
theorem dX7_undo_28 : decode cX7_undo 28 = .ok (.getfield 263, 3) := by decide +kernel
theorem dX7_undo_31 : decode cX7_undo 31 = .ok (.ireturn, 1) := by decide +kernel
theorem dX7_isOutside_0 : decode cX7_isOutside 0 = .ok (.iload_n 0, 1) := by decide +kernel
theorem dX7_isOutside_1 : decode cX7_isOutside 1 = .ok (.iload_n 1, 1) := by decide +kernel
theorem dX7_isOutside_2 : decode cX7_isOutside 2 = .ok (.if_icmp .lt 8, 3) := by decide +kernel
theorem dX7_isOutside_5 : decode cX7_isOutside 5 = .ok (.iload_n 0, 1) := by decide +kernel
theorem dX7_isOutside_6 : decode cX7_isOutside 6 = .ok (.iload_n 2, 1) := by decide +kernel
theorem dX7_isOutside_7 : decode cX7_isOutside 7 = .ok (.if_icmp .le 7, 3) := by decide +kernel
theorem dX7_isOutside_10 : decode cX7_isOutside 10 = .ok (.iconst 1, 1) := by decide +kernel
theorem dX7_isOutside_11 : decode cX7_isOutside 11 = .ok (.goto 4, 3) := by decide +kernel
theorem dX7_isOutside_14 : decode cX7_isOutside 14 = .ok (.iconst 0, 1) := by decide +kernel
theorem dX7_isOutside_15 : decode cX7_isOutside 15 = .ok (.ireturn, 1) := by decide +kernel
theorem dX7_isTown_0 : decode cX7_isTown 0 = .ok (.iload_n 0, 1) := by decide +kernel
theorem dX7_isTown_1 : decode cX7_isTown 1 = .ok (.iconst 0, 1) := by decide +kernel
theorem dX7_isTown_2 : decode cX7_isTown 2 = .ok (.bipush 7, 2) := by decide +kernel
theorem dX7_isTown_4 : decode cX7_isTown 4 = .ok (.invokestatic 209, 3) := by decide +kernel
theorem dX7_isTown_7 : decode cX7_isTown 7 = .ok (.ifCond .ne 7, 3) := by decide +kernel
theorem dX7_isTown_10 : decode cX7_isTown 10 = .ok (.iconst 1, 1) := by decide +kernel
theorem dX7_isTown_11 : decode cX7_isTown 11 = .ok (.goto 4, 3) := by decide +kernel
theorem dX7_isTown_14 : decode cX7_isTown 14 = .ok (.iconst 0, 1) := by decide +kernel
theorem dX7_isTown_15 : decode cX7_isTown 15 = .ok (.ireturn, 1) := by decide +kernel
theorem dX7_bit_0 : decode cX7_bit 0 = .ok (.iload_n 0, 1) := by decide +kernel
theorem dX7_bit_1 : decode cX7_bit 1 = .ok (.ifCond .eq 7, 3) := by decide +kernel
theorem dX7_bit_4 : decode cX7_bit 4 = .ok (.iconst 1, 1) := by decide +kernel
theorem dX7_bit_5 : decode cX7_bit 5 = .ok (.goto 4, 3) := by decide +kernel
theorem dX7_bit_8 : decode cX7_bit 8 = .ok (.iconst 0, 1) := by decide +kernel
theorem dX7_bit_9 : decode cX7_bit 9 = .ok (.ireturn, 1) := by decide +kernel
theorem dX7_recorded_0 : decode cX7_recorded 0 = .ok (.iload_n 1, 1) := by decide +kernel
theorem dX7_recorded_1 : decode cX7_recorded 1 = .ok (.ifCond .lt 10, 3) := by decide +kernel
theorem dX7_recorded_4 : decode cX7_recorded 4 = .ok (.aload_n 0, 1) := by decide +kernel
theorem dX7_recorded_5 : decode cX7_recorded 5 = .ok (.getfield 19, 3) := by decide +kernel
theorem dX7_recorded_8 : decode cX7_recorded 8 = .ok (.invokevirtual 324, 3) := by decide +kernel
theorem dX7_recorded_11 : decode cX7_recorded 11 = .ok (.iload_n 1, 1) := by decide +kernel
theorem dX7_recorded_12 : decode cX7_recorded 12 = .ok (.ireturn, 1) := by decide +kernel
theorem dX7_findHonestPrices_0 : decode cX7_findHonestPrices 0 = .ok (.aload_n 0, 1) := by decide +kernel
theorem dX7_findHonestPrices_1 : decode cX7_findHonestPrices 1 = .ok (.getfield 10, 3) := by decide +kernel
theorem dX7_findHonestPrices_4 : decode cX7_findHonestPrices 4 = .ok (.getfield 92, 3) := by decide +kernel
theorem dX7_findHonestPrices_7 : decode cX7_findHonestPrices 7 = .ok (.iconst 0, 1) := by decide +kernel
theorem dX7_findHonestPrices_8 : decode cX7_findHonestPrices 8 = .ok (.aload_n 0, 1) := by decide +kernel
theorem dX7_findHonestPrices_9 : decode cX7_findHonestPrices 9 = .ok (.getfield 59, 3) := by decide +kernel
theorem dX7_findHonestPrices_12 : decode cX7_findHonestPrices 12 = .ok (.iconst 0, 1) := by decide +kernel
theorem dX7_findHonestPrices_13 : decode cX7_findHonestPrices 13 = .ok (.bipush 8, 2) := by decide +kernel
theorem dX7_findHonestPrices_15 : decode cX7_findHonestPrices 15 = .ok (.invokestatic 95, 3) := by decide +kernel
theorem dX7_findHonestPrices_18 : decode cX7_findHonestPrices 18 = .ok (.iconst 0, 1) := by decide +kernel
theorem dX7_findHonestPrices_19 : decode cX7_findHonestPrices 19 = .ok (.istore_n 1, 1) := by decide +kernel
theorem dX7_findHonestPrices_20 : decode cX7_findHonestPrices 20 = .ok (.iload_n 1, 1) := by decide +kernel
theorem dX7_findHonestPrices_21 : decode cX7_findHonestPrices 21 = .ok (.bipush 8, 2) := by decide +kernel
theorem dX7_findHonestPrices_23 : decode cX7_findHonestPrices 23 = .ok (.if_icmp .ge 64, 3) := by decide +kernel
theorem dX7_findHonestPrices_26 : decode cX7_findHonestPrices 26 = .ok (.iconst 0, 1) := by decide +kernel
theorem dX7_findHonestPrices_27 : decode cX7_findHonestPrices 27 = .ok (.istore_n 2, 1) := by decide +kernel
theorem dX7_findHonestPrices_28 : decode cX7_findHonestPrices 28 = .ok (.iload_n 2, 1) := by decide +kernel
theorem dX7_findHonestPrices_29 : decode cX7_findHonestPrices 29 = .ok (.aload_n 0, 1) := by decide +kernel
theorem dX7_findHonestPrices_30 : decode cX7_findHonestPrices 30 = .ok (.getfield 10, 3) := by decide +kernel
theorem dX7_findHonestPrices_33 : decode cX7_findHonestPrices 33 = .ok (.getfield 226, 3) := by decide +kernel
theorem dX7_findHonestPrices_36 : decode cX7_findHonestPrices 36 = .ok (.if_icmp .ge 45, 3) := by decide +kernel
theorem dX7_findHonestPrices_39 : decode cX7_findHonestPrices 39 = .ok (.aload_n 0, 1) := by decide +kernel
theorem dX7_findHonestPrices_40 : decode cX7_findHonestPrices 40 = .ok (.getfield 10, 3) := by decide +kernel
theorem dX7_findHonestPrices_43 : decode cX7_findHonestPrices 43 = .ok (.getfield 140, 3) := by decide +kernel
theorem dX7_findHonestPrices_46 : decode cX7_findHonestPrices 46 = .ok (.iload_n 2, 1) := by decide +kernel
theorem dX7_findHonestPrices_47 : decode cX7_findHonestPrices 47 = .ok (.aaload, 1) := by decide +kernel
theorem dX7_findHonestPrices_48 : decode cX7_findHonestPrices 48 = .ok (.astore_n 3, 1) := by decide +kernel
theorem dX7_findHonestPrices_49 : decode cX7_findHonestPrices 49 = .ok (.aload_n 0, 1) := by decide +kernel
theorem dX7_findHonestPrices_50 : decode cX7_findHonestPrices 50 = .ok (.aload_n 3, 1) := by decide +kernel
theorem dX7_findHonestPrices_51 : decode cX7_findHonestPrices 51 = .ok (.aload_n 3, 1) := by decide +kernel
theorem dX7_findHonestPrices_52 : decode cX7_findHonestPrices 52 = .ok (.getfield 144, 3) := by decide +kernel
theorem dX7_findHonestPrices_55 : decode cX7_findHonestPrices 55 = .ok (.aload_n 3, 1) := by decide +kernel
theorem dX7_findHonestPrices_56 : decode cX7_findHonestPrices 56 = .ok (.getfield 149, 3) := by decide +kernel
theorem dX7_findHonestPrices_59 : decode cX7_findHonestPrices 59 = .ok (.invokevirtual 327, 3) := by decide +kernel
theorem dX7_findHonestPrices_62 : decode cX7_findHonestPrices 62 = .ok (.aload_n 0, 1) := by decide +kernel
theorem dX7_findHonestPrices_63 : decode cX7_findHonestPrices 63 = .ok (.aload_n 3, 1) := by decide +kernel
theorem dX7_findHonestPrices_64 : decode cX7_findHonestPrices 64 = .ok (.aload_n 3, 1) := by decide +kernel
theorem dX7_findHonestPrices_65 : decode cX7_findHonestPrices 65 = .ok (.getfield 149, 3) := by decide +kernel
theorem dX7_findHonestPrices_68 : decode cX7_findHonestPrices 68 = .ok (.aload_n 3, 1) := by decide +kernel
theorem dX7_findHonestPrices_69 : decode cX7_findHonestPrices 69 = .ok (.getfield 144, 3) := by decide +kernel
theorem dX7_findHonestPrices_72 : decode cX7_findHonestPrices 72 = .ok (.invokevirtual 327, 3) := by decide +kernel
theorem dX7_findHonestPrices_75 : decode cX7_findHonestPrices 75 = .ok (.iinc 2 1, 3) := by decide +kernel
theorem dX7_findHonestPrices_78 : decode cX7_findHonestPrices 78 = .ok (.goto (-50), 3) := by decide +kernel
theorem dX7_findHonestPrices_81 : decode cX7_findHonestPrices 81 = .ok (.iinc 1 1, 3) := by decide +kernel
theorem dX7_findHonestPrices_84 : decode cX7_findHonestPrices 84 = .ok (.goto (-64), 3) := by decide +kernel
theorem dX7_findHonestPrices_87 : decode cX7_findHonestPrices 87 = .ok (.iconst 0, 1) := by decide +kernel
theorem dX7_findHonestPrices_88 : decode cX7_findHonestPrices 88 = .ok (.istore_n 1, 1) := by decide +kernel
theorem dX7_findHonestPrices_89 : decode cX7_findHonestPrices 89 = .ok (.iconst 0, 1) := by decide +kernel
theorem dX7_findHonestPrices_90 : decode cX7_findHonestPrices 90 = .ok (.istore_n 2, 1) := by decide +kernel
theorem dX7_findHonestPrices_91 : decode cX7_findHonestPrices 91 = .ok (.iload_n 2, 1) := by decide +kernel
theorem dX7_findHonestPrices_92 : decode cX7_findHonestPrices 92 = .ok (.bipush 8, 2) := by decide +kernel
theorem dX7_findHonestPrices_94 : decode cX7_findHonestPrices 94 = .ok (.if_icmp .ge 38, 3) := by decide +kernel
theorem dX7_findHonestPrices_97 : decode cX7_findHonestPrices 97 = .ok (.iload_n 1, 1) := by decide +kernel
theorem dX7_findHonestPrices_98 : decode cX7_findHonestPrices 98 = .ok (.aload_n 0, 1) := by decide +kernel
theorem dX7_findHonestPrices_99 : decode cX7_findHonestPrices 99 = .ok (.getfield 59, 3) := by decide +kernel
theorem dX7_findHonestPrices_102 : decode cX7_findHonestPrices 102 = .ok (.iload_n 2, 1) := by decide +kernel
theorem dX7_findHonestPrices_103 : decode cX7_findHonestPrices 103 = .ok (.iaload, 1) := by decide +kernel
theorem dX7_findHonestPrices_104 : decode cX7_findHonestPrices 104 = .ok (.aload_n 0, 1) := by decide +kernel
theorem dX7_findHonestPrices_105 : decode cX7_findHonestPrices 105 = .ok (.getfield 10, 3) := by decide +kernel
theorem dX7_findHonestPrices_108 : decode cX7_findHonestPrices 108 = .ok (.getfield 92, 3) := by decide +kernel
theorem dX7_findHonestPrices_111 : decode cX7_findHonestPrices 111 = .ok (.iload_n 2, 1) := by decide +kernel
theorem dX7_findHonestPrices_112 : decode cX7_findHonestPrices 112 = .ok (.iaload, 1) := by decide +kernel
theorem dX7_findHonestPrices_113 : decode cX7_findHonestPrices 113 = .ok (.if_icmp .eq 7, 3) := by decide +kernel
theorem dX7_findHonestPrices_116 : decode cX7_findHonestPrices 116 = .ok (.iconst 1, 1) := by decide +kernel
theorem dX7_findHonestPrices_117 : decode cX7_findHonestPrices 117 = .ok (.goto 4, 3) := by decide +kernel
theorem dX7_findHonestPrices_120 : decode cX7_findHonestPrices 120 = .ok (.iconst 0, 1) := by decide +kernel
theorem dX7_findHonestPrices_121 : decode cX7_findHonestPrices 121 = .ok (.invokestatic 166, 3) := by decide +kernel
theorem dX7_findHonestPrices_124 : decode cX7_findHonestPrices 124 = .ok (.iadd, 1) := by decide +kernel
theorem dX7_findHonestPrices_125 : decode cX7_findHonestPrices 125 = .ok (.istore_n 1, 1) := by decide +kernel
theorem dX7_findHonestPrices_126 : decode cX7_findHonestPrices 126 = .ok (.iinc 2 1, 3) := by decide +kernel
theorem dX7_findHonestPrices_129 : decode cX7_findHonestPrices 129 = .ok (.goto (-38), 3) := by decide +kernel
theorem dX7_findHonestPrices_132 : decode cX7_findHonestPrices 132 = .ok (.iload_n 1, 1) := by decide +kernel
theorem dX7_findHonestPrices_133 : decode cX7_findHonestPrices 133 = .ok (.ireturn, 1) := by decide +kernel
theorem dX7_lowerEnd_0 : decode cX7_lowerEnd 0 = .ok (.aload_n 0, 1) := by decide +kernel
theorem dX7_lowerEnd_1 : decode cX7_lowerEnd 1 = .ok (.getfield 59, 3) := by decide +kernel
theorem dX7_lowerEnd_4 : decode cX7_lowerEnd 4 = .ok (.iload_n 3, 1) := by decide +kernel
theorem dX7_lowerEnd_5 : decode cX7_lowerEnd 5 = .ok (.aload_n 0, 1) := by decide +kernel
theorem dX7_lowerEnd_6 : decode cX7_lowerEnd 6 = .ok (.getfield 59, 3) := by decide +kernel
theorem dX7_lowerEnd_9 : decode cX7_lowerEnd 9 = .ok (.iload_n 3, 1) := by decide +kernel
theorem dX7_lowerEnd_10 : decode cX7_lowerEnd 10 = .ok (.iaload, 1) := by decide +kernel
theorem dX7_lowerEnd_11 : decode cX7_lowerEnd 11 = .ok (.aload_n 0, 1) := by decide +kernel
theorem dX7_lowerEnd_12 : decode cX7_lowerEnd 12 = .ok (.getfield 10, 3) := by decide +kernel
theorem dX7_lowerEnd_15 : decode cX7_lowerEnd 15 = .ok (.aload_n 1, 1) := by decide +kernel
theorem dX7_lowerEnd_16 : decode cX7_lowerEnd 16 = .ok (.aload_n 0, 1) := by decide +kernel
