theorem dX11_init_0 : decode cX11_init 0 = .ok (.aload_n 0, 1) := by decide +kernel
theorem dX11_init_1 : decode cX11_init 1 = .ok (.invokespecial 1, 3) := by decide +kernel
theorem dX11_init_4 : decode cX11_init 4 = .ok (.aload_n 0, 1) := by decide +kernel
theorem dX11_init_5 : decode cX11_init 5 = .ok (.new 7, 3) := by decide +kernel
theorem dX11_init_8 : decode cX11_init 8 = .ok (.dup, 1) := by decide +kernel
theorem dX11_init_9 : decode cX11_init 9 = .ok (.invokespecial 9, 3) := by decide +kernel
theorem dX11_init_12 : decode cX11_init 12 = .ok (.putfield 10, 3) := by decide +kernel
theorem dX11_init_15 : decode cX11_init 15 = .ok (.aload_n 0, 1) := by decide +kernel
theorem dX11_init_16 : decode cX11_init 16 = .ok (.new 16, 3) := by decide +kernel
theorem dX11_init_19 : decode cX11_init 19 = .ok (.dup, 1) := by decide +kernel
theorem dX11_init_20 : decode cX11_init 20 = .ok (.invokespecial 18, 3) := by decide +kernel
theorem dX11_init_23 : decode cX11_init 23 = .ok (.putfield 19, 3) := by decide +kernel
theorem dX11_init_26 : decode cX11_init 26 = .ok (.aload_n 0, 1) := by decide +kernel
theorem dX11_init_27 : decode cX11_init 27 = .ok (.new 23, 3) := by decide +kernel
theorem dX11_init_30 : decode cX11_init 30 = .ok (.dup, 1) := by decide +kernel
theorem dX11_init_31 : decode cX11_init 31 = .ok (.invokespecial 25, 3) := by decide +kernel
theorem dX11_init_34 : decode cX11_init 34 = .ok (.putfield 26, 3) := by decide +kernel
theorem dX11_init_37 : decode cX11_init 37 = .ok (.aload_n 0, 1) := by decide +kernel
theorem dX11_init_38 : decode cX11_init 38 = .ok (.new 30, 3) := by decide +kernel
theorem dX11_init_41 : decode cX11_init 41 = .ok (.dup, 1) := by decide +kernel
theorem dX11_init_42 : decode cX11_init 42 = .ok (.aload_n 0, 1) := by decide +kernel
theorem dX11_init_43 : decode cX11_init 43 = .ok (.getfield 10, 3) := by decide +kernel
theorem dX11_init_46 : decode cX11_init 46 = .ok (.invokespecial 32, 3) := by decide +kernel
theorem dX11_init_49 : decode cX11_init 49 = .ok (.putfield 35, 3) := by decide +kernel
theorem dX11_init_52 : decode cX11_init 52 = .ok (.aload_n 0, 1) := by decide +kernel
theorem dX11_init_53 : decode cX11_init 53 = .ok (.new 39, 3) := by decide +kernel
theorem dX11_init_56 : decode cX11_init 56 = .ok (.dup, 1) := by decide +kernel
theorem dX11_init_57 : decode cX11_init 57 = .ok (.aload_n 0, 1) := by decide +kernel
theorem dX11_init_58 : decode cX11_init 58 = .ok (.getfield 19, 3) := by decide +kernel
theorem dX11_init_61 : decode cX11_init 61 = .ok (.aload_n 0, 1) := by decide +kernel
theorem dX11_init_62 : decode cX11_init 62 = .ok (.getfield 26, 3) := by decide +kernel
theorem dX11_init_65 : decode cX11_init 65 = .ok (.invokespecial 41, 3) := by decide +kernel
theorem dX11_init_68 : decode cX11_init 68 = .ok (.putfield 44, 3) := by decide +kernel
theorem dX11_init_71 : decode cX11_init 71 = .ok (.aload_n 0, 1) := by decide +kernel
theorem dX11_init_72 : decode cX11_init 72 = .ok (.new 39, 3) := by decide +kernel
theorem dX11_init_75 : decode cX11_init 75 = .ok (.dup, 1) := by decide +kernel
theorem dX11_init_76 : decode cX11_init 76 = .ok (.aload_n 0, 1) := by decide +kernel
theorem dX11_init_77 : decode cX11_init 77 = .ok (.getfield 19, 3) := by decide +kernel
theorem dX11_init_80 : decode cX11_init 80 = .ok (.aload_n 0, 1) := by decide +kernel
theorem dX11_init_81 : decode cX11_init 81 = .ok (.getfield 26, 3) := by decide +kernel
theorem dX11_init_84 : decode cX11_init 84 = .ok (.invokespecial 41, 3) := by decide +kernel
theorem dX11_init_87 : decode cX11_init 87 = .ok (.putfield 48, 3) := by decide +kernel
theorem dX11_init_90 : decode cX11_init 90 = .ok (.aload_n 0, 1) := by decide +kernel
theorem dX11_init_91 : decode cX11_init 91 = .ok (.new 51, 3) := by decide +kernel
theorem dX11_init_94 : decode cX11_init 94 = .ok (.dup, 1) := by decide +kernel
theorem dX11_init_95 : decode cX11_init 95 = .ok (.aload_n 0, 1) := by decide +kernel
theorem dX11_init_96 : decode cX11_init 96 = .ok (.getfield 19, 3) := by decide +kernel
theorem dX11_init_99 : decode cX11_init 99 = .ok (.aload_n 0, 1) := by decide +kernel
theorem dX11_init_100 : decode cX11_init 100 = .ok (.getfield 26, 3) := by decide +kernel
theorem dX11_init_103 : decode cX11_init 103 = .ok (.invokespecial 53, 3) := by decide +kernel
theorem dX11_init_106 : decode cX11_init 106 = .ok (.putfield 54, 3) := by decide +kernel
theorem dX11_init_109 : decode cX11_init 109 = .ok (.aload_n 0, 1) := by decide +kernel
theorem dX11_init_110 : decode cX11_init 110 = .ok (.new 58, 3) := by decide +kernel
theorem dX11_init_113 : decode cX11_init 113 = .ok (.dup, 1) := by decide +kernel
theorem dX11_init_114 : decode cX11_init 114 = .ok (.invokespecial 60, 3) := by decide +kernel
theorem dX11_init_117 : decode cX11_init 117 = .ok (.putfield 61, 3) := by decide +kernel
theorem dX11_init_120 : decode cX11_init 120 = .ok (.aload_n 0, 1) := by decide +kernel
theorem dX11_init_121 : decode cX11_init 121 = .ok (.new 65, 3) := by decide +kernel
theorem dX11_init_124 : decode cX11_init 124 = .ok (.dup, 1) := by decide +kernel
theorem dX11_init_125 : decode cX11_init 125 = .ok (.invokespecial 67, 3) := by decide +kernel
theorem dX11_init_128 : decode cX11_init 128 = .ok (.putfield 68, 3) := by decide +kernel
theorem dX11_init_131 : decode cX11_init 131 = .ok (.aload_n 0, 1) := by decide +kernel
theorem dX11_init_132 : decode cX11_init 132 = .ok (.new 72, 3) := by decide +kernel
theorem dX11_init_135 : decode cX11_init 135 = .ok (.dup, 1) := by decide +kernel
theorem dX11_init_136 : decode cX11_init 136 = .ok (.invokespecial 74, 3) := by decide +kernel
theorem dX11_init_139 : decode cX11_init 139 = .ok (.putfield 75, 3) := by decide +kernel
theorem dX11_init_142 : decode cX11_init 142 = .ok (.return_, 1) := by decide +kernel
theorem dX11_clerk_0 : decode cX11_clerk 0 = .ok (.iload_n 1, 1) := by decide +kernel
theorem dX11_clerk_1 : decode cX11_clerk 1 = .ok (.sipush 1000, 3) := by decide +kernel
theorem dX11_clerk_4 : decode cX11_clerk 4 = .ok (.invokestatic 79, 3) := by decide +kernel
theorem dX11_clerk_7 : decode cX11_clerk 7 = .ok (.ifCond .ne 12, 3) := by decide +kernel
theorem dX11_clerk_10 : decode cX11_clerk 10 = .ok (.iload_n 2, 1) := by decide +kernel
theorem dX11_clerk_11 : decode cX11_clerk 11 = .ok (.bipush 100, 2) := by decide +kernel
theorem dX11_clerk_13 : decode cX11_clerk 13 = .ok (.invokestatic 79, 3) := by decide +kernel
theorem dX11_clerk_16 : decode cX11_clerk 16 = .ok (.ifCond .eq 5, 3) := by decide +kernel
theorem dX11_clerk_19 : decode cX11_clerk 19 = .ok (.iconst (-1), 1) := by decide +kernel
theorem dX11_clerk_20 : decode cX11_clerk 20 = .ok (.ireturn, 1) := by decide +kernel
theorem dX11_clerk_21 : decode cX11_clerk 21 = .ok (.aload_n 0, 1) := by decide +kernel
theorem dX11_clerk_22 : decode cX11_clerk 22 = .ok (.getfield 19, 3) := by decide +kernel
theorem dX11_clerk_25 : decode cX11_clerk 25 = .ok (.iload_n 1, 1) := by decide +kernel
theorem dX11_clerk_26 : decode cX11_clerk 26 = .ok (.iload_n 2, 1) := by decide +kernel
theorem dX11_clerk_27 : decode cX11_clerk 27 = .ok (.invokevirtual 83, 3) := by decide +kernel
theorem dX11_clerk_30 : decode cX11_clerk 30 = .ok (.ireturn, 1) := by decide +kernel
theorem dX11_step_0 : decode cX11_step 0 = .ok (.aload_n 0, 1) := by decide +kernel
theorem dX11_step_1 : decode cX11_step 1 = .ok (.getfield 19, 3) := by decide +kernel
theorem dX11_step_4 : decode cX11_step 4 = .ok (.iload_n 1, 1) := by decide +kernel
theorem dX11_step_5 : decode cX11_step 5 = .ok (.invokevirtual 87, 3) := by decide +kernel
theorem dX11_step_8 : decode cX11_step 8 = .ok (.ifCond .eq 21, 3) := by decide +kernel
theorem dX11_step_11 : decode cX11_step 11 = .ok (.iload_n 2, 1) := by decide +kernel
theorem dX11_step_12 : decode cX11_step 12 = .ok (.iconst 2, 1) := by decide +kernel
theorem dX11_step_13 : decode cX11_step 13 = .ok (.invokestatic 79, 3) := by decide +kernel
theorem dX11_step_16 : decode cX11_step 16 = .ok (.ifCond .ne 13, 3) := by decide +kernel
theorem dX11_step_19 : decode cX11_step 19 = .ok (.aload_n 0, 1) := by decide +kernel
theorem dX11_step_20 : decode cX11_step 20 = .ok (.getfield 19, 3) := by decide +kernel
theorem dX11_step_23 : decode cX11_step 23 = .ok (.getfield 91, 3) := by decide +kernel
theorem dX11_step_26 : decode cX11_step 26 = .ok (.ifCond .le 5, 3) := by decide +kernel
theorem dX11_step_29 : decode cX11_step 29 = .ok (.iconst (-1), 1) := by decide +kernel
theorem dX11_step_30 : decode cX11_step 30 = .ok (.ireturn, 1) := by decide +kernel
theorem dX11_step_31 : decode cX11_step 31 = .ok (.aload_n 0, 1) := by decide +kernel
theorem dX11_step_32 : decode cX11_step 32 = .ok (.getfield 19, 3) := by decide +kernel
theorem dX11_step_35 : decode cX11_step 35 = .ok (.iload_n 1, 1) := by decide +kernel
theorem dX11_step_36 : decode cX11_step 36 = .ok (.iload_n 2, 1) := by decide +kernel
theorem dX11_step_37 : decode cX11_step 37 = .ok (.invokevirtual 95, 3) := by decide +kernel
theorem dX11_step_40 : decode cX11_step 40 = .ok (.ireturn, 1) := by decide +kernel
theorem dX11_seed_0 : decode cX11_seed 0 = .ok (.iload_n 1, 1) := by decide +kernel
theorem dX11_seed_1 : decode cX11_seed 1 = .ok (.ldc 98, 2) := by decide +kernel
theorem dX11_seed_3 : decode cX11_seed 3 = .ok (.invokestatic 79, 3) := by decide +kernel
theorem dX11_seed_6 : decode cX11_seed 6 = .ok (.ifCond .eq 5, 3) := by decide +kernel
theorem dX11_seed_9 : decode cX11_seed 9 = .ok (.iconst 0, 1) := by decide +kernel
theorem dX11_seed_10 : decode cX11_seed 10 = .ok (.ireturn, 1) := by decide +kernel
theorem dX11_seed_11 : decode cX11_seed 11 = .ok (.aload_n 0, 1) := by decide +kernel
theorem dX11_seed_12 : decode cX11_seed 12 = .ok (.getfield 19, 3) := by decide +kernel
theorem dX11_seed_15 : decode cX11_seed 15 = .ok (.iload_n 1, 1) := by decide +kernel
theorem dX11_seed_16 : decode cX11_seed 16 = .ok (.putfield 99, 3) := by decide +kernel
theorem dX11_seed_19 : decode cX11_seed 19 = .ok (.aload_n 0, 1) := by decide +kernel
theorem dX11_seed_20 : decode cX11_seed 20 = .ok (.getfield 44, 3) := by decide +kernel
theorem dX11_seed_23 : decode cX11_seed 23 = .ok (.iload_n 1, 1) := by decide +kernel
theorem dX11_seed_24 : decode cX11_seed 24 = .ok (.putfield 102, 3) := by decide +kernel
theorem dX11_seed_27 : decode cX11_seed 27 = .ok (.iconst 1, 1) := by decide +kernel
theorem dX11_seed_28 : decode cX11_seed 28 = .ok (.ireturn, 1) := by decide +kernel
theorem dX11_file_0 : decode cX11_file 0 = .ok (.iload_n 1, 1) := by decide +kernel
theorem dX11_file_1 : decode cX11_file 1 = .ok (.iconst 1, 1) := by decide +kernel
theorem dX11_file_2 : decode cX11_file 2 = .ok (.invokestatic 79, 3) := by decide +kernel
theorem dX11_file_5 : decode cX11_file 5 = .ok (.ifCond .ne 33, 3) := by decide +kernel
theorem dX11_file_8 : decode cX11_file 8 = .ok (.iload_n 2, 1) := by decide +kernel
theorem dX11_file_9 : decode cX11_file 9 = .ok (.sipush 10000, 3) := by decide +kernel
theorem dX11_file_12 : decode cX11_file 12 = .ok (.invokestatic 79, 3) := by decide +kernel
theorem dX11_file_15 : decode cX11_file 15 = .ok (.ifCond .ne 23, 3) := by decide +kernel
theorem dX11_file_18 : decode cX11_file 18 = .ok (.iload_n 3, 1) := by decide +kernel
theorem dX11_file_19 : decode cX11_file 19 = .ok (.sipush 200, 3) := by decide +kernel
theorem dX11_file_22 : decode cX11_file 22 = .ok (.invokestatic 79, 3) := by decide +kernel
theorem dX11_file_25 : decode cX11_file 25 = .ok (.ifCond .ne 13, 3) := by decide +kernel
theorem dX11_file_28 : decode cX11_file 28 = .ok (.aload_n 0, 1) := by decide +kernel
theorem dX11_file_29 : decode cX11_file 29 = .ok (.getfield 19, 3) := by decide +kernel
theorem dX11_file_32 : decode cX11_file 32 = .ok (.getfield 105, 3) := by decide +kernel
theorem dX11_file_35 : decode cX11_file 35 = .ok (.ifCond .ne 5, 3) := by decide +kernel
theorem dX11_file_38 : decode cX11_file 38 = .ok (.iconst (-1), 1) := by decide +kernel
theorem dX11_file_39 : decode cX11_file 39 = .ok (.ireturn, 1) := by decide +kernel
theorem dX11_file_40 : decode cX11_file 40 = .ok (.aload_n 0, 1) := by decide +kernel
theorem dX11_file_41 : decode cX11_file 41 = .ok (.getfield 19, 3) := by decide +kernel
theorem dX11_file_44 : decode cX11_file 44 = .ok (.iload_n 1, 1) := by decide +kernel
theorem dX11_file_45 : decode cX11_file 45 = .ok (.iload_n 2, 1) := by decide +kernel
theorem dX11_file_46 : decode cX11_file 46 = .ok (.iload_n 3, 1) := by decide +kernel
theorem dX11_file_47 : decode cX11_file 47 = .ok (.aload_n 0, 1) := by decide +kernel
theorem dX11_file_48 : decode cX11_file 48 = .ok (.getfield 44, 3) := by decide +kernel
theorem dX11_file_51 : decode cX11_file 51 = .ok (.getfield 108, 3) := by decide +kernel
theorem dX11_file_54 : decode cX11_file 54 = .ok (.invokevirtual 111, 3) := by decide +kernel
theorem dX11_file_57 : decode cX11_file 57 = .ok (.istore 4, 2) := by decide +kernel
theorem dX11_file_59 : decode cX11_file 59 = .ok (.aload_n 0, 1) := by decide +kernel
theorem dX11_file_60 : decode cX11_file 60 = .ok (.getfield 44, 3) := by decide +kernel
theorem dX11_file_63 : decode cX11_file 63 = .ok (.iload 4, 2) := by decide +kernel
theorem dX11_file_65 : decode cX11_file 65 = .ok (.invokevirtual 115, 3) := by decide +kernel
theorem dX11_file_68 : decode cX11_file 68 = .ok (.iload 4, 2) := by decide +kernel
theorem dX11_file_70 : decode cX11_file 70 = .ok (.ireturn, 1) := by decide +kernel
theorem dX11_feed_0 : decode cX11_feed 0 = .ok (.aload_n 0, 1) := by decide +kernel
theorem dX11_feed_1 : decode cX11_feed 1 = .ok (.getfield 10, 3) := by decide +kernel
theorem dX11_feed_4 : decode cX11_feed 4 = .ok (.getfield 119, 3) := by decide +kernel
theorem dX11_feed_7 : decode cX11_feed 7 = .ok (.bipush 20, 2) := by decide +kernel
theorem dX11_feed_9 : decode cX11_feed 9 = .ok (.iadd, 1) := by decide +kernel
theorem dX11_feed_10 : decode cX11_feed 10 = .ok (.sipush 200, 3) := by decide +kernel
theorem dX11_feed_13 : decode cX11_feed 13 = .ok (.if_icmp .le 5, 3) := by decide +kernel
theorem dX11_feed_16 : decode cX11_feed 16 = .ok (.iconst (-1), 1) := by decide +kernel
theorem dX11_feed_17 : decode cX11_feed 17 = .ok (.ireturn, 1) := by decide +kernel
theorem dX11_feed_18 : decode cX11_feed 18 = .ok (.aload_n 0, 1) := by decide +kernel
theorem dX11_feed_19 : decode cX11_feed 19 = .ok (.getfield 10, 3) := by decide +kernel
theorem dX11_feed_22 : decode cX11_feed 22 = .ok (.iload_n 1, 1) := by decide +kernel
theorem dX11_feed_23 : decode cX11_feed 23 = .ok (.invokevirtual 122, 3) := by decide +kernel
theorem dX11_feed_26 : decode cX11_feed 26 = .ok (.aload_n 0, 1) := by decide +kernel
theorem dX11_feed_27 : decode cX11_feed 27 = .ok (.getfield 10, 3) := by decide +kernel
theorem dX11_feed_30 : decode cX11_feed 30 = .ok (.iload_n 2, 1) := by decide +kernel
theorem dX11_feed_31 : decode cX11_feed 31 = .ok (.invokevirtual 122, 3) := by decide +kernel
theorem dX11_feed_34 : decode cX11_feed 34 = .ok (.aload_n 0, 1) := by decide +kernel
theorem dX11_feed_35 : decode cX11_feed 35 = .ok (.getfield 10, 3) := by decide +kernel
theorem dX11_feed_38 : decode cX11_feed 38 = .ok (.iload_n 3, 1) := by decide +kernel
theorem dX11_feed_39 : decode cX11_feed 39 = .ok (.invokevirtual 122, 3) := by decide +kernel
theorem dX11_feed_42 : decode cX11_feed 42 = .ok (.aload_n 0, 1) := by decide +kernel
theorem dX11_feed_43 : decode cX11_feed 43 = .ok (.getfield 10, 3) := by decide +kernel
theorem dX11_feed_46 : decode cX11_feed 46 = .ok (.iload 4, 2) := by decide +kernel
theorem dX11_feed_48 : decode cX11_feed 48 = .ok (.invokevirtual 122, 3) := by decide +kernel
theorem dX11_feed_51 : decode cX11_feed 51 = .ok (.aload_n 0, 1) := by decide +kernel
theorem dX11_feed_52 : decode cX11_feed 52 = .ok (.getfield 10, 3) := by decide +kernel
theorem dX11_feed_55 : decode cX11_feed 55 = .ok (.iload 5, 2) := by decide +kernel
theorem dX11_feed_57 : decode cX11_feed 57 = .ok (.invokevirtual 122, 3) := by decide +kernel
theorem dX11_feed_60 : decode cX11_feed 60 = .ok (.aload_n 0, 1) := by decide +kernel
theorem dX11_feed_61 : decode cX11_feed 61 = .ok (.getfield 10, 3) := by decide +kernel
theorem dX11_feed_64 : decode cX11_feed 64 = .ok (.getfield 119, 3) := by decide +kernel
theorem dX11_feed_67 : decode cX11_feed 67 = .ok (.ireturn, 1) := by decide +kernel
theorem dX11_way_0 : decode cX11_way 0 = .ok (.aload_n 0, 1) := by decide +kernel
theorem dX11_way_1 : decode cX11_way 1 = .ok (.getfield 19, 3) := by decide +kernel
theorem dX11_way_4 : decode cX11_way 4 = .ok (.iload_n 1, 1) := by decide +kernel
theorem dX11_way_5 : decode cX11_way 5 = .ok (.invokevirtual 125, 3) := by decide +kernel
theorem dX11_way_8 : decode cX11_way 8 = .ok (.ifCond .eq 17, 3) := by decide +kernel
theorem dX11_way_11 : decode cX11_way 11 = .ok (.aload_n 0, 1) := by decide +kernel
theorem dX11_way_12 : decode cX11_way 12 = .ok (.getfield 10, 3) := by decide +kernel
theorem dX11_way_15 : decode cX11_way 15 = .ok (.iload_n 2, 1) := by decide +kernel
theorem dX11_way_16 : decode cX11_way 16 = .ok (.sipush 160, 3) := by decide +kernel
theorem dX11_way_19 : decode cX11_way 19 = .ok (.invokevirtual 128, 3) := by decide +kernel
theorem dX11_way_22 : decode cX11_way 22 = .ok (.ifCond .ne 5, 3) := by decide +kernel
theorem dX11_way_25 : decode cX11_way 25 = .ok (.iconst (-1), 1) := by decide +kernel
theorem dX11_way_26 : decode cX11_way 26 = .ok (.ireturn, 1) := by decide +kernel
theorem dX11_way_27 : decode cX11_way 27 = .ok (.aload_n 0, 1) := by decide +kernel
theorem dX11_way_28 : decode cX11_way 28 = .ok (.getfield 35, 3) := by decide +kernel
theorem dX11_way_31 : decode cX11_way 31 = .ok (.iload_n 2, 1) := by decide +kernel
theorem dX11_way_32 : decode cX11_way 32 = .ok (.ldc 131, 2) := by decide +kernel
theorem dX11_way_34 : decode cX11_way 34 = .ok (.invokevirtual 133, 3) := by decide +kernel
theorem dX11_way_37 : decode cX11_way 37 = .ok (.istore_n 3, 1) := by decide +kernel
theorem dX11_way_38 : decode cX11_way 38 = .ok (.aload_n 0, 1) := by decide +kernel
theorem dX11_way_39 : decode cX11_way 39 = .ok (.getfield 10, 3) := by decide +kernel
theorem dX11_way_42 : decode cX11_way 42 = .ok (.iconst 0, 1) := by decide +kernel
theorem dX11_way_43 : decode cX11_way 43 = .ok (.putfield 119, 3) := by decide +kernel
theorem dX11_way_46 : decode cX11_way 46 = .ok (.iload_n 3, 1) := by decide +kernel
theorem dX11_way_47 : decode cX11_way 47 = .ok (.ifCond .le 28, 3) := by decide +kernel
theorem dX11_way_50 : decode cX11_way 50 = .ok (.aload_n 0, 1) := by decide +kernel
theorem dX11_way_51 : decode cX11_way 51 = .ok (.getfield 19, 3) := by decide +kernel
theorem dX11_way_54 : decode cX11_way 54 = .ok (.getfield 137, 3) := by decide +kernel
theorem dX11_way_57 : decode cX11_way 57 = .ok (.iload_n 1, 1) := by decide +kernel
theorem dX11_way_58 : decode cX11_way 58 = .ok (.aload_n 0, 1) := by decide +kernel
theorem dX11_way_59 : decode cX11_way 59 = .ok (.getfield 35, 3) := by decide +kernel
theorem dX11_way_62 : decode cX11_way 62 = .ok (.aload_n 0, 1) := by decide +kernel
theorem dX11_way_63 : decode cX11_way 63 = .ok (.getfield 19, 3) := by decide +kernel
theorem dX11_way_66 : decode cX11_way 66 = .ok (.getfield 137, 3) := by decide +kernel
theorem dX11_way_69 : decode cX11_way 69 = .ok (.iload_n 1, 1) := by decide +kernel
theorem dX11_way_70 : decode cX11_way 70 = .ok (.aaload, 1) := by decide +kernel
theorem dX11_way_71 : decode cX11_way 71 = .ok (.invokevirtual 141, 3) := by decide +kernel
theorem dX11_way_74 : decode cX11_way 74 = .ok (.aastore, 1) := by decide +kernel
theorem dX11_way_75 : decode cX11_way 75 = .ok (.iload_n 3, 1) := by decide +kernel
theorem dX11_way_76 : decode cX11_way 76 = .ok (.ireturn, 1) := by decide +kernel
theorem dX11_law_0 : decode cX11_law 0 = .ok (.aload_n 0, 1) := by decide +kernel
theorem dX11_law_1 : decode cX11_law 1 = .ok (.getfield 10, 3) := by decide +kernel
theorem dX11_law_4 : decode cX11_law 4 = .ok (.iload_n 1, 1) := by decide +kernel
theorem dX11_law_5 : decode cX11_law 5 = .ok (.sipush 160, 3) := by decide +kernel
theorem dX11_law_8 : decode cX11_law 8 = .ok (.invokevirtual 128, 3) := by decide +kernel
theorem dX11_law_11 : decode cX11_law 11 = .ok (.ifCond .ne 5, 3) := by decide +kernel
theorem dX11_law_14 : decode cX11_law 14 = .ok (.iconst (-1), 1) := by decide +kernel
theorem dX11_law_15 : decode cX11_law 15 = .ok (.ireturn, 1) := by decide +kernel
theorem dX11_law_16 : decode cX11_law 16 = .ok (.aload_n 0, 1) := by decide +kernel
theorem dX11_law_17 : decode cX11_law 17 = .ok (.getfield 35, 3) := by decide +kernel
theorem dX11_law_20 : decode cX11_law 20 = .ok (.iload_n 1, 1) := by decide +kernel
theorem dX11_law_21 : decode cX11_law 21 = .ok (.ldc 145, 2) := by decide +kernel
theorem dX11_law_23 : decode cX11_law 23 = .ok (.invokevirtual 133, 3) := by decide +kernel
theorem dX11_law_26 : decode cX11_law 26 = .ok (.istore_n 2, 1) := by decide +kernel
theorem dX11_law_27 : decode cX11_law 27 = .ok (.aload_n 0, 1) := by decide +kernel
theorem dX11_law_28 : decode cX11_law 28 = .ok (.getfield 10, 3) := by decide +kernel
theorem dX11_law_31 : decode cX11_law 31 = .ok (.iconst 0, 1) := by decide +kernel
theorem dX11_law_32 : decode cX11_law 32 = .ok (.putfield 119, 3) := by decide +kernel
theorem dX11_law_35 : decode cX11_law 35 = .ok (.iload_n 2, 1) := by decide +kernel
theorem dX11_law_36 : decode cX11_law 36 = .ok (.ifCond .le 24, 3) := by decide +kernel
theorem dX11_law_39 : decode cX11_law 39 = .ok (.aload_n 0, 1) := by decide +kernel
theorem dX11_law_40 : decode cX11_law 40 = .ok (.getfield 19, 3) := by decide +kernel
theorem dX11_law_43 : decode cX11_law 43 = .ok (.aload_n 0, 1) := by decide +kernel
theorem dX11_law_44 : decode cX11_law 44 = .ok (.getfield 35, 3) := by decide +kernel
theorem dX11_law_47 : decode cX11_law 47 = .ok (.aload_n 0, 1) := by decide +kernel
theorem dX11_law_48 : decode cX11_law 48 = .ok (.getfield 19, 3) := by decide +kernel
theorem dX11_law_51 : decode cX11_law 51 = .ok (.getfield 147, 3) := by decide +kernel
theorem dX11_law_54 : decode cX11_law 54 = .ok (.invokevirtual 141, 3) := by decide +kernel
theorem dX11_law_57 : decode cX11_law 57 = .ok (.putfield 147, 3) := by decide +kernel
theorem dX11_law_60 : decode cX11_law 60 = .ok (.iload_n 2, 1) := by decide +kernel
theorem dX11_law_61 : decode cX11_law 61 = .ok (.ireturn, 1) := by decide +kernel
theorem dX11_gain_0 : decode cX11_gain 0 = .ok (.aload_n 0, 1) := by decide +kernel
theorem dX11_gain_1 : decode cX11_gain 1 = .ok (.getfield 10, 3) := by decide +kernel
theorem dX11_gain_4 : decode cX11_gain 4 = .ok (.iload_n 1, 1) := by decide +kernel
theorem dX11_gain_5 : decode cX11_gain 5 = .ok (.bipush 60, 2) := by decide +kernel
theorem dX11_gain_7 : decode cX11_gain 7 = .ok (.invokevirtual 128, 3) := by decide +kernel
theorem dX11_gain_10 : decode cX11_gain 10 = .ok (.ifCond .ne 5, 3) := by decide +kernel
theorem dX11_gain_13 : decode cX11_gain 13 = .ok (.iconst (-1), 1) := by decide +kernel
theorem dX11_gain_14 : decode cX11_gain 14 = .ok (.ireturn, 1) := by decide +kernel
theorem dX11_gain_15 : decode cX11_gain 15 = .ok (.aload_n 0, 1) := by decide +kernel
theorem dX11_gain_16 : decode cX11_gain 16 = .ok (.getfield 35, 3) := by decide +kernel
theorem dX11_gain_19 : decode cX11_gain 19 = .ok (.iload_n 1, 1) := by decide +kernel
theorem dX11_gain_20 : decode cX11_gain 20 = .ok (.invokevirtual 151, 3) := by decide +kernel
theorem dX11_gain_23 : decode cX11_gain 23 = .ok (.istore_n 2, 1) := by decide +kernel
theorem dX11_gain_24 : decode cX11_gain 24 = .ok (.aload_n 0, 1) := by decide +kernel
theorem dX11_gain_25 : decode cX11_gain 25 = .ok (.getfield 10, 3) := by decide +kernel
theorem dX11_gain_28 : decode cX11_gain 28 = .ok (.iconst 0, 1) := by decide +kernel
theorem dX11_gain_29 : decode cX11_gain 29 = .ok (.putfield 119, 3) := by decide +kernel
theorem dX11_gain_32 : decode cX11_gain 32 = .ok (.iload_n 2, 1) := by decide +kernel
theorem dX11_gain_33 : decode cX11_gain 33 = .ok (.ifCond .le 24, 3) := by decide +kernel
theorem dX11_gain_36 : decode cX11_gain 36 = .ok (.aload_n 0, 1) := by decide +kernel
theorem dX11_gain_37 : decode cX11_gain 37 = .ok (.getfield 54, 3) := by decide +kernel
theorem dX11_gain_40 : decode cX11_gain 40 = .ok (.aload_n 0, 1) := by decide +kernel
theorem dX11_gain_41 : decode cX11_gain 41 = .ok (.getfield 35, 3) := by decide +kernel
theorem dX11_gain_44 : decode cX11_gain 44 = .ok (.aload_n 0, 1) := by decide +kernel
theorem dX11_gain_45 : decode cX11_gain 45 = .ok (.getfield 54, 3) := by decide +kernel
theorem dX11_gain_48 : decode cX11_gain 48 = .ok (.getfield 155, 3) := by decide +kernel
theorem dX11_gain_51 : decode cX11_gain 51 = .ok (.invokevirtual 141, 3) := by decide +kernel
theorem dX11_gain_54 : decode cX11_gain 54 = .ok (.invokevirtual 158, 3) := by decide +kernel
theorem dX11_gain_57 : decode cX11_gain 57 = .ok (.iload_n 2, 1) := by decide +kernel
theorem dX11_gain_58 : decode cX11_gain 58 = .ok (.ireturn, 1) := by decide +kernel
theorem dX11_month_0 : decode cX11_month 0 = .ok (.aload_n 0, 1) := by decide +kernel
theorem dX11_month_1 : decode cX11_month 1 = .ok (.getfield 44, 3) := by decide +kernel
theorem dX11_month_4 : decode cX11_month 4 = .ok (.getfield 108, 3) := by decide +kernel
theorem dX11_month_7 : decode cX11_month 7 = .ok (.sipush 239, 3) := by decide +kernel
theorem dX11_month_10 : decode cX11_month 10 = .ok (.if_icmp .lt 5, 3) := by decide +kernel
theorem dX11_month_13 : decode cX11_month 13 = .ok (.iconst (-1), 1) := by decide +kernel
theorem dX11_month_14 : decode cX11_month 14 = .ok (.ireturn, 1) := by decide +kernel
theorem dX11_month_15 : decode cX11_month 15 = .ok (.aload_n 0, 1) := by decide +kernel
theorem dX11_month_16 : decode cX11_month 16 = .ok (.getfield 44, 3) := by decide +kernel
theorem dX11_month_19 : decode cX11_month 19 = .ok (.invokevirtual 162, 3) := by decide +kernel
theorem dX11_month_22 : decode cX11_month 22 = .ok (.ireturn, 1) := by decide +kernel
theorem dX11_fileIs_0 : decode cX11_fileIs 0 = .ok (.aload_n 0, 1) := by decide +kernel
theorem dX11_fileIs_1 : decode cX11_fileIs 1 = .ok (.getfield 19, 3) := by decide +kernel
theorem dX11_fileIs_4 : decode cX11_fileIs 4 = .ok (.iload_n 1, 1) := by decide +kernel
theorem dX11_fileIs_5 : decode cX11_fileIs 5 = .ok (.invokevirtual 166, 3) := by decide +kernel
theorem dX11_fileIs_8 : decode cX11_fileIs 8 = .ok (.ifCond .ne 5, 3) := by decide +kernel
theorem dX11_fileIs_11 : decode cX11_fileIs 11 = .ok (.iconst (-1), 1) := by decide +kernel
theorem dX11_fileIs_12 : decode cX11_fileIs 12 = .ok (.ireturn, 1) := by decide +kernel
theorem dX11_fileIs_13 : decode cX11_fileIs 13 = .ok (.iload_n 2, 1) := by decide +kernel
theorem dX11_fileIs_14 : decode cX11_fileIs 14 = .ok (.tableswitch 112 0 6 #[42, 52, 62, 72, 82, 92, 102], 42) := by decide +kernel
theorem dX11_fileIs_56 : decode cX11_fileIs 56 = .ok (.aload_n 0, 1) := by decide +kernel
theorem dX11_fileIs_57 : decode cX11_fileIs 57 = .ok (.getfield 44, 3) := by decide +kernel
theorem dX11_fileIs_60 : decode cX11_fileIs 60 = .ok (.getfield 169, 3) := by decide +kernel
theorem dX11_fileIs_63 : decode cX11_fileIs 63 = .ok (.iload_n 1, 1) := by decide +kernel
theorem dX11_fileIs_64 : decode cX11_fileIs 64 = .ok (.iaload, 1) := by decide +kernel
theorem dX11_fileIs_65 : decode cX11_fileIs 65 = .ok (.ireturn, 1) := by decide +kernel
theorem dX11_fileIs_66 : decode cX11_fileIs 66 = .ok (.aload_n 0, 1) := by decide +kernel
theorem dX11_fileIs_67 : decode cX11_fileIs 67 = .ok (.getfield 44, 3) := by decide +kernel
theorem dX11_fileIs_70 : decode cX11_fileIs 70 = .ok (.getfield 173, 3) := by decide +kernel
theorem dX11_fileIs_73 : decode cX11_fileIs 73 = .ok (.iload_n 1, 1) := by decide +kernel
theorem dX11_fileIs_74 : decode cX11_fileIs 74 = .ok (.iaload, 1) := by decide +kernel
theorem dX11_fileIs_75 : decode cX11_fileIs 75 = .ok (.ireturn, 1) := by decide +kernel
theorem dX11_fileIs_76 : decode cX11_fileIs 76 = .ok (.aload_n 0, 1) := by decide +kernel
theorem dX11_fileIs_77 : decode cX11_fileIs 77 = .ok (.getfield 44, 3) := by decide +kernel
theorem dX11_fileIs_80 : decode cX11_fileIs 80 = .ok (.getfield 176, 3) := by decide +kernel
theorem dX11_fileIs_83 : decode cX11_fileIs 83 = .ok (.iload_n 1, 1) := by decide +kernel
theorem dX11_fileIs_84 : decode cX11_fileIs 84 = .ok (.iaload, 1) := by decide +kernel
theorem dX11_fileIs_85 : decode cX11_fileIs 85 = .ok (.ireturn, 1) := by decide +kernel
theorem dX11_fileIs_86 : decode cX11_fileIs 86 = .ok (.aload_n 0, 1) := by decide +kernel
theorem dX11_fileIs_87 : decode cX11_fileIs 87 = .ok (.getfield 44, 3) := by decide +kernel
theorem dX11_fileIs_90 : decode cX11_fileIs 90 = .ok (.getfield 179, 3) := by decide +kernel
theorem dX11_fileIs_93 : decode cX11_fileIs 93 = .ok (.iload_n 1, 1) := by decide +kernel
theorem dX11_fileIs_94 : decode cX11_fileIs 94 = .ok (.iaload, 1) := by decide +kernel
theorem dX11_fileIs_95 : decode cX11_fileIs 95 = .ok (.ireturn, 1) := by decide +kernel
theorem dX11_fileIs_96 : decode cX11_fileIs 96 = .ok (.aload_n 0, 1) := by decide +kernel
theorem dX11_fileIs_97 : decode cX11_fileIs 97 = .ok (.getfield 44, 3) := by decide +kernel
theorem dX11_fileIs_100 : decode cX11_fileIs 100 = .ok (.getfield 182, 3) := by decide +kernel
theorem dX11_fileIs_103 : decode cX11_fileIs 103 = .ok (.iload_n 1, 1) := by decide +kernel
theorem dX11_fileIs_104 : decode cX11_fileIs 104 = .ok (.iaload, 1) := by decide +kernel
theorem dX11_fileIs_105 : decode cX11_fileIs 105 = .ok (.ireturn, 1) := by decide +kernel
theorem dX11_fileIs_106 : decode cX11_fileIs 106 = .ok (.aload_n 0, 1) := by decide +kernel
theorem dX11_fileIs_107 : decode cX11_fileIs 107 = .ok (.getfield 44, 3) := by decide +kernel
theorem dX11_fileIs_110 : decode cX11_fileIs 110 = .ok (.getfield 185, 3) := by decide +kernel
theorem dX11_fileIs_113 : decode cX11_fileIs 113 = .ok (.iload_n 1, 1) := by decide +kernel
theorem dX11_fileIs_114 : decode cX11_fileIs 114 = .ok (.iaload, 1) := by decide +kernel
theorem dX11_fileIs_115 : decode cX11_fileIs 115 = .ok (.ireturn, 1) := by decide +kernel
theorem dX11_fileIs_116 : decode cX11_fileIs 116 = .ok (.aload_n 0, 1) := by decide +kernel
theorem dX11_fileIs_117 : decode cX11_fileIs 117 = .ok (.getfield 19, 3) := by decide +kernel
theorem dX11_fileIs_120 : decode cX11_fileIs 120 = .ok (.getfield 188, 3) := by decide +kernel
theorem dX11_fileIs_123 : decode cX11_fileIs 123 = .ok (.iload_n 1, 1) := by decide +kernel
theorem dX11_fileIs_124 : decode cX11_fileIs 124 = .ok (.iaload, 1) := by decide +kernel
theorem dX11_fileIs_125 : decode cX11_fileIs 125 = .ok (.ireturn, 1) := by decide +kernel
theorem dX11_fileIs_126 : decode cX11_fileIs 126 = .ok (.iconst (-1), 1) := by decide +kernel
theorem dX11_fileIs_127 : decode cX11_fileIs 127 = .ok (.ireturn, 1) := by decide +kernel
theorem dX11_clerkIs_0 : decode cX11_clerkIs 0 = .ok (.aload_n 0, 1) := by decide +kernel
theorem dX11_clerkIs_1 : decode cX11_clerkIs 1 = .ok (.getfield 19, 3) := by decide +kernel
theorem dX11_clerkIs_4 : decode cX11_clerkIs 4 = .ok (.iload_n 1, 1) := by decide +kernel
theorem dX11_clerkIs_5 : decode cX11_clerkIs 5 = .ok (.invokevirtual 125, 3) := by decide +kernel
theorem dX11_clerkIs_8 : decode cX11_clerkIs 8 = .ok (.ifCond .ne 6, 3) := by decide +kernel
theorem dX11_clerkIs_11 : decode cX11_clerkIs 11 = .ok (.ldc 191, 2) := by decide +kernel
theorem dX11_clerkIs_13 : decode cX11_clerkIs 13 = .ok (.ireturn, 1) := by decide +kernel
theorem dX11_clerkIs_14 : decode cX11_clerkIs 14 = .ok (.iload_n 2, 1) := by decide +kernel
theorem dX11_clerkIs_15 : decode cX11_clerkIs 15 = .ok (.tableswitch 69 0 3 #[29, 39, 49, 59], 29) := by decide +kernel
theorem dX11_clerkIs_44 : decode cX11_clerkIs 44 = .ok (.aload_n 0, 1) := by decide +kernel
theorem dX11_clerkIs_45 : decode cX11_clerkIs 45 = .ok (.getfield 44, 3) := by decide +kernel
theorem dX11_clerkIs_48 : decode cX11_clerkIs 48 = .ok (.getfield 192, 3) := by decide +kernel
theorem dX11_clerkIs_51 : decode cX11_clerkIs 51 = .ok (.iload_n 1, 1) := by decide +kernel
theorem dX11_clerkIs_52 : decode cX11_clerkIs 52 = .ok (.iaload, 1) := by decide +kernel
theorem dX11_clerkIs_53 : decode cX11_clerkIs 53 = .ok (.ireturn, 1) := by decide +kernel
theorem dX11_clerkIs_54 : decode cX11_clerkIs 54 = .ok (.aload_n 0, 1) := by decide +kernel
theorem dX11_clerkIs_55 : decode cX11_clerkIs 55 = .ok (.getfield 44, 3) := by decide +kernel
theorem dX11_clerkIs_58 : decode cX11_clerkIs 58 = .ok (.getfield 195, 3) := by decide +kernel
theorem dX11_clerkIs_61 : decode cX11_clerkIs 61 = .ok (.iload_n 1, 1) := by decide +kernel
theorem dX11_clerkIs_62 : decode cX11_clerkIs 62 = .ok (.iaload, 1) := by decide +kernel
theorem dX11_clerkIs_63 : decode cX11_clerkIs 63 = .ok (.ireturn, 1) := by decide +kernel
theorem dX11_clerkIs_64 : decode cX11_clerkIs 64 = .ok (.aload_n 0, 1) := by decide +kernel
theorem dX11_clerkIs_65 : decode cX11_clerkIs 65 = .ok (.getfield 19, 3) := by decide +kernel
theorem dX11_clerkIs_68 : decode cX11_clerkIs 68 = .ok (.getfield 198, 3) := by decide +kernel
theorem dX11_clerkIs_71 : decode cX11_clerkIs 71 = .ok (.iload_n 1, 1) := by decide +kernel
theorem dX11_clerkIs_72 : decode cX11_clerkIs 72 = .ok (.iaload, 1) := by decide +kernel
theorem dX11_clerkIs_73 : decode cX11_clerkIs 73 = .ok (.ireturn, 1) := by decide +kernel
theorem dX11_clerkIs_74 : decode cX11_clerkIs 74 = .ok (.aload_n 0, 1) := by decide +kernel
theorem dX11_clerkIs_75 : decode cX11_clerkIs 75 = .ok (.getfield 19, 3) := by decide +kernel
theorem dX11_clerkIs_78 : decode cX11_clerkIs 78 = .ok (.getfield 201, 3) := by decide +kernel
theorem dX11_clerkIs_81 : decode cX11_clerkIs 81 = .ok (.iload_n 1, 1) := by decide +kernel
theorem dX11_clerkIs_82 : decode cX11_clerkIs 82 = .ok (.iaload, 1) := by decide +kernel
theorem dX11_clerkIs_83 : decode cX11_clerkIs 83 = .ok (.ireturn, 1) := by decide +kernel
theorem dX11_clerkIs_84 : decode cX11_clerkIs 84 = .ok (.ldc 191, 2) := by decide +kernel
theorem dX11_clerkIs_86 : decode cX11_clerkIs 86 = .ok (.ireturn, 1) := by decide +kernel
theorem dX11_asks_0 : decode cX11_asks 0 = .ok (.aload_n 0, 1) := by decide +kernel
theorem dX11_asks_1 : decode cX11_asks 1 = .ok (.getfield 19, 3) := by decide +kernel
theorem dX11_asks_4 : decode cX11_asks 4 = .ok (.iload_n 1, 1) := by decide +kernel
theorem dX11_asks_5 : decode cX11_asks 5 = .ok (.invokevirtual 125, 3) := by decide +kernel
theorem dX11_asks_8 : decode cX11_asks 8 = .ok (.ifCond .eq 22, 3) := by decide +kernel
theorem dX11_asks_11 : decode cX11_asks 11 = .ok (.aload_n 0, 1) := by decide +kernel
theorem dX11_asks_12 : decode cX11_asks 12 = .ok (.getfield 44, 3) := by decide +kernel
theorem dX11_asks_15 : decode cX11_asks 15 = .ok (.iload_n 2, 1) := by decide +kernel
theorem dX11_asks_16 : decode cX11_asks 16 = .ok (.invokevirtual 204, 3) := by decide +kernel
theorem dX11_asks_19 : decode cX11_asks 19 = .ok (.ifCond .eq 11, 3) := by decide +kernel
theorem dX11_asks_22 : decode cX11_asks 22 = .ok (.iload_n 3, 1) := by decide +kernel
theorem dX11_asks_23 : decode cX11_asks 23 = .ok (.iconst 1, 1) := by decide +kernel
theorem dX11_asks_24 : decode cX11_asks 24 = .ok (.invokestatic 79, 3) := by decide +kernel
theorem dX11_asks_27 : decode cX11_asks 27 = .ok (.ifCond .eq 5, 3) := by decide +kernel
theorem dX11_asks_30 : decode cX11_asks 30 = .ok (.iconst (-1), 1) := by decide +kernel
theorem dX11_asks_31 : decode cX11_asks 31 = .ok (.ireturn, 1) := by decide +kernel
theorem dX11_asks_32 : decode cX11_asks 32 = .ok (.aload_n 0, 1) := by decide +kernel
theorem dX11_asks_33 : decode cX11_asks 33 = .ok (.getfield 19, 3) := by decide +kernel
theorem dX11_asks_36 : decode cX11_asks 36 = .ok (.getfield 207, 3) := by decide +kernel
theorem dX11_asks_39 : decode cX11_asks 39 = .ok (.aload_n 0, 1) := by decide +kernel
theorem dX11_asks_40 : decode cX11_asks 40 = .ok (.getfield 44, 3) := by decide +kernel
theorem dX11_asks_43 : decode cX11_asks 43 = .ok (.getfield 169, 3) := by decide +kernel
theorem dX11_asks_46 : decode cX11_asks 46 = .ok (.iload_n 2, 1) := by decide +kernel
theorem dX11_asks_47 : decode cX11_asks 47 = .ok (.iaload, 1) := by decide +kernel
theorem dX11_asks_48 : decode cX11_asks 48 = .ok (.iaload, 1) := by decide +kernel
theorem dX11_asks_49 : decode cX11_asks 49 = .ok (.iload_n 1, 1) := by decide +kernel
theorem dX11_asks_50 : decode cX11_asks 50 = .ok (.ishr, 1) := by decide +kernel
theorem dX11_asks_51 : decode cX11_asks 51 = .ok (.iconst 1, 1) := by decide +kernel
theorem dX11_asks_52 : decode cX11_asks 52 = .ok (.iand, 1) := by decide +kernel
theorem dX11_asks_53 : decode cX11_asks 53 = .ok (.ifCond .ne 5, 3) := by decide +kernel
theorem dX11_asks_56 : decode cX11_asks 56 = .ok (.iconst (-1), 1) := by decide +kernel
theorem dX11_asks_57 : decode cX11_asks 57 = .ok (.ireturn, 1) := by decide +kernel
theorem dX11_asks_58 : decode cX11_asks 58 = .ok (.aload_n 0, 1) := by decide +kernel
theorem dX11_asks_59 : decode cX11_asks 59 = .ok (.getfield 44, 3) := by decide +kernel
theorem dX11_asks_62 : decode cX11_asks 62 = .ok (.iload_n 1, 1) := by decide +kernel
theorem dX11_asks_63 : decode cX11_asks 63 = .ok (.iload_n 2, 1) := by decide +kernel
theorem dX11_asks_64 : decode cX11_asks 64 = .ok (.invokevirtual 210, 3) := by decide +kernel
theorem dX11_asks_67 : decode cX11_asks 67 = .ok (.iload_n 3, 1) := by decide +kernel
theorem dX11_asks_68 : decode cX11_asks 68 = .ok (.ifCond .ne 13, 3) := by decide +kernel
theorem dX11_asks_71 : decode cX11_asks 71 = .ok (.aload_n 0, 1) := by decide +kernel
theorem dX11_asks_72 : decode cX11_asks 72 = .ok (.getfield 44, 3) := by decide +kernel
theorem dX11_asks_75 : decode cX11_asks 75 = .ok (.getfield 214, 3) := by decide +kernel
theorem dX11_asks_78 : decode cX11_asks 78 = .ok (.goto 10, 3) := by decide +kernel
theorem dX11_asks_81 : decode cX11_asks 81 = .ok (.aload_n 0, 1) := by decide +kernel
theorem dX11_asks_82 : decode cX11_asks 82 = .ok (.getfield 44, 3) := by decide +kernel
theorem dX11_asks_85 : decode cX11_asks 85 = .ok (.getfield 217, 3) := by decide +kernel
theorem dX11_asks_88 : decode cX11_asks 88 = .ok (.ireturn, 1) := by decide +kernel
theorem dX11_told_0 : decode cX11_told 0 = .ok (.aload_n 0, 1) := by decide +kernel
theorem dX11_told_1 : decode cX11_told 1 = .ok (.getfield 19, 3) := by decide +kernel
theorem dX11_told_4 : decode cX11_told 4 = .ok (.iload_n 1, 1) := by decide +kernel
theorem dX11_told_5 : decode cX11_told 5 = .ok (.invokevirtual 125, 3) := by decide +kernel
theorem dX11_told_8 : decode cX11_told 8 = .ok (.ifCond .eq 33, 3) := by decide +kernel
theorem dX11_told_11 : decode cX11_told 11 = .ok (.aload_n 0, 1) := by decide +kernel
theorem dX11_told_12 : decode cX11_told 12 = .ok (.getfield 44, 3) := by decide +kernel
theorem dX11_told_15 : decode cX11_told 15 = .ok (.iload_n 2, 1) := by decide +kernel
theorem dX11_told_16 : decode cX11_told 16 = .ok (.invokevirtual 204, 3) := by decide +kernel
theorem dX11_told_19 : decode cX11_told 19 = .ok (.ifCond .eq 22, 3) := by decide +kernel
theorem dX11_told_22 : decode cX11_told 22 = .ok (.iload_n 3, 1) := by decide +kernel
theorem dX11_told_23 : decode cX11_told 23 = .ok (.sipush 10000, 3) := by decide +kernel
theorem dX11_told_26 : decode cX11_told 26 = .ok (.invokestatic 79, 3) := by decide +kernel
theorem dX11_told_29 : decode cX11_told 29 = .ok (.ifCond .ne 12, 3) := by decide +kernel
theorem dX11_told_32 : decode cX11_told 32 = .ok (.iload 4, 2) := by decide +kernel
theorem dX11_told_34 : decode cX11_told 34 = .ok (.iconst 2, 1) := by decide +kernel
theorem dX11_told_35 : decode cX11_told 35 = .ok (.invokestatic 79, 3) := by decide +kernel
theorem dX11_told_38 : decode cX11_told 38 = .ok (.ifCond .eq 5, 3) := by decide +kernel
theorem dX11_told_41 : decode cX11_told 41 = .ok (.iconst (-1), 1) := by decide +kernel
theorem dX11_told_42 : decode cX11_told 42 = .ok (.ireturn, 1) := by decide +kernel
theorem dX11_told_43 : decode cX11_told 43 = .ok (.aload_n 0, 1) := by decide +kernel
theorem dX11_told_44 : decode cX11_told 44 = .ok (.getfield 44, 3) := by decide +kernel
theorem dX11_told_47 : decode cX11_told 47 = .ok (.iload_n 1, 1) := by decide +kernel
theorem dX11_told_48 : decode cX11_told 48 = .ok (.iload_n 2, 1) := by decide +kernel
theorem dX11_told_49 : decode cX11_told 49 = .ok (.iload_n 3, 1) := by decide +kernel
theorem dX11_told_50 : decode cX11_told 50 = .ok (.invokevirtual 220, 3) := by decide +kernel
theorem dX11_told_53 : decode cX11_told 53 = .ok (.aload_n 0, 1) := by decide +kernel
theorem dX11_told_54 : decode cX11_told 54 = .ok (.getfield 26, 3) := by decide +kernel
theorem dX11_told_57 : decode cX11_told 57 = .ok (.aload_n 0, 1) := by decide +kernel
theorem dX11_told_58 : decode cX11_told 58 = .ok (.getfield 19, 3) := by decide +kernel
theorem dX11_told_61 : decode cX11_told 61 = .ok (.getfield 147, 3) := by decide +kernel
theorem dX11_told_64 : decode cX11_told 64 = .ok (.ldc 145, 2) := by decide +kernel
theorem dX11_told_66 : decode cX11_told 66 = .ok (.iload 4, 2) := by decide +kernel
theorem dX11_told_68 : decode cX11_told 68 = .ok (.invokevirtual 224, 3) := by decide +kernel
theorem dX11_told_71 : decode cX11_told 71 = .ok (.sipush 10000, 3) := by decide +kernel
theorem dX11_told_74 : decode cX11_told 74 = .ok (.invokevirtual 230, 3) := by decide +kernel
theorem dX11_told_77 : decode cX11_told 77 = .ok (.ireturn, 1) := by decide +kernel
theorem dX11_rest_0 : decode cX11_rest 0 = .ok (.aload_n 0, 1) := by decide +kernel
theorem dX11_rest_1 : decode cX11_rest 1 = .ok (.getfield 19, 3) := by decide +kernel
theorem dX11_rest_4 : decode cX11_rest 4 = .ok (.iload_n 1, 1) := by decide +kernel
theorem dX11_rest_5 : decode cX11_rest 5 = .ok (.invokevirtual 234, 3) := by decide +kernel
theorem dX11_rest_8 : decode cX11_rest 8 = .ok (.ifCond .eq 13, 3) := by decide +kernel
theorem dX11_rest_11 : decode cX11_rest 11 = .ok (.aload_n 0, 1) := by decide +kernel
theorem dX11_rest_12 : decode cX11_rest 12 = .ok (.getfield 54, 3) := by decide +kernel
theorem dX11_rest_15 : decode cX11_rest 15 = .ok (.getfield 237, 3) := by decide +kernel
theorem dX11_rest_18 : decode cX11_rest 18 = .ok (.ifCond .ne 5, 3) := by decide +kernel
theorem dX11_rest_21 : decode cX11_rest 21 = .ok (.iconst (-1), 1) := by decide +kernel
theorem dX11_rest_22 : decode cX11_rest 22 = .ok (.ireturn, 1) := by decide +kernel
theorem dX11_rest_23 : decode cX11_rest 23 = .ok (.aload_n 0, 1) := by decide +kernel
theorem dX11_rest_24 : decode cX11_rest 24 = .ok (.getfield 54, 3) := by decide +kernel
theorem dX11_rest_27 : decode cX11_rest 27 = .ok (.invokevirtual 241, 3) := by decide +kernel
theorem dX11_rest_30 : decode cX11_rest 30 = .ok (.aload_n 0, 1) := by decide +kernel
theorem dX11_rest_31 : decode cX11_rest 31 = .ok (.getfield 54, 3) := by decide +kernel
theorem dX11_rest_34 : decode cX11_rest 34 = .ok (.iload_n 1, 1) := by decide +kernel
theorem dX11_rest_35 : decode cX11_rest 35 = .ok (.invokevirtual 244, 3) := by decide +kernel
theorem dX11_rest_38 : decode cX11_rest 38 = .ok (.ifCond .eq 7, 3) := by decide +kernel
theorem dX11_rest_41 : decode cX11_rest 41 = .ok (.iconst 1, 1) := by decide +kernel
theorem dX11_rest_42 : decode cX11_rest 42 = .ok (.goto 4, 3) := by decide +kernel
theorem dX11_rest_45 : decode cX11_rest 45 = .ok (.iconst 0, 1) := by decide +kernel
theorem dX11_rest_46 : decode cX11_rest 46 = .ok (.ireturn, 1) := by decide +kernel
theorem dX11_rests_0 : decode cX11_rests 0 = .ok (.aload_n 0, 1) := by decide +kernel
theorem dX11_rests_1 : decode cX11_rests 1 = .ok (.getfield 54, 3) := by decide +kernel
theorem dX11_rests_4 : decode cX11_rests 4 = .ok (.getfield 237, 3) := by decide +kernel
theorem dX11_rests_7 : decode cX11_rests 7 = .ok (.ifCond .ne 5, 3) := by decide +kernel
theorem dX11_rests_10 : decode cX11_rests 10 = .ok (.iconst (-1), 1) := by decide +kernel
theorem dX11_rests_11 : decode cX11_rests 11 = .ok (.ireturn, 1) := by decide +kernel
theorem dX11_rests_12 : decode cX11_rests 12 = .ok (.aload_n 0, 1) := by decide +kernel
theorem dX11_rests_13 : decode cX11_rests 13 = .ok (.getfield 54, 3) := by decide +kernel
theorem dX11_rests_16 : decode cX11_rests 16 = .ok (.invokevirtual 241, 3) := by decide +kernel
theorem dX11_rests_19 : decode cX11_rests 19 = .ok (.iload_n 1, 1) := by decide +kernel
theorem dX11_rests_20 : decode cX11_rests 20 = .ok (.iconst (-1), 1) := by decide +kernel
theorem dX11_rests_21 : decode cX11_rests 21 = .ok (.if_icmp .ne 13, 3) := by decide +kernel
theorem dX11_rests_24 : decode cX11_rests 24 = .ok (.aload_n 0, 1) := by decide +kernel
theorem dX11_rests_25 : decode cX11_rests 25 = .ok (.getfield 54, 3) := by decide +kernel
theorem dX11_rests_28 : decode cX11_rests 28 = .ok (.invokevirtual 247, 3) := by decide +kernel
theorem dX11_rests_31 : decode cX11_rests 31 = .ok (.goto 11, 3) := by decide +kernel
theorem dX11_rests_34 : decode cX11_rests 34 = .ok (.aload_n 0, 1) := by decide +kernel
theorem dX11_rests_35 : decode cX11_rests 35 = .ok (.getfield 54, 3) := by decide +kernel
theorem dX11_rests_38 : decode cX11_rests 38 = .ok (.iload_n 1, 1) := by decide +kernel
theorem dX11_rests_39 : decode cX11_rests 39 = .ok (.invokevirtual 250, 3) := by decide +kernel
theorem dX11_rests_42 : decode cX11_rests 42 = .ok (.ireturn, 1) := by decide +kernel
theorem dX11_goesTo_0 : decode cX11_goesTo 0 = .ok (.aload_n 0, 1) := by decide +kernel
theorem dX11_goesTo_1 : decode cX11_goesTo 1 = .ok (.getfield 19, 3) := by decide +kernel
theorem dX11_goesTo_4 : decode cX11_goesTo 4 = .ok (.iload_n 1, 1) := by decide +kernel
theorem dX11_goesTo_5 : decode cX11_goesTo 5 = .ok (.invokevirtual 234, 3) := by decide +kernel
theorem dX11_goesTo_8 : decode cX11_goesTo 8 = .ok (.ifCond .eq 13, 3) := by decide +kernel
theorem dX11_goesTo_11 : decode cX11_goesTo 11 = .ok (.aload_n 0, 1) := by decide +kernel
theorem dX11_goesTo_12 : decode cX11_goesTo 12 = .ok (.getfield 54, 3) := by decide +kernel
theorem dX11_goesTo_15 : decode cX11_goesTo 15 = .ok (.getfield 237, 3) := by decide +kernel
theorem dX11_goesTo_18 : decode cX11_goesTo 18 = .ok (.ifCond .ne 5, 3) := by decide +kernel
theorem dX11_goesTo_21 : decode cX11_goesTo 21 = .ok (.iconst (-1), 1) := by decide +kernel
theorem dX11_goesTo_22 : decode cX11_goesTo 22 = .ok (.ireturn, 1) := by decide +kernel
theorem dX11_goesTo_23 : decode cX11_goesTo 23 = .ok (.aload_n 0, 1) := by decide +kernel
theorem dX11_goesTo_24 : decode cX11_goesTo 24 = .ok (.getfield 54, 3) := by decide +kernel
theorem dX11_goesTo_27 : decode cX11_goesTo 27 = .ok (.invokevirtual 241, 3) := by decide +kernel
theorem dX11_goesTo_30 : decode cX11_goesTo 30 = .ok (.aload_n 0, 1) := by decide +kernel
theorem dX11_goesTo_31 : decode cX11_goesTo 31 = .ok (.getfield 54, 3) := by decide +kernel
theorem dX11_goesTo_34 : decode cX11_goesTo 34 = .ok (.iload_n 1, 1) := by decide +kernel
theorem dX11_goesTo_35 : decode cX11_goesTo 35 = .ok (.invokevirtual 253, 3) := by decide +kernel
theorem dX11_goesTo_38 : decode cX11_goesTo 38 = .ok (.ireturn, 1) := by decide +kernel
theorem dX11_turned_0 : decode cX11_turned 0 = .ok (.aload_n 0, 1) := by decide +kernel
theorem dX11_turned_1 : decode cX11_turned 1 = .ok (.getfield 19, 3) := by decide +kernel
theorem dX11_turned_4 : decode cX11_turned 4 = .ok (.iload_n 1, 1) := by decide +kernel
theorem dX11_turned_5 : decode cX11_turned 5 = .ok (.invokevirtual 234, 3) := by decide +kernel
theorem dX11_turned_8 : decode cX11_turned 8 = .ok (.ifCond .eq 24, 3) := by decide +kernel
theorem dX11_turned_11 : decode cX11_turned 11 = .ok (.aload_n 0, 1) := by decide +kernel
theorem dX11_turned_12 : decode cX11_turned 12 = .ok (.getfield 19, 3) := by decide +kernel
theorem dX11_turned_15 : decode cX11_turned 15 = .ok (.iload_n 2, 1) := by decide +kernel
theorem dX11_turned_16 : decode cX11_turned 16 = .ok (.invokevirtual 234, 3) := by decide +kernel
theorem dX11_turned_19 : decode cX11_turned 19 = .ok (.ifCond .eq 13, 3) := by decide +kernel
theorem dX11_turned_22 : decode cX11_turned 22 = .ok (.aload_n 0, 1) := by decide +kernel
theorem dX11_turned_23 : decode cX11_turned 23 = .ok (.getfield 54, 3) := by decide +kernel
theorem dX11_turned_26 : decode cX11_turned 26 = .ok (.getfield 237, 3) := by decide +kernel
theorem dX11_turned_29 : decode cX11_turned 29 = .ok (.ifCond .ne 5, 3) := by decide +kernel
theorem dX11_turned_32 : decode cX11_turned 32 = .ok (.iconst (-1), 1) := by decide +kernel
theorem dX11_turned_33 : decode cX11_turned 33 = .ok (.ireturn, 1) := by decide +kernel
theorem dX11_turned_34 : decode cX11_turned 34 = .ok (.aload_n 0, 1) := by decide +kernel
theorem dX11_turned_35 : decode cX11_turned 35 = .ok (.getfield 54, 3) := by decide +kernel
theorem dX11_turned_38 : decode cX11_turned 38 = .ok (.invokevirtual 241, 3) := by decide +kernel
theorem dX11_turned_41 : decode cX11_turned 41 = .ok (.aload_n 0, 1) := by decide +kernel
theorem dX11_turned_42 : decode cX11_turned 42 = .ok (.getfield 54, 3) := by decide +kernel
theorem dX11_turned_45 : decode cX11_turned 45 = .ok (.iload_n 2, 1) := by decide +kernel
theorem dX11_turned_46 : decode cX11_turned 46 = .ok (.invokevirtual 244, 3) := by decide +kernel
theorem dX11_turned_49 : decode cX11_turned 49 = .ok (.ifCond .eq 15, 3) := by decide +kernel
theorem dX11_turned_52 : decode cX11_turned 52 = .ok (.aload_n 0, 1) := by decide +kernel
theorem dX11_turned_53 : decode cX11_turned 53 = .ok (.getfield 54, 3) := by decide +kernel
theorem dX11_turned_56 : decode cX11_turned 56 = .ok (.iload_n 1, 1) := by decide +kernel
theorem dX11_turned_57 : decode cX11_turned 57 = .ok (.iload_n 2, 1) := by decide +kernel
theorem dX11_turned_58 : decode cX11_turned 58 = .ok (.invokevirtual 256, 3) := by decide +kernel
theorem dX11_turned_61 : decode cX11_turned 61 = .ok (.goto 4, 3) := by decide +kernel
theorem dX11_turned_64 : decode cX11_turned 64 = .ok (.iconst (-1), 1) := by decide +kernel
theorem dX11_turned_65 : decode cX11_turned 65 = .ok (.ireturn, 1) := by decide +kernel
theorem dX11_value_0 : decode cX11_value 0 = .ok (.iload_n 1, 1) := by decide +kernel
theorem dX11_value_1 : decode cX11_value 1 = .ok (.sipush 10000, 3) := by decide +kernel
theorem dX11_value_4 : decode cX11_value 4 = .ok (.invokestatic 79, 3) := by decide +kernel
theorem dX11_value_7 : decode cX11_value 7 = .ok (.ifCond .eq 7, 3) := by decide +kernel
theorem dX11_value_10 : decode cX11_value 10 = .ok (.iconst (-1), 1) := by decide +kernel
theorem dX11_value_11 : decode cX11_value 11 = .ok (.goto 11, 3) := by decide +kernel
theorem dX11_value_14 : decode cX11_value 14 = .ok (.aload_n 0, 1) := by decide +kernel
theorem dX11_value_15 : decode cX11_value 15 = .ok (.getfield 61, 3) := by decide +kernel
theorem dX11_value_18 : decode cX11_value 18 = .ok (.iload_n 1, 1) := by decide +kernel
theorem dX11_value_19 : decode cX11_value 19 = .ok (.invokevirtual 259, 3) := by decide +kernel
theorem dX11_value_22 : decode cX11_value 22 = .ok (.ireturn, 1) := by decide +kernel
theorem dX11_one_0 : decode cX11_one 0 = .ok (.iload_n 1, 1) := by decide +kernel
theorem dX11_one_1 : decode cX11_one 1 = .ok (.iconst 1, 1) := by decide +kernel
theorem dX11_one_2 : decode cX11_one 2 = .ok (.invokestatic 79, 3) := by decide +kernel
theorem dX11_one_5 : decode cX11_one 5 = .ok (.ifCond .eq 5, 3) := by decide +kernel
theorem dX11_one_8 : decode cX11_one 8 = .ok (.iconst (-1), 1) := by decide +kernel
theorem dX11_one_9 : decode cX11_one 9 = .ok (.ireturn, 1) := by decide +kernel
theorem dX11_one_10 : decode cX11_one 10 = .ok (.aload_n 0, 1) := by decide +kernel
theorem dX11_one_11 : decode cX11_one 11 = .ok (.getfield 61, 3) := by decide +kernel
theorem dX11_one_14 : decode cX11_one 14 = .ok (.iconst 0, 1) := by decide +kernel
theorem dX11_one_15 : decode cX11_one 15 = .ok (.invokevirtual 262, 3) := by decide +kernel
theorem dX11_one_18 : decode cX11_one 18 = .ok (.istore_n 2, 1) := by decide +kernel
theorem dX11_one_19 : decode cX11_one 19 = .ok (.iload_n 1, 1) := by decide +kernel
theorem dX11_one_20 : decode cX11_one 20 = .ok (.ifCond .ne 7, 3) := by decide +kernel
theorem dX11_one_23 : decode cX11_one 23 = .ok (.iload_n 2, 1) := by decide +kernel
theorem dX11_one_24 : decode cX11_one 24 = .ok (.goto 11, 3) := by decide +kernel
theorem dX11_one_27 : decode cX11_one 27 = .ok (.aload_n 0, 1) := by decide +kernel
theorem dX11_one_28 : decode cX11_one 28 = .ok (.getfield 61, 3) := by decide +kernel
theorem dX11_one_31 : decode cX11_one 31 = .ok (.iload_n 2, 1) := by decide +kernel
theorem dX11_one_32 : decode cX11_one 32 = .ok (.invokevirtual 265, 3) := by decide +kernel
theorem dX11_one_35 : decode cX11_one 35 = .ok (.ireturn, 1) := by decide +kernel
theorem dX11_each_0 : decode cX11_each 0 = .ok (.iload_n 1, 1) := by decide +kernel
theorem dX11_each_1 : decode cX11_each 1 = .ok (.iconst 1, 1) := by decide +kernel
theorem dX11_each_2 : decode cX11_each 2 = .ok (.if_icmp .lt 17, 3) := by decide +kernel
theorem dX11_each_5 : decode cX11_each 5 = .ok (.iload_n 1, 1) := by decide +kernel
theorem dX11_each_6 : decode cX11_each 6 = .ok (.bipush 11, 2) := by decide +kernel
theorem dX11_each_8 : decode cX11_each 8 = .ok (.if_icmp .gt 11, 3) := by decide +kernel
theorem dX11_each_11 : decode cX11_each 11 = .ok (.iload_n 2, 1) := by decide +kernel
theorem dX11_each_12 : decode cX11_each 12 = .ok (.iconst 1, 1) := by decide +kernel
theorem dX11_each_13 : decode cX11_each 13 = .ok (.invokestatic 79, 3) := by decide +kernel
theorem dX11_each_16 : decode cX11_each 16 = .ok (.ifCond .eq 5, 3) := by decide +kernel
theorem dX11_each_19 : decode cX11_each 19 = .ok (.iconst (-1), 1) := by decide +kernel
theorem dX11_each_20 : decode cX11_each 20 = .ok (.ireturn, 1) := by decide +kernel
theorem dX11_each_21 : decode cX11_each 21 = .ok (.aload_n 0, 1) := by decide +kernel
theorem dX11_each_22 : decode cX11_each 22 = .ok (.getfield 61, 3) := by decide +kernel
theorem dX11_each_25 : decode cX11_each 25 = .ok (.iload_n 1, 1) := by decide +kernel
theorem dX11_each_26 : decode cX11_each 26 = .ok (.invokevirtual 268, 3) := by decide +kernel
theorem dX11_each_29 : decode cX11_each 29 = .ok (.istore_n 3, 1) := by decide +kernel
theorem dX11_each_30 : decode cX11_each 30 = .ok (.iload_n 3, 1) := by decide +kernel
theorem dX11_each_31 : decode cX11_each 31 = .ok (.bipush (-2), 2) := by decide +kernel
theorem dX11_each_33 : decode cX11_each 33 = .ok (.if_icmp .eq 7, 3) := by decide +kernel
theorem dX11_each_36 : decode cX11_each 36 = .ok (.iload_n 2, 1) := by decide +kernel
theorem dX11_each_37 : decode cX11_each 37 = .ok (.ifCond .ne 7, 3) := by decide +kernel
theorem dX11_each_40 : decode cX11_each 40 = .ok (.iload_n 3, 1) := by decide +kernel
theorem dX11_each_41 : decode cX11_each 41 = .ok (.goto 11, 3) := by decide +kernel
theorem dX11_each_44 : decode cX11_each 44 = .ok (.aload_n 0, 1) := by decide +kernel
theorem dX11_each_45 : decode cX11_each 45 = .ok (.getfield 61, 3) := by decide +kernel
theorem dX11_each_48 : decode cX11_each 48 = .ok (.iload_n 3, 1) := by decide +kernel
theorem dX11_each_49 : decode cX11_each 49 = .ok (.invokevirtual 265, 3) := by decide +kernel
theorem dX11_each_52 : decode cX11_each 52 = .ok (.ireturn, 1) := by decide +kernel
theorem dX11_made_0 : decode cX11_made 0 = .ok (.aload_n 0, 1) := by decide +kernel
theorem dX11_made_1 : decode cX11_made 1 = .ok (.getfield 19, 3) := by decide +kernel
theorem dX11_made_4 : decode cX11_made 4 = .ok (.iload_n 1, 1) := by decide +kernel
theorem dX11_made_5 : decode cX11_made 5 = .ok (.invokevirtual 269, 3) := by decide +kernel
theorem dX11_made_8 : decode cX11_made 8 = .ok (.ifCond .eq 11, 3) := by decide +kernel
theorem dX11_made_11 : decode cX11_made 11 = .ok (.iload_n 2, 1) := by decide +kernel
theorem dX11_made_12 : decode cX11_made 12 = .ok (.iconst 1, 1) := by decide +kernel
theorem dX11_made_13 : decode cX11_made 13 = .ok (.invokestatic 79, 3) := by decide +kernel
theorem dX11_made_16 : decode cX11_made 16 = .ok (.ifCond .eq 5, 3) := by decide +kernel
theorem dX11_made_19 : decode cX11_made 19 = .ok (.iconst (-1), 1) := by decide +kernel
theorem dX11_made_20 : decode cX11_made 20 = .ok (.ireturn, 1) := by decide +kernel
theorem dX11_made_21 : decode cX11_made 21 = .ok (.aload_n 0, 1) := by decide +kernel
theorem dX11_made_22 : decode cX11_made 22 = .ok (.getfield 44, 3) := by decide +kernel
theorem dX11_made_25 : decode cX11_made 25 = .ok (.iload_n 1, 1) := by decide +kernel
theorem dX11_made_26 : decode cX11_made 26 = .ok (.invokevirtual 272, 3) := by decide +kernel
theorem dX11_made_29 : decode cX11_made 29 = .ok (.istore_n 3, 1) := by decide +kernel
theorem dX11_made_30 : decode cX11_made 30 = .ok (.iload_n 2, 1) := by decide +kernel
theorem dX11_made_31 : decode cX11_made 31 = .ok (.ifCond .ne 7, 3) := by decide +kernel
theorem dX11_made_34 : decode cX11_made 34 = .ok (.iload_n 3, 1) := by decide +kernel
theorem dX11_made_35 : decode cX11_made 35 = .ok (.goto 12, 3) := by decide +kernel
theorem dX11_made_38 : decode cX11_made 38 = .ok (.aload_n 0, 1) := by decide +kernel
theorem dX11_made_39 : decode cX11_made 39 = .ok (.getfield 44, 3) := by decide +kernel
theorem dX11_made_42 : decode cX11_made 42 = .ok (.iload_n 1, 1) := by decide +kernel
theorem dX11_made_43 : decode cX11_made 43 = .ok (.iload_n 3, 1) := by decide +kernel
theorem dX11_made_44 : decode cX11_made 44 = .ok (.invokevirtual 275, 3) := by decide +kernel
theorem dX11_made_47 : decode cX11_made 47 = .ok (.ireturn, 1) := by decide +kernel
theorem dX11_entry_0 : decode cX11_entry 0 = .ok (.aload_n 0, 1) := by decide +kernel
theorem dX11_entry_1 : decode cX11_entry 1 = .ok (.getfield 19, 3) := by decide +kernel
theorem dX11_entry_4 : decode cX11_entry 4 = .ok (.iload_n 1, 1) := by decide +kernel
theorem dX11_entry_5 : decode cX11_entry 5 = .ok (.invokevirtual 269, 3) := by decide +kernel
theorem dX11_entry_8 : decode cX11_entry 8 = .ok (.ifCond .eq 13, 3) := by decide +kernel
theorem dX11_entry_11 : decode cX11_entry 11 = .ok (.iload_n 2, 1) := by decide +kernel
theorem dX11_entry_12 : decode cX11_entry 12 = .ok (.sipush 10000, 3) := by decide +kernel
theorem dX11_entry_15 : decode cX11_entry 15 = .ok (.invokestatic 79, 3) := by decide +kernel
theorem dX11_entry_18 : decode cX11_entry 18 = .ok (.ifCond .eq 5, 3) := by decide +kernel
theorem dX11_entry_21 : decode cX11_entry 21 = .ok (.iconst (-1), 1) := by decide +kernel
theorem dX11_entry_22 : decode cX11_entry 22 = .ok (.ireturn, 1) := by decide +kernel
theorem dX11_entry_23 : decode cX11_entry 23 = .ok (.aload_n 0, 1) := by decide +kernel
theorem dX11_entry_24 : decode cX11_entry 24 = .ok (.getfield 68, 3) := by decide +kernel
theorem dX11_entry_27 : decode cX11_entry 27 = .ok (.iload_n 1, 1) := by decide +kernel
theorem dX11_entry_28 : decode cX11_entry 28 = .ok (.iload_n 2, 1) := by decide +kernel
theorem dX11_entry_29 : decode cX11_entry 29 = .ok (.invokevirtual 278, 3) := by decide +kernel
theorem dX11_entry_32 : decode cX11_entry 32 = .ok (.ireturn, 1) := by decide +kernel
theorem dX11_middle_0 : decode cX11_middle 0 = .ok (.aload_n 0, 1) := by decide +kernel
theorem dX11_middle_1 : decode cX11_middle 1 = .ok (.getfield 19, 3) := by decide +kernel
theorem dX11_middle_4 : decode cX11_middle 4 = .ok (.iload_n 1, 1) := by decide +kernel
theorem dX11_middle_5 : decode cX11_middle 5 = .ok (.invokevirtual 269, 3) := by decide +kernel
theorem dX11_middle_8 : decode cX11_middle 8 = .ok (.ifCond .eq 20, 3) := by decide +kernel
theorem dX11_middle_11 : decode cX11_middle 11 = .ok (.iload_n 2, 1) := by decide +kernel
theorem dX11_middle_12 : decode cX11_middle 12 = .ok (.bipush 60, 2) := by decide +kernel
theorem dX11_middle_14 : decode cX11_middle 14 = .ok (.invokestatic 79, 3) := by decide +kernel
theorem dX11_middle_17 : decode cX11_middle 17 = .ok (.ifCond .ne 11, 3) := by decide +kernel
theorem dX11_middle_20 : decode cX11_middle 20 = .ok (.iload_n 3, 1) := by decide +kernel
theorem dX11_middle_21 : decode cX11_middle 21 = .ok (.iconst 1, 1) := by decide +kernel
theorem dX11_middle_22 : decode cX11_middle 22 = .ok (.invokestatic 79, 3) := by decide +kernel
theorem dX11_middle_25 : decode cX11_middle 25 = .ok (.ifCond .eq 5, 3) := by decide +kernel
theorem dX11_middle_28 : decode cX11_middle 28 = .ok (.iconst (-1), 1) := by decide +kernel
theorem dX11_middle_29 : decode cX11_middle 29 = .ok (.ireturn, 1) := by decide +kernel
theorem dX11_middle_30 : decode cX11_middle 30 = .ok (.aload_n 0, 1) := by decide +kernel
theorem dX11_middle_31 : decode cX11_middle 31 = .ok (.getfield 68, 3) := by decide +kernel
theorem dX11_middle_34 : decode cX11_middle 34 = .ok (.iload_n 1, 1) := by decide +kernel
theorem dX11_middle_35 : decode cX11_middle 35 = .ok (.invokevirtual 281, 3) := by decide +kernel
theorem dX11_middle_38 : decode cX11_middle 38 = .ok (.istore 4, 2) := by decide +kernel
theorem dX11_middle_40 : decode cX11_middle 40 = .ok (.iload 4, 2) := by decide +kernel
theorem dX11_middle_42 : decode cX11_middle 42 = .ok (.ifCond .ne 6, 3) := by decide +kernel
theorem dX11_middle_45 : decode cX11_middle 45 = .ok (.bipush (-2), 2) := by decide +kernel
theorem dX11_middle_47 : decode cX11_middle 47 = .ok (.ireturn, 1) := by decide +kernel
theorem dX11_middle_48 : decode cX11_middle 48 = .ok (.iload_n 3, 1) := by decide +kernel
theorem dX11_middle_49 : decode cX11_middle 49 = .ok (.ifCond .ne 12, 3) := by decide +kernel
theorem dX11_middle_52 : decode cX11_middle 52 = .ok (.iload 4, 2) := by decide +kernel
theorem dX11_middle_54 : decode cX11_middle 54 = .ok (.iconst 2, 1) := by decide +kernel
theorem dX11_middle_55 : decode cX11_middle 55 = .ok (.idiv, 1) := by decide +kernel
theorem dX11_middle_56 : decode cX11_middle 56 = .ok (.iload_n 2, 1) := by decide +kernel
theorem dX11_middle_57 : decode cX11_middle 57 = .ok (.isub, 1) := by decide +kernel
theorem dX11_middle_58 : decode cX11_middle 58 = .ok (.goto 9, 3) := by decide +kernel
theorem dX11_middle_61 : decode cX11_middle 61 = .ok (.iload 4, 2) := by decide +kernel
theorem dX11_middle_63 : decode cX11_middle 63 = .ok (.iconst 2, 1) := by decide +kernel
theorem dX11_middle_64 : decode cX11_middle 64 = .ok (.idiv, 1) := by decide +kernel
theorem dX11_middle_65 : decode cX11_middle 65 = .ok (.iload_n 2, 1) := by decide +kernel
theorem dX11_middle_66 : decode cX11_middle 66 = .ok (.iadd, 1) := by decide +kernel
theorem dX11_middle_67 : decode cX11_middle 67 = .ok (.istore 5, 2) := by decide +kernel
theorem dX11_middle_69 : decode cX11_middle 69 = .ok (.aload_n 0, 1) := by decide +kernel
theorem dX11_middle_70 : decode cX11_middle 70 = .ok (.getfield 68, 3) := by decide +kernel
theorem dX11_middle_73 : decode cX11_middle 73 = .ok (.iload_n 1, 1) := by decide +kernel
theorem dX11_middle_74 : decode cX11_middle 74 = .ok (.iload 5, 2) := by decide +kernel
theorem dX11_middle_76 : decode cX11_middle 76 = .ok (.invokevirtual 284, 3) := by decide +kernel
theorem dX11_middle_79 : decode cX11_middle 79 = .ok (.ireturn, 1) := by decide +kernel
theorem dX11_go_0 : decode cX11_go 0 = .ok (.aload_n 0, 1) := by decide +kernel
theorem dX11_go_1 : decode cX11_go 1 = .ok (.getfield 19, 3) := by decide +kernel
theorem dX11_go_4 : decode cX11_go 4 = .ok (.iload_n 1, 1) := by decide +kernel
theorem dX11_go_5 : decode cX11_go 5 = .ok (.invokevirtual 87, 3) := by decide +kernel
theorem dX11_go_8 : decode cX11_go 8 = .ok (.ifCond .eq 29, 3) := by decide +kernel
theorem dX11_go_11 : decode cX11_go 11 = .ok (.iload_n 2, 1) := by decide +kernel
theorem dX11_go_12 : decode cX11_go 12 = .ok (.sipush 30000, 3) := by decide +kernel
theorem dX11_go_15 : decode cX11_go 15 = .ok (.invokestatic 79, 3) := by decide +kernel
theorem dX11_go_18 : decode cX11_go 18 = .ok (.ifCond .ne 19, 3) := by decide +kernel
theorem dX11_go_21 : decode cX11_go 21 = .ok (.iload_n 3, 1) := by decide +kernel
theorem dX11_go_22 : decode cX11_go 22 = .ok (.ifCond .lt 15, 3) := by decide +kernel
theorem dX11_go_25 : decode cX11_go 25 = .ok (.iload_n 3, 1) := by decide +kernel
theorem dX11_go_26 : decode cX11_go 26 = .ok (.iload 4, 2) := by decide +kernel
theorem dX11_go_28 : decode cX11_go 28 = .ok (.if_icmp .gt 9, 3) := by decide +kernel
theorem dX11_go_31 : decode cX11_go 31 = .ok (.iload 4, 2) := by decide +kernel
theorem dX11_go_33 : decode cX11_go 33 = .ok (.iload_n 2, 1) := by decide +kernel
theorem dX11_go_34 : decode cX11_go 34 = .ok (.if_icmp .le 5, 3) := by decide +kernel
theorem dX11_go_37 : decode cX11_go 37 = .ok (.iconst (-1), 1) := by decide +kernel
theorem dX11_go_38 : decode cX11_go 38 = .ok (.ireturn, 1) := by decide +kernel
theorem dX11_go_39 : decode cX11_go 39 = .ok (.aload_n 0, 1) := by decide +kernel
theorem dX11_go_40 : decode cX11_go 40 = .ok (.getfield 75, 3) := by decide +kernel
theorem dX11_go_43 : decode cX11_go 43 = .ok (.iload_n 1, 1) := by decide +kernel
theorem dX11_go_44 : decode cX11_go 44 = .ok (.iload_n 2, 1) := by decide +kernel
theorem dX11_go_45 : decode cX11_go 45 = .ok (.iload 4, 2) := by decide +kernel
theorem dX11_go_47 : decode cX11_go 47 = .ok (.isub, 1) := by decide +kernel
theorem dX11_go_48 : decode cX11_go 48 = .ok (.iload_n 2, 1) := by decide +kernel
theorem dX11_go_49 : decode cX11_go 49 = .ok (.iload_n 3, 1) := by decide +kernel
theorem dX11_go_50 : decode cX11_go 50 = .ok (.isub, 1) := by decide +kernel
theorem dX11_go_51 : decode cX11_go 51 = .ok (.invokevirtual 287, 3) := by decide +kernel
theorem dX11_go_54 : decode cX11_go 54 = .ok (.ireturn, 1) := by decide +kernel
theorem dX11_span_0 : decode cX11_span 0 = .ok (.aload_n 0, 1) := by decide +kernel
theorem dX11_span_1 : decode cX11_span 1 = .ok (.getfield 19, 3) := by decide +kernel
theorem dX11_span_4 : decode cX11_span 4 = .ok (.iload_n 1, 1) := by decide +kernel
theorem dX11_span_5 : decode cX11_span 5 = .ok (.invokevirtual 125, 3) := by decide +kernel
theorem dX11_span_8 : decode cX11_span 8 = .ok (.ifCond .eq 11, 3) := by decide +kernel
theorem dX11_span_11 : decode cX11_span 11 = .ok (.iload_n 2, 1) := by decide +kernel
theorem dX11_span_12 : decode cX11_span 12 = .ok (.iconst 1, 1) := by decide +kernel
theorem dX11_span_13 : decode cX11_span 13 = .ok (.invokestatic 79, 3) := by decide +kernel
theorem dX11_span_16 : decode cX11_span 16 = .ok (.ifCond .eq 5, 3) := by decide +kernel
theorem dX11_span_19 : decode cX11_span 19 = .ok (.iconst (-1), 1) := by decide +kernel
theorem dX11_span_20 : decode cX11_span 20 = .ok (.ireturn, 1) := by decide +kernel
theorem dX11_span_21 : decode cX11_span 21 = .ok (.aload_n 0, 1) := by decide +kernel
theorem dX11_span_22 : decode cX11_span 22 = .ok (.getfield 75, 3) := by decide +kernel
theorem dX11_span_25 : decode cX11_span 25 = .ok (.getfield 291, 3) := by decide +kernel
theorem dX11_span_28 : decode cX11_span 28 = .ok (.ifCond .eq 6, 3) := by decide +kernel
theorem dX11_span_31 : decode cX11_span 31 = .ok (.bipush (-2), 2) := by decide +kernel
theorem dX11_span_33 : decode cX11_span 33 = .ok (.ireturn, 1) := by decide +kernel
theorem dX11_span_34 : decode cX11_span 34 = .ok (.iload_n 2, 1) := by decide +kernel
theorem dX11_span_35 : decode cX11_span 35 = .ok (.ifCond .ne 15, 3) := by decide +kernel
theorem dX11_span_38 : decode cX11_span 38 = .ok (.aload_n 0, 1) := by decide +kernel
theorem dX11_span_39 : decode cX11_span 39 = .ok (.getfield 75, 3) := by decide +kernel
theorem dX11_span_42 : decode cX11_span 42 = .ok (.getfield 294, 3) := by decide +kernel
theorem dX11_span_45 : decode cX11_span 45 = .ok (.iload_n 1, 1) := by decide +kernel
theorem dX11_span_46 : decode cX11_span 46 = .ok (.iaload, 1) := by decide +kernel
theorem dX11_span_47 : decode cX11_span 47 = .ok (.goto 12, 3) := by decide +kernel
theorem dX11_span_50 : decode cX11_span 50 = .ok (.aload_n 0, 1) := by decide +kernel
theorem dX11_span_51 : decode cX11_span 51 = .ok (.getfield 75, 3) := by decide +kernel
theorem dX11_span_54 : decode cX11_span 54 = .ok (.getfield 297, 3) := by decide +kernel
theorem dX11_span_57 : decode cX11_span 57 = .ok (.iload_n 1, 1) := by decide +kernel
theorem dX11_span_58 : decode cX11_span 58 = .ok (.iaload, 1) := by decide +kernel
theorem dX11_span_59 : decode cX11_span 59 = .ok (.ireturn, 1) := by decide +kernel
theorem dX11_odds_0 : decode cX11_odds 0 = .ok (.iload_n 1, 1) := by decide +kernel
theorem dX11_odds_1 : decode cX11_odds 1 = .ok (.iload_n 2, 1) := by decide +kernel
theorem dX11_odds_2 : decode cX11_odds 2 = .ok (.iload_n 3, 1) := by decide +kernel
theorem dX11_odds_3 : decode cX11_odds 3 = .ok (.invokestatic 300, 3) := by decide +kernel
theorem dX11_odds_6 : decode cX11_odds 6 = .ok (.ifCond .eq 21, 3) := by decide +kernel
theorem dX11_odds_9 : decode cX11_odds 9 = .ok (.iload 4, 2) := by decide +kernel
theorem dX11_odds_11 : decode cX11_odds 11 = .ok (.iload_n 1, 1) := by decide +kernel
theorem dX11_odds_12 : decode cX11_odds 12 = .ok (.invokestatic 79, 3) := by decide +kernel
theorem dX11_odds_15 : decode cX11_odds 15 = .ok (.ifCond .ne 12, 3) := by decide +kernel
theorem dX11_odds_18 : decode cX11_odds 18 = .ok (.iload 5, 2) := by decide +kernel
theorem dX11_odds_20 : decode cX11_odds 20 = .ok (.iconst 1, 1) := by decide +kernel
theorem dX11_odds_21 : decode cX11_odds 21 = .ok (.invokestatic 79, 3) := by decide +kernel
theorem dX11_odds_24 : decode cX11_odds 24 = .ok (.ifCond .eq 5, 3) := by decide +kernel
theorem dX11_odds_27 : decode cX11_odds 27 = .ok (.iconst (-1), 1) := by decide +kernel
theorem dX11_odds_28 : decode cX11_odds 28 = .ok (.ireturn, 1) := by decide +kernel
theorem dX11_odds_29 : decode cX11_odds 29 = .ok (.iload_n 1, 1) := by decide +kernel
theorem dX11_odds_30 : decode cX11_odds 30 = .ok (.iload_n 2, 1) := by decide +kernel
theorem dX11_odds_31 : decode cX11_odds 31 = .ok (.iload_n 3, 1) := by decide +kernel
theorem dX11_odds_32 : decode cX11_odds 32 = .ok (.iload 4, 2) := by decide +kernel
theorem dX11_odds_34 : decode cX11_odds 34 = .ok (.invokestatic 306, 3) := by decide +kernel
theorem dX11_odds_37 : decode cX11_odds 37 = .ok (.istore 6, 2) := by decide +kernel
theorem dX11_odds_39 : decode cX11_odds 39 = .ok (.iload_n 1, 1) := by decide +kernel
theorem dX11_odds_40 : decode cX11_odds 40 = .ok (.iload_n 2, 1) := by decide +kernel
theorem dX11_odds_41 : decode cX11_odds 41 = .ok (.invokestatic 309, 3) := by decide +kernel
theorem dX11_odds_44 : decode cX11_odds 44 = .ok (.istore 7, 2) := by decide +kernel
theorem dX11_odds_46 : decode cX11_odds 46 = .ok (.iload 6, 2) := by decide +kernel
theorem dX11_odds_48 : decode cX11_odds 48 = .ok (.iload 7, 2) := by decide +kernel
theorem dX11_odds_50 : decode cX11_odds 50 = .ok (.invokestatic 312, 3) := by decide +kernel
theorem dX11_odds_53 : decode cX11_odds 53 = .ok (.istore 8, 2) := by decide +kernel
theorem dX11_odds_55 : decode cX11_odds 55 = .ok (.iload 8, 2) := by decide +kernel
theorem dX11_odds_57 : decode cX11_odds 57 = .ok (.ifCond .ne 5, 3) := by decide +kernel
theorem dX11_odds_60 : decode cX11_odds 60 = .ok (.iconst (-1), 1) := by decide +kernel
theorem dX11_odds_61 : decode cX11_odds 61 = .ok (.ireturn, 1) := by decide +kernel
theorem dX11_odds_62 : decode cX11_odds 62 = .ok (.iload 5, 2) := by decide +kernel
theorem dX11_odds_64 : decode cX11_odds 64 = .ok (.ifCond .ne 8, 3) := by decide +kernel
theorem dX11_odds_67 : decode cX11_odds 67 = .ok (.iload 6, 2) := by decide +kernel
theorem dX11_odds_69 : decode cX11_odds 69 = .ok (.goto 5, 3) := by decide +kernel
theorem dX11_odds_72 : decode cX11_odds 72 = .ok (.iload 7, 2) := by decide +kernel
theorem dX11_odds_74 : decode cX11_odds 74 = .ok (.iload 8, 2) := by decide +kernel
theorem dX11_odds_76 : decode cX11_odds 76 = .ok (.idiv, 1) := by decide +kernel
theorem dX11_odds_77 : decode cX11_odds 77 = .ok (.ireturn, 1) := by decide +kernel
theorem dX11_those_0 : decode cX11_those 0 = .ok (.iload_n 1, 1) := by decide +kernel
theorem dX11_those_1 : decode cX11_those 1 = .ok (.iload_n 2, 1) := by decide +kernel
theorem dX11_those_2 : decode cX11_those 2 = .ok (.iload_n 3, 1) := by decide +kernel
theorem dX11_those_3 : decode cX11_those 3 = .ok (.invokestatic 300, 3) := by decide +kernel
theorem dX11_those_6 : decode cX11_those 6 = .ok (.ifCond .eq 26, 3) := by decide +kernel
theorem dX11_those_9 : decode cX11_those 9 = .ok (.iload 4, 2) := by decide +kernel
theorem dX11_those_11 : decode cX11_those 11 = .ok (.iconst 1, 1) := by decide +kernel
theorem dX11_those_12 : decode cX11_those 12 = .ok (.if_icmp .lt 20, 3) := by decide +kernel
theorem dX11_those_15 : decode cX11_those 15 = .ok (.iload 4, 2) := by decide +kernel
theorem dX11_those_17 : decode cX11_those 17 = .ok (.sipush 1000, 3) := by decide +kernel
theorem dX11_those_20 : decode cX11_those 20 = .ok (.if_icmp .gt 12, 3) := by decide +kernel
theorem dX11_those_23 : decode cX11_those 23 = .ok (.iload 5, 2) := by decide +kernel
theorem dX11_those_25 : decode cX11_those 25 = .ok (.iconst 1, 1) := by decide +kernel
theorem dX11_those_26 : decode cX11_those 26 = .ok (.invokestatic 79, 3) := by decide +kernel
theorem dX11_those_29 : decode cX11_those 29 = .ok (.ifCond .eq 5, 3) := by decide +kernel
theorem dX11_those_32 : decode cX11_those 32 = .ok (.iconst (-1), 1) := by decide +kernel
theorem dX11_those_33 : decode cX11_those 33 = .ok (.ireturn, 1) := by decide +kernel
theorem dX11_those_34 : decode cX11_those 34 = .ok (.bipush (-2), 2) := by decide +kernel
theorem dX11_those_36 : decode cX11_those 36 = .ok (.istore 6, 2) := by decide +kernel
theorem dX11_those_38 : decode cX11_those 38 = .ok (.iconst 0, 1) := by decide +kernel
theorem dX11_those_39 : decode cX11_those 39 = .ok (.istore 7, 2) := by decide +kernel
theorem dX11_those_41 : decode cX11_those 41 = .ok (.iload 7, 2) := by decide +kernel
theorem dX11_those_43 : decode cX11_those 43 = .ok (.iload_n 1, 1) := by decide +kernel
theorem dX11_those_44 : decode cX11_those 44 = .ok (.if_icmp .gt 61, 3) := by decide +kernel
theorem dX11_those_47 : decode cX11_those 47 = .ok (.iload_n 1, 1) := by decide +kernel
theorem dX11_those_48 : decode cX11_those 48 = .ok (.iload_n 2, 1) := by decide +kernel
theorem dX11_those_49 : decode cX11_those 49 = .ok (.iload_n 3, 1) := by decide +kernel
theorem dX11_those_50 : decode cX11_those 50 = .ok (.iload 7, 2) := by decide +kernel
theorem dX11_those_52 : decode cX11_those 52 = .ok (.invokestatic 306, 3) := by decide +kernel
theorem dX11_those_55 : decode cX11_those 55 = .ok (.sipush 1000, 3) := by decide +kernel
theorem dX11_those_58 : decode cX11_those 58 = .ok (.imul, 1) := by decide +kernel
theorem dX11_those_59 : decode cX11_those 59 = .ok (.iload 4, 2) := by decide +kernel
theorem dX11_those_61 : decode cX11_those 61 = .ok (.iload_n 1, 1) := by decide +kernel
theorem dX11_those_62 : decode cX11_those 62 = .ok (.iload_n 2, 1) := by decide +kernel
theorem dX11_those_63 : decode cX11_those 63 = .ok (.invokestatic 309, 3) := by decide +kernel
theorem dX11_those_66 : decode cX11_those 66 = .ok (.imul, 1) := by decide +kernel
theorem dX11_those_67 : decode cX11_those 67 = .ok (.if_icmp .lt 7, 3) := by decide +kernel
theorem dX11_those_70 : decode cX11_those 70 = .ok (.iconst 1, 1) := by decide +kernel
theorem dX11_those_71 : decode cX11_those 71 = .ok (.goto 4, 3) := by decide +kernel
theorem dX11_those_74 : decode cX11_those 74 = .ok (.iconst 0, 1) := by decide +kernel
theorem dX11_those_75 : decode cX11_those 75 = .ok (.istore 8, 2) := by decide +kernel
theorem dX11_those_77 : decode cX11_those 77 = .ok (.iload 8, 2) := by decide +kernel
theorem dX11_those_79 : decode cX11_those 79 = .ok (.ifCond .eq 20, 3) := by decide +kernel
theorem dX11_those_82 : decode cX11_those 82 = .ok (.iload 6, 2) := by decide +kernel
theorem dX11_those_84 : decode cX11_those 84 = .ok (.bipush (-2), 2) := by decide +kernel
theorem dX11_those_86 : decode cX11_those 86 = .ok (.if_icmp .eq 9, 3) := by decide +kernel
theorem dX11_those_89 : decode cX11_those 89 = .ok (.iload 5, 2) := by decide +kernel
theorem dX11_those_91 : decode cX11_those 91 = .ok (.iconst 1, 1) := by decide +kernel
theorem dX11_those_92 : decode cX11_those 92 = .ok (.if_icmp .ne 7, 3) := by decide +kernel
theorem dX11_those_95 : decode cX11_those 95 = .ok (.iload 7, 2) := by decide +kernel
theorem dX11_those_97 : decode cX11_those 97 = .ok (.istore 6, 2) := by decide +kernel
theorem dX11_those_99 : decode cX11_those 99 = .ok (.iinc 7 1, 3) := by decide +kernel
theorem dX11_those_102 : decode cX11_those 102 = .ok (.goto (-61), 3) := by decide +kernel
theorem dX11_those_105 : decode cX11_those 105 = .ok (.iload 6, 2) := by decide +kernel
theorem dX11_those_107 : decode cX11_those 107 = .ok (.ireturn, 1) := by decide +kernel
theorem dX11_bears_0 : decode cX11_bears 0 = .ok (.aload_n 0, 1) := by decide +kernel
theorem dX11_bears_1 : decode cX11_bears 1 = .ok (.getfield 44, 3) := by decide +kernel
theorem dX11_bears_4 : decode cX11_bears 4 = .ok (.invokevirtual 315, 3) := by decide +kernel
theorem dX11_bears_7 : decode cX11_bears 7 = .ok (.ireturn, 1) := by decide +kernel
theorem dX11_again_0 : decode cX11_again 0 = .ok (.iload_n 1, 1) := by decide +kernel
theorem dX11_again_1 : decode cX11_again 1 = .ok (.iconst 2, 1) := by decide +kernel
theorem dX11_again_2 : decode cX11_again 2 = .ok (.invokestatic 79, 3) := by decide +kernel
theorem dX11_again_5 : decode cX11_again 5 = .ok (.ifCond .eq 5, 3) := by decide +kernel
theorem dX11_again_8 : decode cX11_again 8 = .ok (.iconst (-1), 1) := by decide +kernel
theorem dX11_again_9 : decode cX11_again 9 = .ok (.ireturn, 1) := by decide +kernel
theorem dX11_again_10 : decode cX11_again 10 = .ok (.aload_n 0, 1) := by decide +kernel
theorem dX11_again_11 : decode cX11_again 11 = .ok (.getfield 48, 3) := by decide +kernel
theorem dX11_again_14 : decode cX11_again 14 = .ok (.invokevirtual 318, 3) := by decide +kernel
theorem dX11_again_17 : decode cX11_again 17 = .ok (.iconst 0, 1) := by decide +kernel
theorem dX11_again_18 : decode cX11_again 18 = .ok (.istore_n 2, 1) := by decide +kernel
theorem dX11_again_19 : decode cX11_again 19 = .ok (.iconst 0, 1) := by decide +kernel
theorem dX11_again_20 : decode cX11_again 20 = .ok (.istore_n 3, 1) := by decide +kernel
theorem dX11_again_21 : decode cX11_again 21 = .ok (.iload_n 3, 1) := by decide +kernel
theorem dX11_again_22 : decode cX11_again 22 = .ok (.aload_n 0, 1) := by decide +kernel
theorem dX11_again_23 : decode cX11_again 23 = .ok (.getfield 44, 3) := by decide +kernel
theorem dX11_again_26 : decode cX11_again 26 = .ok (.getfield 108, 3) := by decide +kernel
theorem dX11_again_29 : decode cX11_again 29 = .ok (.if_icmp .ge 27, 3) := by decide +kernel
theorem dX11_again_32 : decode cX11_again 32 = .ok (.aload_n 0, 1) := by decide +kernel
theorem dX11_again_33 : decode cX11_again 33 = .ok (.getfield 48, 3) := by decide +kernel
theorem dX11_again_36 : decode cX11_again 36 = .ok (.iload_n 3, 1) := by decide +kernel
theorem dX11_again_37 : decode cX11_again 37 = .ok (.invokevirtual 321, 3) := by decide +kernel
theorem dX11_again_40 : decode cX11_again 40 = .ok (.iload_n 2, 1) := by decide +kernel
theorem dX11_again_41 : decode cX11_again 41 = .ok (.aload_n 0, 1) := by decide +kernel
theorem dX11_again_42 : decode cX11_again 42 = .ok (.getfield 48, 3) := by decide +kernel
theorem dX11_again_45 : decode cX11_again 45 = .ok (.invokevirtual 162, 3) := by decide +kernel
theorem dX11_again_48 : decode cX11_again 48 = .ok (.iadd, 1) := by decide +kernel
theorem dX11_again_49 : decode cX11_again 49 = .ok (.istore_n 2, 1) := by decide +kernel
theorem dX11_again_50 : decode cX11_again 50 = .ok (.iinc 3 1, 3) := by decide +kernel
theorem dX11_again_53 : decode cX11_again 53 = .ok (.goto (-32), 3) := by decide +kernel
theorem dX11_again_56 : decode cX11_again 56 = .ok (.aload_n 0, 1) := by decide +kernel
theorem dX11_again_57 : decode cX11_again 57 = .ok (.getfield 48, 3) := by decide +kernel
theorem dX11_again_60 : decode cX11_again 60 = .ok (.aload_n 0, 1) := by decide +kernel
theorem dX11_again_61 : decode cX11_again 61 = .ok (.getfield 44, 3) := by decide +kernel
theorem dX11_again_64 : decode cX11_again 64 = .ok (.getfield 108, 3) := by decide +kernel
theorem dX11_again_67 : decode cX11_again 67 = .ok (.invokevirtual 321, 3) := by decide +kernel
theorem dX11_again_70 : decode cX11_again 70 = .ok (.iload_n 1, 1) := by decide +kernel
theorem dX11_again_71 : decode cX11_again 71 = .ok (.iconst 1, 1) := by decide +kernel
theorem dX11_again_72 : decode cX11_again 72 = .ok (.if_icmp .ne 5, 3) := by decide +kernel
theorem dX11_again_75 : decode cX11_again 75 = .ok (.iload_n 2, 1) := by decide +kernel
theorem dX11_again_76 : decode cX11_again 76 = .ok (.ireturn, 1) := by decide +kernel
theorem dX11_again_77 : decode cX11_again 77 = .ok (.iload_n 1, 1) := by decide +kernel
theorem dX11_again_78 : decode cX11_again 78 = .ok (.ifCond .ne 13, 3) := by decide +kernel
theorem dX11_again_81 : decode cX11_again 81 = .ok (.aload_n 0, 1) := by decide +kernel
theorem dX11_again_82 : decode cX11_again 82 = .ok (.getfield 48, 3) := by decide +kernel
theorem dX11_again_85 : decode cX11_again 85 = .ok (.invokevirtual 324, 3) := by decide +kernel
theorem dX11_again_88 : decode cX11_again 88 = .ok (.goto 22, 3) := by decide +kernel
theorem dX11_again_91 : decode cX11_again 91 = .ok (.aload_n 0, 1) := by decide +kernel
theorem dX11_again_92 : decode cX11_again 92 = .ok (.getfield 48, 3) := by decide +kernel
theorem dX11_again_95 : decode cX11_again 95 = .ok (.aload_n 0, 1) := by decide +kernel
theorem dX11_again_96 : decode cX11_again 96 = .ok (.getfield 44, 3) := by decide +kernel
theorem dX11_again_99 : decode cX11_again 99 = .ok (.invokevirtual 327, 3) := by decide +kernel
theorem dX11_again_102 : decode cX11_again 102 = .ok (.ifCond .eq 7, 3) := by decide +kernel
theorem dX11_again_105 : decode cX11_again 105 = .ok (.iconst 1, 1) := by decide +kernel
theorem dX11_again_106 : decode cX11_again 106 = .ok (.goto 4, 3) := by decide +kernel
theorem dX11_again_109 : decode cX11_again 109 = .ok (.iconst 0, 1) := by decide +kernel
theorem dX11_again_110 : decode cX11_again 110 = .ok (.ireturn, 1) := by decide +kernel
theorem dX11_check_0 : decode cX11_check 0 = .ok (.iload_n 1, 1) := by decide +kernel
theorem dX11_check_1 : decode cX11_check 1 = .ok (.ifCond .lt 17, 3) := by decide +kernel
theorem dX11_check_4 : decode cX11_check 4 = .ok (.iload_n 1, 1) := by decide +kernel
theorem dX11_check_5 : decode cX11_check 5 = .ok (.aload_n 0, 1) := by decide +kernel
theorem dX11_check_6 : decode cX11_check 6 = .ok (.getfield 10, 3) := by decide +kernel
theorem dX11_check_9 : decode cX11_check 9 = .ok (.getfield 119, 3) := by decide +kernel
theorem dX11_check_12 : decode cX11_check 12 = .ok (.bipush 12, 2) := by decide +kernel
theorem dX11_check_14 : decode cX11_check 14 = .ok (.idiv, 1) := by decide +kernel
theorem dX11_check_15 : decode cX11_check 15 = .ok (.if_icmp .le 6, 3) := by decide +kernel
theorem dX11_check_18 : decode cX11_check 18 = .ok (.bipush (-2), 2) := by decide +kernel
theorem dX11_check_20 : decode cX11_check 20 = .ok (.ireturn, 1) := by decide +kernel
theorem dX11_check_21 : decode cX11_check 21 = .ok (.aload_n 0, 1) := by decide +kernel
theorem dX11_check_22 : decode cX11_check 22 = .ok (.getfield 44, 3) := by decide +kernel
theorem dX11_check_25 : decode cX11_check 25 = .ok (.aload_n 0, 1) := by decide +kernel
theorem dX11_check_26 : decode cX11_check 26 = .ok (.getfield 10, 3) := by decide +kernel
theorem dX11_check_29 : decode cX11_check 29 = .ok (.iload_n 1, 1) := by decide +kernel
theorem dX11_check_30 : decode cX11_check 30 = .ok (.invokevirtual 331, 3) := by decide +kernel
theorem dX11_check_33 : decode cX11_check 33 = .ok (.istore_n 2, 1) := by decide +kernel
theorem dX11_check_34 : decode cX11_check 34 = .ok (.aload_n 0, 1) := by decide +kernel
theorem dX11_check_35 : decode cX11_check 35 = .ok (.getfield 10, 3) := by decide +kernel
theorem dX11_check_38 : decode cX11_check 38 = .ok (.iconst 0, 1) := by decide +kernel
theorem dX11_check_39 : decode cX11_check 39 = .ok (.putfield 119, 3) := by decide +kernel
theorem dX11_check_42 : decode cX11_check 42 = .ok (.iload_n 2, 1) := by decide +kernel
theorem dX11_check_43 : decode cX11_check 43 = .ok (.ireturn, 1) := by decide +kernel
theorem dX11_count_0 : decode cX11_count 0 = .ok (.iload_n 1, 1) := by decide +kernel
theorem dX11_count_1 : decode cX11_count 1 = .ok (.bipush 20, 2) := by decide +kernel
theorem dX11_count_3 : decode cX11_count 3 = .ok (.if_icmp .lt 32, 3) := by decide +kernel
theorem dX11_count_6 : decode cX11_count 6 = .ok (.aload_n 0, 1) := by decide +kernel
theorem dX11_count_7 : decode cX11_count 7 = .ok (.getfield 19, 3) := by decide +kernel
theorem dX11_count_10 : decode cX11_count 10 = .ok (.iload_n 1, 1) := by decide +kernel
theorem dX11_count_11 : decode cX11_count 11 = .ok (.bipush 20, 2) := by decide +kernel
theorem dX11_count_13 : decode cX11_count 13 = .ok (.isub, 1) := by decide +kernel
theorem dX11_count_14 : decode cX11_count 14 = .ok (.invokevirtual 125, 3) := by decide +kernel
theorem dX11_count_17 : decode cX11_count 17 = .ok (.ifCond .eq 18, 3) := by decide +kernel
theorem dX11_count_20 : decode cX11_count 20 = .ok (.aload_n 0, 1) := by decide +kernel
theorem dX11_count_21 : decode cX11_count 21 = .ok (.getfield 19, 3) := by decide +kernel
theorem dX11_count_24 : decode cX11_count 24 = .ok (.iload_n 1, 1) := by decide +kernel
theorem dX11_count_25 : decode cX11_count 25 = .ok (.bipush 20, 2) := by decide +kernel
theorem dX11_count_27 : decode cX11_count 27 = .ok (.isub, 1) := by decide +kernel
theorem dX11_count_28 : decode cX11_count 28 = .ok (.invokevirtual 335, 3) := by decide +kernel
theorem dX11_count_31 : decode cX11_count 31 = .ok (.getfield 339, 3) := by decide +kernel
theorem dX11_count_34 : decode cX11_count 34 = .ok (.ireturn, 1) := by decide +kernel
theorem dX11_count_35 : decode cX11_count 35 = .ok (.iload_n 1, 1) := by decide +kernel
theorem dX11_count_36 : decode cX11_count 36 = .ok (.tableswitch 151 0 10 #[60, 68, 76, 84, 92, 100, 108, 116, 124, 132, 143], 60) := by decide +kernel
theorem dX11_count_96 : decode cX11_count 96 = .ok (.aload_n 0, 1) := by decide +kernel
theorem dX11_count_97 : decode cX11_count 97 = .ok (.getfield 44, 3) := by decide +kernel
theorem dX11_count_100 : decode cX11_count 100 = .ok (.getfield 108, 3) := by decide +kernel
theorem dX11_count_103 : decode cX11_count 103 = .ok (.ireturn, 1) := by decide +kernel
theorem dX11_count_104 : decode cX11_count 104 = .ok (.aload_n 0, 1) := by decide +kernel
theorem dX11_count_105 : decode cX11_count 105 = .ok (.getfield 19, 3) := by decide +kernel
theorem dX11_count_108 : decode cX11_count 108 = .ok (.getfield 344, 3) := by decide +kernel
theorem dX11_count_111 : decode cX11_count 111 = .ok (.ireturn, 1) := by decide +kernel
theorem dX11_count_112 : decode cX11_count 112 = .ok (.aload_n 0, 1) := by decide +kernel
theorem dX11_count_113 : decode cX11_count 113 = .ok (.getfield 19, 3) := by decide +kernel
theorem dX11_count_116 : decode cX11_count 116 = .ok (.getfield 105, 3) := by decide +kernel
theorem dX11_count_119 : decode cX11_count 119 = .ok (.ireturn, 1) := by decide +kernel
theorem dX11_count_120 : decode cX11_count 120 = .ok (.aload_n 0, 1) := by decide +kernel
theorem dX11_count_121 : decode cX11_count 121 = .ok (.getfield 19, 3) := by decide +kernel
theorem dX11_count_124 : decode cX11_count 124 = .ok (.getfield 91, 3) := by decide +kernel
theorem dX11_count_127 : decode cX11_count 127 = .ok (.ireturn, 1) := by decide +kernel
theorem dX11_count_128 : decode cX11_count 128 = .ok (.aload_n 0, 1) := by decide +kernel
theorem dX11_count_129 : decode cX11_count 129 = .ok (.getfield 10, 3) := by decide +kernel
theorem dX11_count_132 : decode cX11_count 132 = .ok (.getfield 119, 3) := by decide +kernel
theorem dX11_count_135 : decode cX11_count 135 = .ok (.ireturn, 1) := by decide +kernel
theorem dX11_count_136 : decode cX11_count 136 = .ok (.aload_n 0, 1) := by decide +kernel
theorem dX11_count_137 : decode cX11_count 137 = .ok (.getfield 61, 3) := by decide +kernel
theorem dX11_count_140 : decode cX11_count 140 = .ok (.getfield 347, 3) := by decide +kernel
theorem dX11_count_143 : decode cX11_count 143 = .ok (.ireturn, 1) := by decide +kernel
theorem dX11_count_144 : decode cX11_count 144 = .ok (.aload_n 0, 1) := by decide +kernel
theorem dX11_count_145 : decode cX11_count 145 = .ok (.getfield 68, 3) := by decide +kernel
theorem dX11_count_148 : decode cX11_count 148 = .ok (.getfield 350, 3) := by decide +kernel
theorem dX11_count_151 : decode cX11_count 151 = .ok (.ireturn, 1) := by decide +kernel
theorem dX11_count_152 : decode cX11_count 152 = .ok (.aload_n 0, 1) := by decide +kernel
theorem dX11_count_153 : decode cX11_count 153 = .ok (.getfield 75, 3) := by decide +kernel
theorem dX11_count_156 : decode cX11_count 156 = .ok (.getfield 353, 3) := by decide +kernel
theorem dX11_count_159 : decode cX11_count 159 = .ok (.ireturn, 1) := by decide +kernel
theorem dX11_count_160 : decode cX11_count 160 = .ok (.aload_n 0, 1) := by decide +kernel
theorem dX11_count_161 : decode cX11_count 161 = .ok (.getfield 44, 3) := by decide +kernel
theorem dX11_count_164 : decode cX11_count 164 = .ok (.getfield 102, 3) := by decide +kernel
theorem dX11_count_167 : decode cX11_count 167 = .ok (.ireturn, 1) := by decide +kernel
theorem dX11_count_168 : decode cX11_count 168 = .ok (.aload_n 0, 1) := by decide +kernel
theorem dX11_count_169 : decode cX11_count 169 = .ok (.getfield 19, 3) := by decide +kernel
theorem dX11_count_172 : decode cX11_count 172 = .ok (.getfield 147, 3) := by decide +kernel
theorem dX11_count_175 : decode cX11_count 175 = .ok (.getfield 339, 3) := by decide +kernel
theorem dX11_count_178 : decode cX11_count 178 = .ok (.ireturn, 1) := by decide +kernel
theorem dX11_count_179 : decode cX11_count 179 = .ok (.aload_n 0, 1) := by decide +kernel
theorem dX11_count_180 : decode cX11_count 180 = .ok (.getfield 44, 3) := by decide +kernel
theorem dX11_count_183 : decode cX11_count 183 = .ok (.getfield 356, 3) := by decide +kernel
theorem dX11_count_186 : decode cX11_count 186 = .ok (.ireturn, 1) := by decide +kernel
theorem dX11_count_187 : decode cX11_count 187 = .ok (.iconst (-1), 1) := by decide +kernel
theorem dX11_count_188 : decode cX11_count 188 = .ok (.ireturn, 1) := by decide +kernel
theorem dX11_isOutside_0 : decode cX11_isOutside 0 = .ok (.iload_n 0, 1) := by decide +kernel
theorem dX11_isOutside_1 : decode cX11_isOutside 1 = .ok (.ifCond .lt 8, 3) := by decide +kernel
theorem dX11_isOutside_4 : decode cX11_isOutside 4 = .ok (.iload_n 0, 1) := by decide +kernel
theorem dX11_isOutside_5 : decode cX11_isOutside 5 = .ok (.iload_n 1, 1) := by decide +kernel
theorem dX11_isOutside_6 : decode cX11_isOutside 6 = .ok (.if_icmp .le 7, 3) := by decide +kernel
theorem dX11_isOutside_9 : decode cX11_isOutside 9 = .ok (.iconst 1, 1) := by decide +kernel
theorem dX11_isOutside_10 : decode cX11_isOutside 10 = .ok (.goto 4, 3) := by decide +kernel
theorem dX11_isOutside_13 : decode cX11_isOutside 13 = .ok (.iconst 0, 1) := by decide +kernel
theorem dX11_isOutside_14 : decode cX11_isOutside 14 = .ok (.ireturn, 1) := by decide +kernel
