theorem dX6_init_0 : decode cX6_init 0 = .ok (.aload_n 0, 1) := by decide +kernel
theorem dX6_init_1 : decode cX6_init 1 = .ok (.invokespecial 3, 3) := by decide +kernel
theorem dX6_init_4 : decode cX6_init 4 = .ok (.aload_n 0, 1) := by decide +kernel
theorem dX6_init_5 : decode cX6_init 5 = .ok (.bipush 40, 2) := by decide +kernel
theorem dX6_init_7 : decode cX6_init 7 = .ok (.newarray .int, 2) := by decide +kernel
theorem dX6_init_9 : decode cX6_init 9 = .ok (.putfield 9, 3) := by decide +kernel
theorem dX6_init_12 : decode cX6_init 12 = .ok (.aload_n 0, 1) := by decide +kernel
theorem dX6_init_13 : decode cX6_init 13 = .ok (.bipush 40, 2) := by decide +kernel
theorem dX6_init_15 : decode cX6_init 15 = .ok (.newarray .int, 2) := by decide +kernel
theorem dX6_init_17 : decode cX6_init 17 = .ok (.putfield 15, 3) := by decide +kernel
theorem dX6_init_20 : decode cX6_init 20 = .ok (.aload_n 0, 1) := by decide +kernel
theorem dX6_init_21 : decode cX6_init 21 = .ok (.bipush 40, 2) := by decide +kernel
theorem dX6_init_23 : decode cX6_init 23 = .ok (.newarray .int, 2) := by decide +kernel
theorem dX6_init_25 : decode cX6_init 25 = .ok (.putfield 18, 3) := by decide +kernel
theorem dX6_init_28 : decode cX6_init 28 = .ok (.aload_n 0, 1) := by decide +kernel
theorem dX6_init_29 : decode cX6_init 29 = .ok (.bipush 40, 2) := by decide +kernel
theorem dX6_init_31 : decode cX6_init 31 = .ok (.newarray .int, 2) := by decide +kernel
theorem dX6_init_33 : decode cX6_init 33 = .ok (.putfield 21, 3) := by decide +kernel
theorem dX6_init_36 : decode cX6_init 36 = .ok (.aload_n 0, 1) := by decide +kernel
theorem dX6_init_37 : decode cX6_init 37 = .ok (.bipush 40, 2) := by decide +kernel
theorem dX6_init_39 : decode cX6_init 39 = .ok (.newarray .int, 2) := by decide +kernel
theorem dX6_init_41 : decode cX6_init 41 = .ok (.putfield 24, 3) := by decide +kernel
theorem dX6_init_44 : decode cX6_init 44 = .ok (.aload_n 0, 1) := by decide +kernel
theorem dX6_init_45 : decode cX6_init 45 = .ok (.bipush 40, 2) := by decide +kernel
theorem dX6_init_47 : decode cX6_init 47 = .ok (.newarray .int, 2) := by decide +kernel
theorem dX6_init_49 : decode cX6_init 49 = .ok (.putfield 27, 3) := by decide +kernel
theorem dX6_init_52 : decode cX6_init 52 = .ok (.aload_n 0, 1) := by decide +kernel
theorem dX6_init_53 : decode cX6_init 53 = .ok (.bipush 10, 2) := by decide +kernel
theorem dX6_init_55 : decode cX6_init 55 = .ok (.newarray .int, 2) := by decide +kernel
theorem dX6_init_57 : decode cX6_init 57 = .ok (.putfield 30, 3) := by decide +kernel
theorem dX6_init_60 : decode cX6_init 60 = .ok (.aload_n 0, 1) := by decide +kernel
theorem dX6_init_61 : decode cX6_init 61 = .ok (.bipush 10, 2) := by decide +kernel
theorem dX6_init_63 : decode cX6_init 63 = .ok (.newarray .int, 2) := by decide +kernel
theorem dX6_init_65 : decode cX6_init 65 = .ok (.putfield 33, 3) := by decide +kernel
theorem dX6_init_68 : decode cX6_init 68 = .ok (.aload_n 0, 1) := by decide +kernel
theorem dX6_init_69 : decode cX6_init 69 = .ok (.bipush 9, 2) := by decide +kernel
theorem dX6_init_71 : decode cX6_init 71 = .ok (.newarray .int, 2) := by decide +kernel
theorem dX6_init_73 : decode cX6_init 73 = .ok (.putfield 36, 3) := by decide +kernel
theorem dX6_init_76 : decode cX6_init 76 = .ok (.aload_n 0, 1) := by decide +kernel
theorem dX6_init_77 : decode cX6_init 77 = .ok (.iconst 1, 1) := by decide +kernel
theorem dX6_init_78 : decode cX6_init 78 = .ok (.putfield 39, 3) := by decide +kernel
theorem dX6_init_81 : decode cX6_init 81 = .ok (.aload_n 0, 1) := by decide +kernel
theorem dX6_init_82 : decode cX6_init 82 = .ok (.aload_n 1, 1) := by decide +kernel
theorem dX6_init_83 : decode cX6_init 83 = .ok (.putfield 43, 3) := by decide +kernel
theorem dX6_init_86 : decode cX6_init 86 = .ok (.aload_n 0, 1) := by decide +kernel
theorem dX6_init_87 : decode cX6_init 87 = .ok (.aload_n 2, 1) := by decide +kernel
theorem dX6_init_88 : decode cX6_init 88 = .ok (.putfield 47, 3) := by decide +kernel
theorem dX6_init_91 : decode cX6_init 91 = .ok (.return_, 1) := by decide +kernel
theorem dX6_begin_0 : decode cX6_begin 0 = .ok (.aload_n 0, 1) := by decide +kernel
theorem dX6_begin_1 : decode cX6_begin 1 = .ok (.iconst 0, 1) := by decide +kernel
theorem dX6_begin_2 : decode cX6_begin 2 = .ok (.putfield 51, 3) := by decide +kernel
theorem dX6_begin_5 : decode cX6_begin 5 = .ok (.aload_n 0, 1) := by decide +kernel
theorem dX6_begin_6 : decode cX6_begin 6 = .ok (.iconst 0, 1) := by decide +kernel
theorem dX6_begin_7 : decode cX6_begin 7 = .ok (.putfield 54, 3) := by decide +kernel
theorem dX6_begin_10 : decode cX6_begin 10 = .ok (.aload_n 0, 1) := by decide +kernel
theorem dX6_begin_11 : decode cX6_begin 11 = .ok (.aload_n 0, 1) := by decide +kernel
theorem dX6_begin_12 : decode cX6_begin 12 = .ok (.getfield 43, 3) := by decide +kernel
theorem dX6_begin_15 : decode cX6_begin 15 = .ok (.getfield 57, 3) := by decide +kernel
theorem dX6_begin_18 : decode cX6_begin 18 = .ok (.putfield 39, 3) := by decide +kernel
theorem dX6_begin_21 : decode cX6_begin 21 = .ok (.aload_n 0, 1) := by decide +kernel
theorem dX6_begin_22 : decode cX6_begin 22 = .ok (.iconst 0, 1) := by decide +kernel
theorem dX6_begin_23 : decode cX6_begin 23 = .ok (.putfield 62, 3) := by decide +kernel
theorem dX6_begin_26 : decode cX6_begin 26 = .ok (.aload_n 0, 1) := by decide +kernel
theorem dX6_begin_27 : decode cX6_begin 27 = .ok (.getfield 30, 3) := by decide +kernel
theorem dX6_begin_30 : decode cX6_begin 30 = .ok (.iconst 0, 1) := by decide +kernel
theorem dX6_begin_31 : decode cX6_begin 31 = .ok (.invokestatic 65, 3) := by decide +kernel
theorem dX6_begin_34 : decode cX6_begin 34 = .ok (.aload_n 0, 1) := by decide +kernel
theorem dX6_begin_35 : decode cX6_begin 35 = .ok (.getfield 33, 3) := by decide +kernel
theorem dX6_begin_38 : decode cX6_begin 38 = .ok (.iconst 0, 1) := by decide +kernel
theorem dX6_begin_39 : decode cX6_begin 39 = .ok (.invokestatic 65, 3) := by decide +kernel
theorem dX6_begin_42 : decode cX6_begin 42 = .ok (.aload_n 0, 1) := by decide +kernel
theorem dX6_begin_43 : decode cX6_begin 43 = .ok (.getfield 36, 3) := by decide +kernel
theorem dX6_begin_46 : decode cX6_begin 46 = .ok (.iconst 0, 1) := by decide +kernel
theorem dX6_begin_47 : decode cX6_begin 47 = .ok (.invokestatic 65, 3) := by decide +kernel
theorem dX6_begin_50 : decode cX6_begin 50 = .ok (.return_, 1) := by decide +kernel
theorem dX6_admit_0 : decode cX6_admit 0 = .ok (.iload_n 1, 1) := by decide +kernel
theorem dX6_admit_1 : decode cX6_admit 1 = .ok (.ifCond .lt 9, 3) := by decide +kernel
theorem dX6_admit_4 : decode cX6_admit 4 = .ok (.iload_n 1, 1) := by decide +kernel
theorem dX6_admit_5 : decode cX6_admit 5 = .ok (.bipush 40, 2) := by decide +kernel
theorem dX6_admit_7 : decode cX6_admit 7 = .ok (.if_icmp .lt 4, 3) := by decide +kernel
theorem dX6_admit_10 : decode cX6_admit 10 = .ok (.return_, 1) := by decide +kernel
theorem dX6_admit_11 : decode cX6_admit 11 = .ok (.aload_n 0, 1) := by decide +kernel
theorem dX6_admit_12 : decode cX6_admit 12 = .ok (.getfield 9, 3) := by decide +kernel
theorem dX6_admit_15 : decode cX6_admit 15 = .ok (.iload_n 1, 1) := by decide +kernel
theorem dX6_admit_16 : decode cX6_admit 16 = .ok (.iconst 0, 1) := by decide +kernel
theorem dX6_admit_17 : decode cX6_admit 17 = .ok (.iastore, 1) := by decide +kernel
theorem dX6_admit_18 : decode cX6_admit 18 = .ok (.aload_n 0, 1) := by decide +kernel
theorem dX6_admit_19 : decode cX6_admit 19 = .ok (.getfield 15, 3) := by decide +kernel
theorem dX6_admit_22 : decode cX6_admit 22 = .ok (.iload_n 1, 1) := by decide +kernel
theorem dX6_admit_23 : decode cX6_admit 23 = .ok (.aload_n 0, 1) := by decide +kernel
theorem dX6_admit_24 : decode cX6_admit 24 = .ok (.getfield 43, 3) := by decide +kernel
theorem dX6_admit_27 : decode cX6_admit 27 = .ok (.getfield 71, 3) := by decide +kernel
theorem dX6_admit_30 : decode cX6_admit 30 = .ok (.iload_n 1, 1) := by decide +kernel
theorem dX6_admit_31 : decode cX6_admit 31 = .ok (.iaload, 1) := by decide +kernel
theorem dX6_admit_32 : decode cX6_admit 32 = .ok (.iastore, 1) := by decide +kernel
theorem dX6_admit_33 : decode cX6_admit 33 = .ok (.aload_n 0, 1) := by decide +kernel
theorem dX6_admit_34 : decode cX6_admit 34 = .ok (.getfield 18, 3) := by decide +kernel
theorem dX6_admit_37 : decode cX6_admit 37 = .ok (.iload_n 1, 1) := by decide +kernel
theorem dX6_admit_38 : decode cX6_admit 38 = .ok (.iconst 0, 1) := by decide +kernel
theorem dX6_admit_39 : decode cX6_admit 39 = .ok (.iastore, 1) := by decide +kernel
theorem dX6_admit_40 : decode cX6_admit 40 = .ok (.aload_n 0, 1) := by decide +kernel
theorem dX6_admit_41 : decode cX6_admit 41 = .ok (.getfield 21, 3) := by decide +kernel
theorem dX6_admit_44 : decode cX6_admit 44 = .ok (.iload_n 1, 1) := by decide +kernel
theorem dX6_admit_45 : decode cX6_admit 45 = .ok (.iconst 0, 1) := by decide +kernel
theorem dX6_admit_46 : decode cX6_admit 46 = .ok (.iastore, 1) := by decide +kernel
theorem dX6_admit_47 : decode cX6_admit 47 = .ok (.aload_n 0, 1) := by decide +kernel
theorem dX6_admit_48 : decode cX6_admit 48 = .ok (.getfield 24, 3) := by decide +kernel
theorem dX6_admit_51 : decode cX6_admit 51 = .ok (.iload_n 1, 1) := by decide +kernel
theorem dX6_admit_52 : decode cX6_admit 52 = .ok (.iconst 0, 1) := by decide +kernel
theorem dX6_admit_53 : decode cX6_admit 53 = .ok (.iastore, 1) := by decide +kernel
theorem dX6_admit_54 : decode cX6_admit 54 = .ok (.aload_n 0, 1) := by decide +kernel
theorem dX6_admit_55 : decode cX6_admit 55 = .ok (.getfield 27, 3) := by decide +kernel
theorem dX6_admit_58 : decode cX6_admit 58 = .ok (.iload_n 1, 1) := by decide +kernel
theorem dX6_admit_59 : decode cX6_admit 59 = .ok (.iconst (-1), 1) := by decide +kernel
theorem dX6_admit_60 : decode cX6_admit 60 = .ok (.iastore, 1) := by decide +kernel
theorem dX6_admit_61 : decode cX6_admit 61 = .ok (.aload_n 0, 1) := by decide +kernel
theorem dX6_admit_62 : decode cX6_admit 62 = .ok (.getfield 36, 3) := by decide +kernel
theorem dX6_admit_65 : decode cX6_admit 65 = .ok (.iconst 0, 1) := by decide +kernel
theorem dX6_admit_66 : decode cX6_admit 66 = .ok (.dup2, 1) := by decide +kernel
theorem dX6_admit_67 : decode cX6_admit 67 = .ok (.iaload, 1) := by decide +kernel
theorem dX6_admit_68 : decode cX6_admit 68 = .ok (.iconst 1, 1) := by decide +kernel
theorem dX6_admit_69 : decode cX6_admit 69 = .ok (.iadd, 1) := by decide +kernel
theorem dX6_admit_70 : decode cX6_admit 70 = .ok (.iastore, 1) := by decide +kernel
theorem dX6_admit_71 : decode cX6_admit 71 = .ok (.aload_n 0, 1) := by decide +kernel
theorem dX6_admit_72 : decode cX6_admit 72 = .ok (.iload_n 1, 1) := by decide +kernel
theorem dX6_admit_73 : decode cX6_admit 73 = .ok (.iconst 1, 1) := by decide +kernel
theorem dX6_admit_74 : decode cX6_admit 74 = .ok (.iadd, 1) := by decide +kernel
theorem dX6_admit_75 : decode cX6_admit 75 = .ok (.putfield 51, 3) := by decide +kernel
theorem dX6_admit_78 : decode cX6_admit 78 = .ok (.return_, 1) := by decide +kernel
theorem dX6_admitThoseOf_0 : decode cX6_admitThoseOf 0 = .ok (.aload_n 0, 1) := by decide +kernel
theorem dX6_admitThoseOf_1 : decode cX6_admitThoseOf 1 = .ok (.getfield 51, 3) := by decide +kernel
theorem dX6_admitThoseOf_4 : decode cX6_admitThoseOf 4 = .ok (.istore_n 2, 1) := by decide +kernel
theorem dX6_admitThoseOf_5 : decode cX6_admitThoseOf 5 = .ok (.iload_n 2, 1) := by decide +kernel
theorem dX6_admitThoseOf_6 : decode cX6_admitThoseOf 6 = .ok (.aload_n 0, 1) := by decide +kernel
theorem dX6_admitThoseOf_7 : decode cX6_admitThoseOf 7 = .ok (.getfield 43, 3) := by decide +kernel
theorem dX6_admitThoseOf_10 : decode cX6_admitThoseOf 10 = .ok (.getfield 72, 3) := by decide +kernel
theorem dX6_admitThoseOf_13 : decode cX6_admitThoseOf 13 = .ok (.if_icmp .ge 27, 3) := by decide +kernel
theorem dX6_admitThoseOf_16 : decode cX6_admitThoseOf 16 = .ok (.aload_n 0, 1) := by decide +kernel
theorem dX6_admitThoseOf_17 : decode cX6_admitThoseOf 17 = .ok (.getfield 43, 3) := by decide +kernel
theorem dX6_admitThoseOf_20 : decode cX6_admitThoseOf 20 = .ok (.getfield 75, 3) := by decide +kernel
theorem dX6_admitThoseOf_23 : decode cX6_admitThoseOf 23 = .ok (.iload_n 2, 1) := by decide +kernel
theorem dX6_admitThoseOf_24 : decode cX6_admitThoseOf 24 = .ok (.iaload, 1) := by decide +kernel
theorem dX6_admitThoseOf_25 : decode cX6_admitThoseOf 25 = .ok (.iload_n 1, 1) := by decide +kernel
theorem dX6_admitThoseOf_26 : decode cX6_admitThoseOf 26 = .ok (.if_icmp .ne 14, 3) := by decide +kernel
theorem dX6_admitThoseOf_29 : decode cX6_admitThoseOf 29 = .ok (.aload_n 0, 1) := by decide +kernel
theorem dX6_admitThoseOf_30 : decode cX6_admitThoseOf 30 = .ok (.iload_n 2, 1) := by decide +kernel
theorem dX6_admitThoseOf_31 : decode cX6_admitThoseOf 31 = .ok (.invokevirtual 78, 3) := by decide +kernel
theorem dX6_admitThoseOf_34 : decode cX6_admitThoseOf 34 = .ok (.iinc 2 1, 3) := by decide +kernel
theorem dX6_admitThoseOf_37 : decode cX6_admitThoseOf 37 = .ok (.goto (-32), 3) := by decide +kernel
theorem dX6_admitThoseOf_40 : decode cX6_admitThoseOf 40 = .ok (.return_, 1) := by decide +kernel
theorem dX6_isUnderWay_0 : decode cX6_isUnderWay 0 = .ok (.iload_n 1, 1) := by decide +kernel
theorem dX6_isUnderWay_1 : decode cX6_isUnderWay 1 = .ok (.ifCond .lt 31, 3) := by decide +kernel
theorem dX6_isUnderWay_4 : decode cX6_isUnderWay 4 = .ok (.iload_n 1, 1) := by decide +kernel
theorem dX6_isUnderWay_5 : decode cX6_isUnderWay 5 = .ok (.aload_n 0, 1) := by decide +kernel
theorem dX6_isUnderWay_6 : decode cX6_isUnderWay 6 = .ok (.getfield 51, 3) := by decide +kernel
theorem dX6_isUnderWay_9 : decode cX6_isUnderWay 9 = .ok (.if_icmp .ge 23, 3) := by decide +kernel
theorem dX6_isUnderWay_12 : decode cX6_isUnderWay 12 = .ok (.aload_n 0, 1) := by decide +kernel
theorem dX6_isUnderWay_13 : decode cX6_isUnderWay 13 = .ok (.getfield 9, 3) := by decide +kernel
theorem dX6_isUnderWay_16 : decode cX6_isUnderWay 16 = .ok (.iload_n 1, 1) := by decide +kernel
theorem dX6_isUnderWay_17 : decode cX6_isUnderWay 17 = .ok (.iaload, 1) := by decide +kernel
theorem dX6_isUnderWay_18 : decode cX6_isUnderWay 18 = .ok (.aload_n 0, 1) := by decide +kernel
theorem dX6_isUnderWay_19 : decode cX6_isUnderWay 19 = .ok (.getfield 43, 3) := by decide +kernel
theorem dX6_isUnderWay_22 : decode cX6_isUnderWay 22 = .ok (.getfield 82, 3) := by decide +kernel
theorem dX6_isUnderWay_25 : decode cX6_isUnderWay 25 = .ok (.if_icmp .ge 7, 3) := by decide +kernel
theorem dX6_isUnderWay_28 : decode cX6_isUnderWay 28 = .ok (.iconst 1, 1) := by decide +kernel
theorem dX6_isUnderWay_29 : decode cX6_isUnderWay 29 = .ok (.goto 4, 3) := by decide +kernel
theorem dX6_isUnderWay_32 : decode cX6_isUnderWay 32 = .ok (.iconst 0, 1) := by decide +kernel
theorem dX6_isUnderWay_33 : decode cX6_isUnderWay 33 = .ok (.ireturn, 1) := by decide +kernel
theorem dX6_goBy_0 : decode cX6_goBy 0 = .ok (.aload_n 0, 1) := by decide +kernel
theorem dX6_goBy_1 : decode cX6_goBy 1 = .ok (.iconst 0, 1) := by decide +kernel
theorem dX6_goBy_2 : decode cX6_goBy 2 = .ok (.putfield 85, 3) := by decide +kernel
theorem dX6_goBy_5 : decode cX6_goBy 5 = .ok (.iconst 0, 1) := by decide +kernel
theorem dX6_goBy_6 : decode cX6_goBy 6 = .ok (.istore_n 1, 1) := by decide +kernel
theorem dX6_goBy_7 : decode cX6_goBy 7 = .ok (.iconst 0, 1) := by decide +kernel
theorem dX6_goBy_8 : decode cX6_goBy 8 = .ok (.istore_n 2, 1) := by decide +kernel
theorem dX6_goBy_9 : decode cX6_goBy 9 = .ok (.iload_n 2, 1) := by decide +kernel
theorem dX6_goBy_10 : decode cX6_goBy 10 = .ok (.aload_n 0, 1) := by decide +kernel
theorem dX6_goBy_11 : decode cX6_goBy 11 = .ok (.getfield 51, 3) := by decide +kernel
theorem dX6_goBy_14 : decode cX6_goBy 14 = .ok (.if_icmp .ge 30, 3) := by decide +kernel
theorem dX6_goBy_17 : decode cX6_goBy 17 = .ok (.aload_n 0, 1) := by decide +kernel
theorem dX6_goBy_18 : decode cX6_goBy 18 = .ok (.iload_n 2, 1) := by decide +kernel
theorem dX6_goBy_19 : decode cX6_goBy 19 = .ok (.invokevirtual 88, 3) := by decide +kernel
theorem dX6_goBy_22 : decode cX6_goBy 22 = .ok (.ifCond .eq 16, 3) := by decide +kernel
theorem dX6_goBy_25 : decode cX6_goBy 25 = .ok (.iload_n 1, 1) := by decide +kernel
theorem dX6_goBy_26 : decode cX6_goBy 26 = .ok (.aload_n 0, 1) := by decide +kernel
theorem dX6_goBy_27 : decode cX6_goBy 27 = .ok (.aload_n 0, 1) := by decide +kernel
theorem dX6_goBy_28 : decode cX6_goBy 28 = .ok (.iload_n 2, 1) := by decide +kernel
theorem dX6_goBy_29 : decode cX6_goBy 29 = .ok (.invokevirtual 92, 3) := by decide +kernel
theorem dX6_goBy_32 : decode cX6_goBy 32 = .ok (.iload_n 2, 1) := by decide +kernel
theorem dX6_goBy_33 : decode cX6_goBy 33 = .ok (.invokevirtual 96, 3) := by decide +kernel
theorem dX6_goBy_36 : decode cX6_goBy 36 = .ok (.iadd, 1) := by decide +kernel
theorem dX6_goBy_37 : decode cX6_goBy 37 = .ok (.istore_n 1, 1) := by decide +kernel
theorem dX6_goBy_38 : decode cX6_goBy 38 = .ok (.iinc 2 1, 3) := by decide +kernel
theorem dX6_goBy_41 : decode cX6_goBy 41 = .ok (.goto (-32), 3) := by decide +kernel
theorem dX6_goBy_44 : decode cX6_goBy 44 = .ok (.aload_n 0, 1) := by decide +kernel
theorem dX6_goBy_45 : decode cX6_goBy 45 = .ok (.aload_n 0, 1) := by decide +kernel
theorem dX6_goBy_46 : decode cX6_goBy 46 = .ok (.getfield 85, 3) := by decide +kernel
theorem dX6_goBy_49 : decode cX6_goBy 49 = .ok (.invokestatic 100, 3) := by decide +kernel
theorem dX6_goBy_52 : decode cX6_goBy 52 = .ok (.putfield 62, 3) := by decide +kernel
theorem dX6_goBy_55 : decode cX6_goBy 55 = .ok (.aload_n 0, 1) := by decide +kernel
theorem dX6_goBy_56 : decode cX6_goBy 56 = .ok (.dup, 1) := by decide +kernel
theorem dX6_goBy_57 : decode cX6_goBy 57 = .ok (.getfield 54, 3) := by decide +kernel
theorem dX6_goBy_60 : decode cX6_goBy 60 = .ok (.iconst 1, 1) := by decide +kernel
theorem dX6_goBy_61 : decode cX6_goBy 61 = .ok (.iadd, 1) := by decide +kernel
theorem dX6_goBy_62 : decode cX6_goBy 62 = .ok (.putfield 54, 3) := by decide +kernel
theorem dX6_goBy_65 : decode cX6_goBy 65 = .ok (.iload_n 1, 1) := by decide +kernel
theorem dX6_goBy_66 : decode cX6_goBy 66 = .ok (.ireturn, 1) := by decide +kernel
theorem dX6_server_0 : decode cX6_server 0 = .ok (.aload_n 0, 1) := by decide +kernel
theorem dX6_server_1 : decode cX6_server 1 = .ok (.getfield 43, 3) := by decide +kernel
theorem dX6_server_4 : decode cX6_server 4 = .ok (.getfield 105, 3) := by decide +kernel
theorem dX6_server_7 : decode cX6_server 7 = .ok (.aload_n 0, 1) := by decide +kernel
theorem dX6_server_8 : decode cX6_server 8 = .ok (.getfield 9, 3) := by decide +kernel
theorem dX6_server_11 : decode cX6_server 11 = .ok (.iload_n 1, 1) := by decide +kernel
theorem dX6_server_12 : decode cX6_server 12 = .ok (.iaload, 1) := by decide +kernel
theorem dX6_server_13 : decode cX6_server 13 = .ok (.iaload, 1) := by decide +kernel
theorem dX6_server_14 : decode cX6_server 14 = .ok (.istore_n 2, 1) := by decide +kernel
theorem dX6_server_15 : decode cX6_server 15 = .ok (.aload_n 0, 1) := by decide +kernel
theorem dX6_server_16 : decode cX6_server 16 = .ok (.getfield 43, 3) := by decide +kernel
theorem dX6_server_19 : decode cX6_server 19 = .ok (.getfield 108, 3) := by decide +kernel
theorem dX6_server_22 : decode cX6_server 22 = .ok (.aload_n 0, 1) := by decide +kernel
theorem dX6_server_23 : decode cX6_server 23 = .ok (.getfield 9, 3) := by decide +kernel
theorem dX6_server_26 : decode cX6_server 26 = .ok (.iload_n 1, 1) := by decide +kernel
theorem dX6_server_27 : decode cX6_server 27 = .ok (.iaload, 1) := by decide +kernel
theorem dX6_server_28 : decode cX6_server 28 = .ok (.iaload, 1) := by decide +kernel
theorem dX6_server_29 : decode cX6_server 29 = .ok (.istore_n 3, 1) := by decide +kernel
theorem dX6_server_30 : decode cX6_server 30 = .ok (.iload_n 3, 1) := by decide +kernel
theorem dX6_server_31 : decode cX6_server 31 = .ok (.ifCond .ne 9, 3) := by decide +kernel
theorem dX6_server_34 : decode cX6_server 34 = .ok (.iload_n 2, 1) := by decide +kernel
theorem dX6_server_35 : decode cX6_server 35 = .ok (.iconst 0, 1) := by decide +kernel
theorem dX6_server_36 : decode cX6_server 36 = .ok (.invokestatic 111, 3) := by decide +kernel
theorem dX6_server_39 : decode cX6_server 39 = .ok (.ireturn, 1) := by decide +kernel
theorem dX6_server_40 : decode cX6_server 40 = .ok (.iload_n 3, 1) := by decide +kernel
theorem dX6_server_41 : decode cX6_server 41 = .ok (.iconst 2, 1) := by decide +kernel
theorem dX6_server_42 : decode cX6_server 42 = .ok (.if_icmp .ne 49, 3) := by decide +kernel
theorem dX6_server_45 : decode cX6_server 45 = .ok (.iload_n 2, 1) := by decide +kernel
theorem dX6_server_46 : decode cX6_server 46 = .ok (.invokestatic 100, 3) := by decide +kernel
theorem dX6_server_49 : decode cX6_server 49 = .ok (.istore 4, 2) := by decide +kernel
theorem dX6_server_51 : decode cX6_server 51 = .ok (.aload_n 0, 1) := by decide +kernel
theorem dX6_server_52 : decode cX6_server 52 = .ok (.sipush 25173, 3) := by decide +kernel
theorem dX6_server_55 : decode cX6_server 55 = .ok (.aload_n 0, 1) := by decide +kernel
theorem dX6_server_56 : decode cX6_server 56 = .ok (.getfield 39, 3) := by decide +kernel
theorem dX6_server_59 : decode cX6_server 59 = .ok (.imul, 1) := by decide +kernel
theorem dX6_server_60 : decode cX6_server 60 = .ok (.sipush 13849, 3) := by decide +kernel
theorem dX6_server_63 : decode cX6_server 63 = .ok (.iadd, 1) := by decide +kernel
theorem dX6_server_64 : decode cX6_server 64 = .ok (.ldc 114, 2) := by decide +kernel
theorem dX6_server_66 : decode cX6_server 66 = .ok (.irem, 1) := by decide +kernel
theorem dX6_server_67 : decode cX6_server 67 = .ok (.putfield 39, 3) := by decide +kernel
theorem dX6_server_70 : decode cX6_server 70 = .ok (.iload 4, 2) := by decide +kernel
theorem dX6_server_72 : decode cX6_server 72 = .ok (.ifCond .le 17, 3) := by decide +kernel
theorem dX6_server_75 : decode cX6_server 75 = .ok (.iload_n 2, 1) := by decide +kernel
theorem dX6_server_76 : decode cX6_server 76 = .ok (.aload_n 0, 1) := by decide +kernel
theorem dX6_server_77 : decode cX6_server 77 = .ok (.getfield 39, 3) := by decide +kernel
theorem dX6_server_80 : decode cX6_server 80 = .ok (.iload 4, 2) := by decide +kernel
theorem dX6_server_82 : decode cX6_server 82 = .ok (.irem, 1) := by decide +kernel
theorem dX6_server_83 : decode cX6_server 83 = .ok (.invokestatic 111, 3) := by decide +kernel
theorem dX6_server_86 : decode cX6_server 86 = .ok (.goto 4, 3) := by decide +kernel
theorem dX6_server_89 : decode cX6_server 89 = .ok (.iconst 0, 1) := by decide +kernel
theorem dX6_server_90 : decode cX6_server 90 = .ok (.ireturn, 1) := by decide +kernel
theorem dX6_server_91 : decode cX6_server 91 = .ok (.aload_n 0, 1) := by decide +kernel
theorem dX6_server_92 : decode cX6_server 92 = .ok (.iload_n 2, 1) := by decide +kernel
theorem dX6_server_93 : decode cX6_server 93 = .ok (.iload_n 1, 1) := by decide +kernel
theorem dX6_server_94 : decode cX6_server 94 = .ok (.invokevirtual 115, 3) := by decide +kernel
theorem dX6_server_97 : decode cX6_server 97 = .ok (.ireturn, 1) := by decide +kernel
theorem dX6_atPlace_0 : decode cX6_atPlace 0 = .ok (.iload_n 1, 1) := by decide +kernel
theorem dX6_atPlace_1 : decode cX6_atPlace 1 = .ok (.istore_n 2, 1) := by decide +kernel
theorem dX6_atPlace_2 : decode cX6_atPlace 2 = .ok (.iconst 0, 1) := by decide +kernel
theorem dX6_atPlace_3 : decode cX6_atPlace 3 = .ok (.istore_n 3, 1) := by decide +kernel
theorem dX6_atPlace_4 : decode cX6_atPlace 4 = .ok (.iload_n 3, 1) := by decide +kernel
theorem dX6_atPlace_5 : decode cX6_atPlace 5 = .ok (.bipush 10, 2) := by decide +kernel
theorem dX6_atPlace_7 : decode cX6_atPlace 7 = .ok (.if_icmp .ge 27, 3) := by decide +kernel
theorem dX6_atPlace_10 : decode cX6_atPlace 10 = .ok (.iload_n 0, 1) := by decide +kernel
theorem dX6_atPlace_11 : decode cX6_atPlace 11 = .ok (.iload_n 3, 1) := by decide +kernel
theorem dX6_atPlace_12 : decode cX6_atPlace 12 = .ok (.ishr, 1) := by decide +kernel
theorem dX6_atPlace_13 : decode cX6_atPlace 13 = .ok (.iconst 1, 1) := by decide +kernel
theorem dX6_atPlace_14 : decode cX6_atPlace 14 = .ok (.iand, 1) := by decide +kernel
theorem dX6_atPlace_15 : decode cX6_atPlace 15 = .ok (.iconst 1, 1) := by decide +kernel
theorem dX6_atPlace_16 : decode cX6_atPlace 16 = .ok (.if_icmp .ne 12, 3) := by decide +kernel
theorem dX6_atPlace_19 : decode cX6_atPlace 19 = .ok (.iload_n 2, 1) := by decide +kernel
theorem dX6_atPlace_20 : decode cX6_atPlace 20 = .ok (.ifCond .ne 5, 3) := by decide +kernel
theorem dX6_atPlace_23 : decode cX6_atPlace 23 = .ok (.iload_n 3, 1) := by decide +kernel
theorem dX6_atPlace_24 : decode cX6_atPlace 24 = .ok (.ireturn, 1) := by decide +kernel
theorem dX6_atPlace_25 : decode cX6_atPlace 25 = .ok (.iinc 2 (-1), 3) := by decide +kernel
theorem dX6_atPlace_28 : decode cX6_atPlace 28 = .ok (.iinc 3 1, 3) := by decide +kernel
theorem dX6_atPlace_31 : decode cX6_atPlace 31 = .ok (.goto (-27), 3) := by decide +kernel
theorem dX6_atPlace_34 : decode cX6_atPlace 34 = .ok (.iconst 0, 1) := by decide +kernel
theorem dX6_atPlace_35 : decode cX6_atPlace 35 = .ok (.ireturn, 1) := by decide +kernel
theorem dX6_cheapest_0 : decode cX6_cheapest 0 = .ok (.iconst (-1), 1) := by decide +kernel
theorem dX6_cheapest_1 : decode cX6_cheapest 1 = .ok (.istore_n 3, 1) := by decide +kernel
theorem dX6_cheapest_2 : decode cX6_cheapest 2 = .ok (.iconst 0, 1) := by decide +kernel
theorem dX6_cheapest_3 : decode cX6_cheapest 3 = .ok (.istore 4, 2) := by decide +kernel
theorem dX6_cheapest_5 : decode cX6_cheapest 5 = .ok (.iconst 0, 1) := by decide +kernel
theorem dX6_cheapest_6 : decode cX6_cheapest 6 = .ok (.istore 5, 2) := by decide +kernel
theorem dX6_cheapest_8 : decode cX6_cheapest 8 = .ok (.iconst 0, 1) := by decide +kernel
theorem dX6_cheapest_9 : decode cX6_cheapest 9 = .ok (.istore 6, 2) := by decide +kernel
theorem dX6_cheapest_11 : decode cX6_cheapest 11 = .ok (.iload 6, 2) := by decide +kernel
theorem dX6_cheapest_13 : decode cX6_cheapest 13 = .ok (.bipush 10, 2) := by decide +kernel
theorem dX6_cheapest_15 : decode cX6_cheapest 15 = .ok (.if_icmp .ge 73, 3) := by decide +kernel
theorem dX6_cheapest_18 : decode cX6_cheapest 18 = .ok (.iload_n 1, 1) := by decide +kernel
theorem dX6_cheapest_19 : decode cX6_cheapest 19 = .ok (.iload 6, 2) := by decide +kernel
theorem dX6_cheapest_21 : decode cX6_cheapest 21 = .ok (.ishr, 1) := by decide +kernel
theorem dX6_cheapest_22 : decode cX6_cheapest 22 = .ok (.iconst 1, 1) := by decide +kernel
theorem dX6_cheapest_23 : decode cX6_cheapest 23 = .ok (.iand, 1) := by decide +kernel
theorem dX6_cheapest_24 : decode cX6_cheapest 24 = .ok (.iconst 1, 1) := by decide +kernel
theorem dX6_cheapest_25 : decode cX6_cheapest 25 = .ok (.if_icmp .ne 57, 3) := by decide +kernel
theorem dX6_cheapest_28 : decode cX6_cheapest 28 = .ok (.aload_n 0, 1) := by decide +kernel
theorem dX6_cheapest_29 : decode cX6_cheapest 29 = .ok (.iload 6, 2) := by decide +kernel
theorem dX6_cheapest_31 : decode cX6_cheapest 31 = .ok (.iload_n 2, 1) := by decide +kernel
theorem dX6_cheapest_32 : decode cX6_cheapest 32 = .ok (.invokevirtual 118, 3) := by decide +kernel
theorem dX6_cheapest_35 : decode cX6_cheapest 35 = .ok (.iload_n 3, 1) := by decide +kernel
theorem dX6_cheapest_36 : decode cX6_cheapest 36 = .ok (.iconst (-1), 1) := by decide +kernel
theorem dX6_cheapest_37 : decode cX6_cheapest 37 = .ok (.if_icmp .eq 30, 3) := by decide +kernel
theorem dX6_cheapest_40 : decode cX6_cheapest 40 = .ok (.aload_n 0, 1) := by decide +kernel
theorem dX6_cheapest_41 : decode cX6_cheapest 41 = .ok (.getfield 122, 3) := by decide +kernel
theorem dX6_cheapest_44 : decode cX6_cheapest 44 = .ok (.iload 4, 2) := by decide +kernel
theorem dX6_cheapest_46 : decode cX6_cheapest 46 = .ok (.if_icmp .lt 21, 3) := by decide +kernel
theorem dX6_cheapest_49 : decode cX6_cheapest 49 = .ok (.aload_n 0, 1) := by decide +kernel
theorem dX6_cheapest_50 : decode cX6_cheapest 50 = .ok (.getfield 122, 3) := by decide +kernel
theorem dX6_cheapest_53 : decode cX6_cheapest 53 = .ok (.iload 4, 2) := by decide +kernel
theorem dX6_cheapest_55 : decode cX6_cheapest 55 = .ok (.if_icmp .ne 27, 3) := by decide +kernel
theorem dX6_cheapest_58 : decode cX6_cheapest 58 = .ok (.aload_n 0, 1) := by decide +kernel
theorem dX6_cheapest_59 : decode cX6_cheapest 59 = .ok (.getfield 125, 3) := by decide +kernel
theorem dX6_cheapest_62 : decode cX6_cheapest 62 = .ok (.iload 5, 2) := by decide +kernel
theorem dX6_cheapest_64 : decode cX6_cheapest 64 = .ok (.if_icmp .ge 18, 3) := by decide +kernel
theorem dX6_cheapest_67 : decode cX6_cheapest 67 = .ok (.iload 6, 2) := by decide +kernel
theorem dX6_cheapest_69 : decode cX6_cheapest 69 = .ok (.istore_n 3, 1) := by decide +kernel
theorem dX6_cheapest_70 : decode cX6_cheapest 70 = .ok (.aload_n 0, 1) := by decide +kernel
theorem dX6_cheapest_71 : decode cX6_cheapest 71 = .ok (.getfield 122, 3) := by decide +kernel
theorem dX6_cheapest_74 : decode cX6_cheapest 74 = .ok (.istore 4, 2) := by decide +kernel
theorem dX6_cheapest_76 : decode cX6_cheapest 76 = .ok (.aload_n 0, 1) := by decide +kernel
theorem dX6_cheapest_77 : decode cX6_cheapest 77 = .ok (.getfield 125, 3) := by decide +kernel
theorem dX6_cheapest_80 : decode cX6_cheapest 80 = .ok (.istore 5, 2) := by decide +kernel
theorem dX6_cheapest_82 : decode cX6_cheapest 82 = .ok (.iinc 6 1, 3) := by decide +kernel
theorem dX6_cheapest_85 : decode cX6_cheapest 85 = .ok (.goto (-74), 3) := by decide +kernel
theorem dX6_cheapest_88 : decode cX6_cheapest 88 = .ok (.iload_n 3, 1) := by decide +kernel
theorem dX6_cheapest_89 : decode cX6_cheapest 89 = .ok (.iconst 0, 1) := by decide +kernel
theorem dX6_cheapest_90 : decode cX6_cheapest 90 = .ok (.invokestatic 128, 3) := by decide +kernel
theorem dX6_cheapest_93 : decode cX6_cheapest 93 = .ok (.ireturn, 1) := by decide +kernel
theorem dX6_meet_0 : decode cX6_meet 0 = .ok (.aload_n 0, 1) := by decide +kernel
theorem dX6_meet_1 : decode cX6_meet 1 = .ok (.iload_n 1, 1) := by decide +kernel
theorem dX6_meet_2 : decode cX6_meet 2 = .ok (.iload_n 2, 1) := by decide +kernel
theorem dX6_meet_3 : decode cX6_meet 3 = .ok (.iconst 0, 1) := by decide +kernel
theorem dX6_meet_4 : decode cX6_meet 4 = .ok (.invokevirtual 133, 3) := by decide +kernel
theorem dX6_meet_7 : decode cX6_meet 7 = .ok (.aload_n 0, 1) := by decide +kernel
theorem dX6_meet_8 : decode cX6_meet 8 = .ok (.getfield 43, 3) := by decide +kernel
theorem dX6_meet_11 : decode cX6_meet 11 = .ok (.iload_n 1, 1) := by decide +kernel
theorem dX6_meet_12 : decode cX6_meet 12 = .ok (.invokevirtual 137, 3) := by decide +kernel
theorem dX6_meet_15 : decode cX6_meet 15 = .ok (.astore_n 3, 1) := by decide +kernel
theorem dX6_meet_16 : decode cX6_meet 16 = .ok (.aload_n 0, 1) := by decide +kernel
theorem dX6_meet_17 : decode cX6_meet 17 = .ok (.aload_n 0, 1) := by decide +kernel
theorem dX6_meet_18 : decode cX6_meet 18 = .ok (.getfield 47, 3) := by decide +kernel
theorem dX6_meet_21 : decode cX6_meet 21 = .ok (.aload_n 3, 1) := by decide +kernel
theorem dX6_meet_22 : decode cX6_meet 22 = .ok (.bipush 97, 2) := by decide +kernel
theorem dX6_meet_24 : decode cX6_meet 24 = .ok (.sipush 10000, 3) := by decide +kernel
theorem dX6_meet_27 : decode cX6_meet 27 = .ok (.invokevirtual 141, 3) := by decide +kernel
theorem dX6_meet_30 : decode cX6_meet 30 = .ok (.putfield 122, 3) := by decide +kernel
theorem dX6_meet_33 : decode cX6_meet 33 = .ok (.aload_n 0, 1) := by decide +kernel
theorem dX6_meet_34 : decode cX6_meet 34 = .ok (.aload_n 0, 1) := by decide +kernel
theorem dX6_meet_35 : decode cX6_meet 35 = .ok (.getfield 47, 3) := by decide +kernel
theorem dX6_meet_38 : decode cX6_meet 38 = .ok (.aload_n 3, 1) := by decide +kernel
theorem dX6_meet_39 : decode cX6_meet 39 = .ok (.bipush 119, 2) := by decide +kernel
theorem dX6_meet_41 : decode cX6_meet 41 = .ok (.bipush 24, 2) := by decide +kernel
theorem dX6_meet_43 : decode cX6_meet 43 = .ok (.invokevirtual 141, 3) := by decide +kernel
theorem dX6_meet_46 : decode cX6_meet 46 = .ok (.putfield 125, 3) := by decide +kernel
theorem dX6_meet_49 : decode cX6_meet 49 = .ok (.return_, 1) := by decide +kernel
theorem dX6_face_0 : decode cX6_face 0 = .ok (.aload_n 0, 1) := by decide +kernel
theorem dX6_face_1 : decode cX6_face 1 = .ok (.getfield 47, 3) := by decide +kernel
theorem dX6_face_4 : decode cX6_face 4 = .ok (.getfield 147, 3) := by decide +kernel
theorem dX6_face_7 : decode cX6_face 7 = .ok (.astore 4, 2) := by decide +kernel
theorem dX6_face_9 : decode cX6_face 9 = .ok (.aload_n 0, 1) := by decide +kernel
theorem dX6_face_10 : decode cX6_face 10 = .ok (.getfield 9, 3) := by decide +kernel
theorem dX6_face_13 : decode cX6_face 13 = .ok (.iload_n 2, 1) := by decide +kernel
theorem dX6_face_14 : decode cX6_face 14 = .ok (.iaload, 1) := by decide +kernel
theorem dX6_face_15 : decode cX6_face 15 = .ok (.istore 5, 2) := by decide +kernel
theorem dX6_face_17 : decode cX6_face 17 = .ok (.aload 4, 2) := by decide +kernel
theorem dX6_face_19 : decode cX6_face 19 = .ok (.iconst 0, 1) := by decide +kernel
theorem dX6_face_20 : decode cX6_face 20 = .ok (.aload_n 0, 1) := by decide +kernel
theorem dX6_face_21 : decode cX6_face 21 = .ok (.getfield 43, 3) := by decide +kernel
theorem dX6_face_24 : decode cX6_face 24 = .ok (.getfield 150, 3) := by decide +kernel
theorem dX6_face_27 : decode cX6_face 27 = .ok (.iload_n 2, 1) := by decide +kernel
theorem dX6_face_28 : decode cX6_face 28 = .ok (.iaload, 1) := by decide +kernel
theorem dX6_face_29 : decode cX6_face 29 = .ok (.iastore, 1) := by decide +kernel
theorem dX6_face_30 : decode cX6_face 30 = .ok (.aload 4, 2) := by decide +kernel
theorem dX6_face_32 : decode cX6_face 32 = .ok (.iconst 1, 1) := by decide +kernel
theorem dX6_face_33 : decode cX6_face 33 = .ok (.aload_n 0, 1) := by decide +kernel
theorem dX6_face_34 : decode cX6_face 34 = .ok (.getfield 15, 3) := by decide +kernel
theorem dX6_face_37 : decode cX6_face 37 = .ok (.iload_n 2, 1) := by decide +kernel
theorem dX6_face_38 : decode cX6_face 38 = .ok (.iaload, 1) := by decide +kernel
theorem dX6_face_39 : decode cX6_face 39 = .ok (.iastore, 1) := by decide +kernel
theorem dX6_face_40 : decode cX6_face 40 = .ok (.aload 4, 2) := by decide +kernel
theorem dX6_face_42 : decode cX6_face 42 = .ok (.iconst 2, 1) := by decide +kernel
theorem dX6_face_43 : decode cX6_face 43 = .ok (.aload_n 0, 1) := by decide +kernel
theorem dX6_face_44 : decode cX6_face 44 = .ok (.getfield 43, 3) := by decide +kernel
theorem dX6_face_47 : decode cX6_face 47 = .ok (.getfield 153, 3) := by decide +kernel
theorem dX6_face_50 : decode cX6_face 50 = .ok (.iload_n 2, 1) := by decide +kernel
theorem dX6_face_51 : decode cX6_face 51 = .ok (.iaload, 1) := by decide +kernel
theorem dX6_face_52 : decode cX6_face 52 = .ok (.iastore, 1) := by decide +kernel
theorem dX6_face_53 : decode cX6_face 53 = .ok (.aload 4, 2) := by decide +kernel
theorem dX6_face_55 : decode cX6_face 55 = .ok (.iconst 3, 1) := by decide +kernel
theorem dX6_face_56 : decode cX6_face 56 = .ok (.aload_n 0, 1) := by decide +kernel
theorem dX6_face_57 : decode cX6_face 57 = .ok (.getfield 18, 3) := by decide +kernel
theorem dX6_face_60 : decode cX6_face 60 = .ok (.iload_n 2, 1) := by decide +kernel
theorem dX6_face_61 : decode cX6_face 61 = .ok (.iaload, 1) := by decide +kernel
theorem dX6_face_62 : decode cX6_face 62 = .ok (.iastore, 1) := by decide +kernel
theorem dX6_face_63 : decode cX6_face 63 = .ok (.aload 4, 2) := by decide +kernel
theorem dX6_face_65 : decode cX6_face 65 = .ok (.iconst 4, 1) := by decide +kernel
theorem dX6_face_66 : decode cX6_face 66 = .ok (.iload 5, 2) := by decide +kernel
theorem dX6_face_68 : decode cX6_face 68 = .ok (.iastore, 1) := by decide +kernel
theorem dX6_face_69 : decode cX6_face 69 = .ok (.aload 4, 2) := by decide +kernel
theorem dX6_face_71 : decode cX6_face 71 = .ok (.iconst 5, 1) := by decide +kernel
theorem dX6_face_72 : decode cX6_face 72 = .ok (.aload_n 0, 1) := by decide +kernel
theorem dX6_face_73 : decode cX6_face 73 = .ok (.getfield 43, 3) := by decide +kernel
theorem dX6_face_76 : decode cX6_face 76 = .ok (.getfield 156, 3) := by decide +kernel
theorem dX6_face_79 : decode cX6_face 79 = .ok (.iload_n 1, 1) := by decide +kernel
theorem dX6_face_80 : decode cX6_face 80 = .ok (.iaload, 1) := by decide +kernel
theorem dX6_face_81 : decode cX6_face 81 = .ok (.iastore, 1) := by decide +kernel
theorem dX6_face_82 : decode cX6_face 82 = .ok (.aload 4, 2) := by decide +kernel
theorem dX6_face_84 : decode cX6_face 84 = .ok (.bipush 6, 2) := by decide +kernel
theorem dX6_face_86 : decode cX6_face 86 = .ok (.aload_n 0, 1) := by decide +kernel
theorem dX6_face_87 : decode cX6_face 87 = .ok (.getfield 43, 3) := by decide +kernel
theorem dX6_face_90 : decode cX6_face 90 = .ok (.getfield 159, 3) := by decide +kernel
theorem dX6_face_93 : decode cX6_face 93 = .ok (.iload_n 1, 1) := by decide +kernel
theorem dX6_face_94 : decode cX6_face 94 = .ok (.iaload, 1) := by decide +kernel
theorem dX6_face_95 : decode cX6_face 95 = .ok (.iastore, 1) := by decide +kernel
theorem dX6_face_96 : decode cX6_face 96 = .ok (.aload 4, 2) := by decide +kernel
theorem dX6_face_98 : decode cX6_face 98 = .ok (.bipush 7, 2) := by decide +kernel
theorem dX6_face_100 : decode cX6_face 100 = .ok (.iload_n 1, 1) := by decide +kernel
theorem dX6_face_101 : decode cX6_face 101 = .ok (.iastore, 1) := by decide +kernel
theorem dX6_face_102 : decode cX6_face 102 = .ok (.aload 4, 2) := by decide +kernel
theorem dX6_face_104 : decode cX6_face 104 = .ok (.bipush 8, 2) := by decide +kernel
theorem dX6_face_106 : decode cX6_face 106 = .ok (.aload_n 0, 1) := by decide +kernel
theorem dX6_face_107 : decode cX6_face 107 = .ok (.getfield 36, 3) := by decide +kernel
theorem dX6_face_110 : decode cX6_face 110 = .ok (.iload 5, 2) := by decide +kernel
theorem dX6_face_112 : decode cX6_face 112 = .ok (.iaload, 1) := by decide +kernel
theorem dX6_face_113 : decode cX6_face 113 = .ok (.iastore, 1) := by decide +kernel
theorem dX6_face_114 : decode cX6_face 114 = .ok (.aload 4, 2) := by decide +kernel
theorem dX6_face_116 : decode cX6_face 116 = .ok (.bipush 9, 2) := by decide +kernel
theorem dX6_face_118 : decode cX6_face 118 = .ok (.aload_n 0, 1) := by decide +kernel
theorem dX6_face_119 : decode cX6_face 119 = .ok (.getfield 62, 3) := by decide +kernel
theorem dX6_face_122 : decode cX6_face 122 = .ok (.iastore, 1) := by decide +kernel
theorem dX6_face_123 : decode cX6_face 123 = .ok (.aload 4, 2) := by decide +kernel
theorem dX6_face_125 : decode cX6_face 125 = .ok (.bipush 10, 2) := by decide +kernel
theorem dX6_face_127 : decode cX6_face 127 = .ok (.aload_n 0, 1) := by decide +kernel
theorem dX6_face_128 : decode cX6_face 128 = .ok (.getfield 54, 3) := by decide +kernel
theorem dX6_face_131 : decode cX6_face 131 = .ok (.iastore, 1) := by decide +kernel
theorem dX6_face_132 : decode cX6_face 132 = .ok (.aload 4, 2) := by decide +kernel
theorem dX6_face_134 : decode cX6_face 134 = .ok (.bipush 11, 2) := by decide +kernel
theorem dX6_face_136 : decode cX6_face 136 = .ok (.iload_n 3, 1) := by decide +kernel
theorem dX6_face_137 : decode cX6_face 137 = .ok (.iastore, 1) := by decide +kernel
theorem dX6_face_138 : decode cX6_face 138 = .ok (.return_, 1) := by decide +kernel
theorem dX6_serve_0 : decode cX6_serve 0 = .ok (.aload_n 0, 1) := by decide +kernel
theorem dX6_serve_1 : decode cX6_serve 1 = .ok (.iload_n 1, 1) := by decide +kernel
theorem dX6_serve_2 : decode cX6_serve 2 = .ok (.iload_n 2, 1) := by decide +kernel
theorem dX6_serve_3 : decode cX6_serve 3 = .ok (.invokevirtual 118, 3) := by decide +kernel
theorem dX6_serve_6 : decode cX6_serve 6 = .ok (.aload_n 0, 1) := by decide +kernel
theorem dX6_serve_7 : decode cX6_serve 7 = .ok (.iload_n 2, 1) := by decide +kernel
theorem dX6_serve_8 : decode cX6_serve 8 = .ok (.invokevirtual 162, 3) := by decide +kernel
theorem dX6_serve_11 : decode cX6_serve 11 = .ok (.ifCond .eq 22, 3) := by decide +kernel
theorem dX6_serve_14 : decode cX6_serve 14 = .ok (.aload_n 0, 1) := by decide +kernel
theorem dX6_serve_15 : decode cX6_serve 15 = .ok (.getfield 122, 3) := by decide +kernel
theorem dX6_serve_18 : decode cX6_serve 18 = .ok (.istore_n 3, 1) := by decide +kernel
theorem dX6_serve_19 : decode cX6_serve 19 = .ok (.aload_n 0, 1) := by decide +kernel
theorem dX6_serve_20 : decode cX6_serve 20 = .ok (.iload_n 1, 1) := by decide +kernel
theorem dX6_serve_21 : decode cX6_serve 21 = .ok (.iload_n 2, 1) := by decide +kernel
theorem dX6_serve_22 : decode cX6_serve 22 = .ok (.iload_n 3, 1) := by decide +kernel
theorem dX6_serve_23 : decode cX6_serve 23 = .ok (.invokevirtual 165, 3) := by decide +kernel
theorem dX6_serve_26 : decode cX6_serve 26 = .ok (.aload_n 0, 1) := by decide +kernel
theorem dX6_serve_27 : decode cX6_serve 27 = .ok (.iload_n 2, 1) := by decide +kernel
theorem dX6_serve_28 : decode cX6_serve 28 = .ok (.invokevirtual 168, 3) := by decide +kernel
theorem dX6_serve_31 : decode cX6_serve 31 = .ok (.iload_n 3, 1) := by decide +kernel
theorem dX6_serve_32 : decode cX6_serve 32 = .ok (.ireturn, 1) := by decide +kernel
theorem dX6_serve_33 : decode cX6_serve 33 = .ok (.aload_n 0, 1) := by decide +kernel
theorem dX6_serve_34 : decode cX6_serve 34 = .ok (.getfield 43, 3) := by decide +kernel
theorem dX6_serve_37 : decode cX6_serve 37 = .ok (.getfield 150, 3) := by decide +kernel
theorem dX6_serve_40 : decode cX6_serve 40 = .ok (.iload_n 2, 1) := by decide +kernel
theorem dX6_serve_41 : decode cX6_serve 41 = .ok (.iaload, 1) := by decide +kernel
theorem dX6_serve_42 : decode cX6_serve 42 = .ok (.iconst 1, 1) := by decide +kernel
theorem dX6_serve_43 : decode cX6_serve 43 = .ok (.if_icmp .eq 10, 3) := by decide +kernel
theorem dX6_serve_46 : decode cX6_serve 46 = .ok (.aload_n 0, 1) := by decide +kernel
theorem dX6_serve_47 : decode cX6_serve 47 = .ok (.getfield 122, 3) := by decide +kernel
theorem dX6_serve_50 : decode cX6_serve 50 = .ok (.ifCond .ne 7, 3) := by decide +kernel
theorem dX6_serve_53 : decode cX6_serve 53 = .ok (.iconst 1, 1) := by decide +kernel
theorem dX6_serve_54 : decode cX6_serve 54 = .ok (.goto 4, 3) := by decide +kernel
theorem dX6_serve_57 : decode cX6_serve 57 = .ok (.iconst 0, 1) := by decide +kernel
theorem dX6_serve_58 : decode cX6_serve 58 = .ok (.istore_n 3, 1) := by decide +kernel
theorem dX6_serve_59 : decode cX6_serve 59 = .ok (.iload_n 3, 1) := by decide +kernel
theorem dX6_serve_60 : decode cX6_serve 60 = .ok (.ifCond .eq 24, 3) := by decide +kernel
theorem dX6_serve_63 : decode cX6_serve 63 = .ok (.aload_n 0, 1) := by decide +kernel
theorem dX6_serve_64 : decode cX6_serve 64 = .ok (.getfield 18, 3) := by decide +kernel
theorem dX6_serve_67 : decode cX6_serve 67 = .ok (.iload_n 2, 1) := by decide +kernel
theorem dX6_serve_68 : decode cX6_serve 68 = .ok (.iaload, 1) := by decide +kernel
theorem dX6_serve_69 : decode cX6_serve 69 = .ok (.aload_n 0, 1) := by decide +kernel
theorem dX6_serve_70 : decode cX6_serve 70 = .ok (.getfield 125, 3) := by decide +kernel
theorem dX6_serve_73 : decode cX6_serve 73 = .ok (.if_icmp .lt 11, 3) := by decide +kernel
theorem dX6_serve_76 : decode cX6_serve 76 = .ok (.aload_n 0, 1) := by decide +kernel
theorem dX6_serve_77 : decode cX6_serve 77 = .ok (.iload_n 2, 1) := by decide +kernel
theorem dX6_serve_78 : decode cX6_serve 78 = .ok (.invokevirtual 168, 3) := by decide +kernel
theorem dX6_serve_81 : decode cX6_serve 81 = .ok (.goto 13, 3) := by decide +kernel
theorem dX6_serve_84 : decode cX6_serve 84 = .ok (.aload_n 0, 1) := by decide +kernel
theorem dX6_serve_85 : decode cX6_serve 85 = .ok (.getfield 18, 3) := by decide +kernel
theorem dX6_serve_88 : decode cX6_serve 88 = .ok (.iload_n 2, 1) := by decide +kernel
theorem dX6_serve_89 : decode cX6_serve 89 = .ok (.dup2, 1) := by decide +kernel
theorem dX6_serve_90 : decode cX6_serve 90 = .ok (.iaload, 1) := by decide +kernel
theorem dX6_serve_91 : decode cX6_serve 91 = .ok (.iconst 1, 1) := by decide +kernel
theorem dX6_serve_92 : decode cX6_serve 92 = .ok (.iadd, 1) := by decide +kernel
theorem dX6_serve_93 : decode cX6_serve 93 = .ok (.iastore, 1) := by decide +kernel
theorem dX6_serve_94 : decode cX6_serve 94 = .ok (.iconst 0, 1) := by decide +kernel
theorem dX6_serve_95 : decode cX6_serve 95 = .ok (.ireturn, 1) := by decide +kernel
theorem dX6_pays_0 : decode cX6_pays 0 = .ok (.aload_n 0, 1) := by decide +kernel
theorem dX6_pays_1 : decode cX6_pays 1 = .ok (.getfield 122, 3) := by decide +kernel
theorem dX6_pays_4 : decode cX6_pays 4 = .ok (.ifCond .eq 16, 3) := by decide +kernel
theorem dX6_pays_7 : decode cX6_pays 7 = .ok (.aload_n 0, 1) := by decide +kernel
theorem dX6_pays_8 : decode cX6_pays 8 = .ok (.getfield 122, 3) := by decide +kernel
theorem dX6_pays_11 : decode cX6_pays 11 = .ok (.aload_n 0, 1) := by decide +kernel
theorem dX6_pays_12 : decode cX6_pays 12 = .ok (.getfield 15, 3) := by decide +kernel
theorem dX6_pays_15 : decode cX6_pays 15 = .ok (.iload_n 1, 1) := by decide +kernel
theorem dX6_pays_16 : decode cX6_pays 16 = .ok (.iaload, 1) := by decide +kernel
theorem dX6_pays_17 : decode cX6_pays 17 = .ok (.if_icmp .le 5, 3) := by decide +kernel
theorem dX6_pays_20 : decode cX6_pays 20 = .ok (.iconst 0, 1) := by decide +kernel
theorem dX6_pays_21 : decode cX6_pays 21 = .ok (.ireturn, 1) := by decide +kernel
theorem dX6_pays_22 : decode cX6_pays 22 = .ok (.aload_n 0, 1) := by decide +kernel
theorem dX6_pays_23 : decode cX6_pays 23 = .ok (.getfield 125, 3) := by decide +kernel
theorem dX6_pays_26 : decode cX6_pays 26 = .ok (.aload_n 0, 1) := by decide +kernel
theorem dX6_pays_27 : decode cX6_pays 27 = .ok (.getfield 18, 3) := by decide +kernel
theorem dX6_pays_30 : decode cX6_pays 30 = .ok (.iload_n 1, 1) := by decide +kernel
theorem dX6_pays_31 : decode cX6_pays 31 = .ok (.iaload, 1) := by decide +kernel
theorem dX6_pays_32 : decode cX6_pays 32 = .ok (.isub, 1) := by decide +kernel
theorem dX6_pays_33 : decode cX6_pays 33 = .ok (.istore_n 2, 1) := by decide +kernel
theorem dX6_pays_34 : decode cX6_pays 34 = .ok (.aload_n 0, 1) := by decide +kernel
theorem dX6_pays_35 : decode cX6_pays 35 = .ok (.getfield 43, 3) := by decide +kernel
theorem dX6_pays_38 : decode cX6_pays 38 = .ok (.getfield 150, 3) := by decide +kernel
theorem dX6_pays_41 : decode cX6_pays 41 = .ok (.iload_n 1, 1) := by decide +kernel
theorem dX6_pays_42 : decode cX6_pays 42 = .ok (.iaload, 1) := by decide +kernel
theorem dX6_pays_43 : decode cX6_pays 43 = .ok (.ifCond .eq 25, 3) := by decide +kernel
theorem dX6_pays_46 : decode cX6_pays 46 = .ok (.iload_n 2, 1) := by decide +kernel
theorem dX6_pays_47 : decode cX6_pays 47 = .ok (.ifCond .le 25, 3) := by decide +kernel
theorem dX6_pays_50 : decode cX6_pays 50 = .ok (.aload_n 0, 1) := by decide +kernel
theorem dX6_pays_51 : decode cX6_pays 51 = .ok (.getfield 122, 3) := by decide +kernel
theorem dX6_pays_54 : decode cX6_pays 54 = .ok (.aload_n 0, 1) := by decide +kernel
theorem dX6_pays_55 : decode cX6_pays 55 = .ok (.getfield 43, 3) := by decide +kernel
theorem dX6_pays_58 : decode cX6_pays 58 = .ok (.getfield 153, 3) := by decide +kernel
theorem dX6_pays_61 : decode cX6_pays 61 = .ok (.iload_n 1, 1) := by decide +kernel
theorem dX6_pays_62 : decode cX6_pays 62 = .ok (.iaload, 1) := by decide +kernel
theorem dX6_pays_63 : decode cX6_pays 63 = .ok (.iload_n 2, 1) := by decide +kernel
theorem dX6_pays_64 : decode cX6_pays 64 = .ok (.imul, 1) := by decide +kernel
theorem dX6_pays_65 : decode cX6_pays 65 = .ok (.if_icmp .gt 7, 3) := by decide +kernel
theorem dX6_pays_68 : decode cX6_pays 68 = .ok (.iconst 1, 1) := by decide +kernel
theorem dX6_pays_69 : decode cX6_pays 69 = .ok (.goto 4, 3) := by decide +kernel
theorem dX6_pays_72 : decode cX6_pays 72 = .ok (.iconst 0, 1) := by decide +kernel
theorem dX6_pays_73 : decode cX6_pays 73 = .ok (.ireturn, 1) := by decide +kernel
theorem dX6_give_0 : decode cX6_give 0 = .ok (.aload_n 0, 1) := by decide +kernel
theorem dX6_give_1 : decode cX6_give 1 = .ok (.iload_n 1, 1) := by decide +kernel
theorem dX6_give_2 : decode cX6_give 2 = .ok (.iload_n 2, 1) := by decide +kernel
theorem dX6_give_3 : decode cX6_give 3 = .ok (.iload_n 3, 1) := by decide +kernel
theorem dX6_give_4 : decode cX6_give 4 = .ok (.invokevirtual 133, 3) := by decide +kernel
theorem dX6_give_7 : decode cX6_give 7 = .ok (.aload_n 0, 1) := by decide +kernel
theorem dX6_give_8 : decode cX6_give 8 = .ok (.getfield 47, 3) := by decide +kernel
theorem dX6_give_11 : decode cX6_give 11 = .ok (.aload_n 0, 1) := by decide +kernel
theorem dX6_give_12 : decode cX6_give 12 = .ok (.getfield 43, 3) := by decide +kernel
theorem dX6_give_15 : decode cX6_give 15 = .ok (.getfield 171, 3) := by decide +kernel
theorem dX6_give_18 : decode cX6_give 18 = .ok (.bipush 103, 2) := by decide +kernel
theorem dX6_give_20 : decode cX6_give 20 = .ok (.sipush 10000, 3) := by decide +kernel
theorem dX6_give_23 : decode cX6_give 23 = .ok (.invokevirtual 141, 3) := by decide +kernel
theorem dX6_give_26 : decode cX6_give 26 = .ok (.istore 4, 2) := by decide +kernel
theorem dX6_give_28 : decode cX6_give 28 = .ok (.aload_n 0, 1) := by decide +kernel
theorem dX6_give_29 : decode cX6_give 29 = .ok (.getfield 47, 3) := by decide +kernel
theorem dX6_give_32 : decode cX6_give 32 = .ok (.aload_n 0, 1) := by decide +kernel
theorem dX6_give_33 : decode cX6_give 33 = .ok (.getfield 43, 3) := by decide +kernel
theorem dX6_give_36 : decode cX6_give 36 = .ok (.getfield 171, 3) := by decide +kernel
theorem dX6_give_39 : decode cX6_give 39 = .ok (.bipush 107, 2) := by decide +kernel
theorem dX6_give_41 : decode cX6_give 41 = .ok (.sipush 10000, 3) := by decide +kernel
theorem dX6_give_44 : decode cX6_give 44 = .ok (.invokevirtual 141, 3) := by decide +kernel
theorem dX6_give_47 : decode cX6_give 47 = .ok (.istore 5, 2) := by decide +kernel
theorem dX6_give_49 : decode cX6_give 49 = .ok (.aload_n 0, 1) := by decide +kernel
theorem dX6_give_50 : decode cX6_give 50 = .ok (.getfield 47, 3) := by decide +kernel
theorem dX6_give_53 : decode cX6_give 53 = .ok (.aload_n 0, 1) := by decide +kernel
theorem dX6_give_54 : decode cX6_give 54 = .ok (.getfield 43, 3) := by decide +kernel
theorem dX6_give_57 : decode cX6_give 57 = .ok (.getfield 171, 3) := by decide +kernel
theorem dX6_give_60 : decode cX6_give 60 = .ok (.bipush 98, 2) := by decide +kernel
theorem dX6_give_62 : decode cX6_give 62 = .ok (.sipush 10000, 3) := by decide +kernel
theorem dX6_give_65 : decode cX6_give 65 = .ok (.invokevirtual 141, 3) := by decide +kernel
theorem dX6_give_68 : decode cX6_give 68 = .ok (.istore 6, 2) := by decide +kernel
theorem dX6_give_70 : decode cX6_give 70 = .ok (.aload_n 0, 1) := by decide +kernel
theorem dX6_give_71 : decode cX6_give 71 = .ok (.getfield 15, 3) := by decide +kernel
theorem dX6_give_74 : decode cX6_give 74 = .ok (.iload_n 2, 1) := by decide +kernel
theorem dX6_give_75 : decode cX6_give 75 = .ok (.dup2, 1) := by decide +kernel
theorem dX6_give_76 : decode cX6_give 76 = .ok (.iaload, 1) := by decide +kernel
theorem dX6_give_77 : decode cX6_give 77 = .ok (.iload_n 3, 1) := by decide +kernel
theorem dX6_give_78 : decode cX6_give 78 = .ok (.isub, 1) := by decide +kernel
theorem dX6_give_79 : decode cX6_give 79 = .ok (.iastore, 1) := by decide +kernel
theorem dX6_give_80 : decode cX6_give 80 = .ok (.aload_n 0, 1) := by decide +kernel
theorem dX6_give_81 : decode cX6_give 81 = .ok (.getfield 21, 3) := by decide +kernel
theorem dX6_give_84 : decode cX6_give 84 = .ok (.iload_n 2, 1) := by decide +kernel
theorem dX6_give_85 : decode cX6_give 85 = .ok (.dup2, 1) := by decide +kernel
theorem dX6_give_86 : decode cX6_give 86 = .ok (.iaload, 1) := by decide +kernel
theorem dX6_give_87 : decode cX6_give 87 = .ok (.iload_n 3, 1) := by decide +kernel
theorem dX6_give_88 : decode cX6_give 88 = .ok (.iadd, 1) := by decide +kernel
theorem dX6_give_89 : decode cX6_give 89 = .ok (.iastore, 1) := by decide +kernel
theorem dX6_give_90 : decode cX6_give 90 = .ok (.aload_n 0, 1) := by decide +kernel
theorem dX6_give_91 : decode cX6_give 91 = .ok (.getfield 30, 3) := by decide +kernel
theorem dX6_give_94 : decode cX6_give 94 = .ok (.iload_n 1, 1) := by decide +kernel
theorem dX6_give_95 : decode cX6_give 95 = .ok (.dup2, 1) := by decide +kernel
theorem dX6_give_96 : decode cX6_give 96 = .ok (.iaload, 1) := by decide +kernel
theorem dX6_give_97 : decode cX6_give 97 = .ok (.iload_n 3, 1) := by decide +kernel
theorem dX6_give_98 : decode cX6_give 98 = .ok (.iadd, 1) := by decide +kernel
theorem dX6_give_99 : decode cX6_give 99 = .ok (.iastore, 1) := by decide +kernel
theorem dX6_give_100 : decode cX6_give 100 = .ok (.aload_n 0, 1) := by decide +kernel
theorem dX6_give_101 : decode cX6_give 101 = .ok (.getfield 33, 3) := by decide +kernel
theorem dX6_give_104 : decode cX6_give 104 = .ok (.iload_n 1, 1) := by decide +kernel
theorem dX6_give_105 : decode cX6_give 105 = .ok (.dup2, 1) := by decide +kernel
theorem dX6_give_106 : decode cX6_give 106 = .ok (.iaload, 1) := by decide +kernel
theorem dX6_give_107 : decode cX6_give 107 = .ok (.iconst 1, 1) := by decide +kernel
theorem dX6_give_108 : decode cX6_give 108 = .ok (.iadd, 1) := by decide +kernel
theorem dX6_give_109 : decode cX6_give 109 = .ok (.iastore, 1) := by decide +kernel
theorem dX6_give_110 : decode cX6_give 110 = .ok (.aload_n 0, 1) := by decide +kernel
theorem dX6_give_111 : decode cX6_give 111 = .ok (.dup, 1) := by decide +kernel
theorem dX6_give_112 : decode cX6_give 112 = .ok (.getfield 85, 3) := by decide +kernel
theorem dX6_give_115 : decode cX6_give 115 = .ok (.iconst 1, 1) := by decide +kernel
theorem dX6_give_116 : decode cX6_give 116 = .ok (.iload_n 1, 1) := by decide +kernel
theorem dX6_give_117 : decode cX6_give 117 = .ok (.ishl, 1) := by decide +kernel
theorem dX6_give_118 : decode cX6_give 118 = .ok (.ior, 1) := by decide +kernel
theorem dX6_give_119 : decode cX6_give 119 = .ok (.putfield 85, 3) := by decide +kernel
theorem dX6_give_122 : decode cX6_give 122 = .ok (.iload 6, 2) := by decide +kernel
theorem dX6_give_124 : decode cX6_give 124 = .ok (.iload 4, 2) := by decide +kernel
theorem dX6_give_126 : decode cX6_give 126 = .ok (.if_icmp .le 41, 3) := by decide +kernel
theorem dX6_give_129 : decode cX6_give 129 = .ok (.aload_n 0, 1) := by decide +kernel
theorem dX6_give_130 : decode cX6_give 130 = .ok (.getfield 24, 3) := by decide +kernel
theorem dX6_give_133 : decode cX6_give 133 = .ok (.iload_n 2, 1) := by decide +kernel
theorem dX6_give_134 : decode cX6_give 134 = .ok (.dup2, 1) := by decide +kernel
theorem dX6_give_135 : decode cX6_give 135 = .ok (.iaload, 1) := by decide +kernel
theorem dX6_give_136 : decode cX6_give 136 = .ok (.iconst 1, 1) := by decide +kernel
theorem dX6_give_137 : decode cX6_give 137 = .ok (.iadd, 1) := by decide +kernel
theorem dX6_give_138 : decode cX6_give 138 = .ok (.iastore, 1) := by decide +kernel
theorem dX6_give_139 : decode cX6_give 139 = .ok (.aload_n 0, 1) := by decide +kernel
theorem dX6_give_140 : decode cX6_give 140 = .ok (.getfield 15, 3) := by decide +kernel
theorem dX6_give_143 : decode cX6_give 143 = .ok (.iload_n 2, 1) := by decide +kernel
theorem dX6_give_144 : decode cX6_give 144 = .ok (.dup2, 1) := by decide +kernel
theorem dX6_give_145 : decode cX6_give 145 = .ok (.iaload, 1) := by decide +kernel
theorem dX6_give_146 : decode cX6_give 146 = .ok (.iload 6, 2) := by decide +kernel
theorem dX6_give_148 : decode cX6_give 148 = .ok (.iload 4, 2) := by decide +kernel
theorem dX6_give_150 : decode cX6_give 150 = .ok (.isub, 1) := by decide +kernel
theorem dX6_give_151 : decode cX6_give 151 = .ok (.iadd, 1) := by decide +kernel
theorem dX6_give_152 : decode cX6_give 152 = .ok (.iastore, 1) := by decide +kernel
theorem dX6_give_153 : decode cX6_give 153 = .ok (.aload_n 0, 1) := by decide +kernel
theorem dX6_give_154 : decode cX6_give 154 = .ok (.getfield 30, 3) := by decide +kernel
theorem dX6_give_157 : decode cX6_give 157 = .ok (.iload_n 1, 1) := by decide +kernel
theorem dX6_give_158 : decode cX6_give 158 = .ok (.dup2, 1) := by decide +kernel
theorem dX6_give_159 : decode cX6_give 159 = .ok (.iaload, 1) := by decide +kernel
theorem dX6_give_160 : decode cX6_give 160 = .ok (.iload 6, 2) := by decide +kernel
theorem dX6_give_162 : decode cX6_give 162 = .ok (.iload 5, 2) := by decide +kernel
theorem dX6_give_164 : decode cX6_give 164 = .ok (.iadd, 1) := by decide +kernel
theorem dX6_give_165 : decode cX6_give 165 = .ok (.isub, 1) := by decide +kernel
theorem dX6_give_166 : decode cX6_give 166 = .ok (.iastore, 1) := by decide +kernel
theorem dX6_give_167 : decode cX6_give 167 = .ok (.return_, 1) := by decide +kernel
theorem dX6_goOn_0 : decode cX6_goOn 0 = .ok (.aload_n 0, 1) := by decide +kernel
theorem dX6_goOn_1 : decode cX6_goOn 1 = .ok (.getfield 36, 3) := by decide +kernel
theorem dX6_goOn_4 : decode cX6_goOn 4 = .ok (.aload_n 0, 1) := by decide +kernel
theorem dX6_goOn_5 : decode cX6_goOn 5 = .ok (.getfield 9, 3) := by decide +kernel
theorem dX6_goOn_8 : decode cX6_goOn 8 = .ok (.iload_n 1, 1) := by decide +kernel
theorem dX6_goOn_9 : decode cX6_goOn 9 = .ok (.iaload, 1) := by decide +kernel
theorem dX6_goOn_10 : decode cX6_goOn 10 = .ok (.dup2, 1) := by decide +kernel
theorem dX6_goOn_11 : decode cX6_goOn 11 = .ok (.iaload, 1) := by decide +kernel
theorem dX6_goOn_12 : decode cX6_goOn 12 = .ok (.iconst 1, 1) := by decide +kernel
theorem dX6_goOn_13 : decode cX6_goOn 13 = .ok (.isub, 1) := by decide +kernel
theorem dX6_goOn_14 : decode cX6_goOn 14 = .ok (.iastore, 1) := by decide +kernel
theorem dX6_goOn_15 : decode cX6_goOn 15 = .ok (.aload_n 0, 1) := by decide +kernel
theorem dX6_goOn_16 : decode cX6_goOn 16 = .ok (.getfield 9, 3) := by decide +kernel
theorem dX6_goOn_19 : decode cX6_goOn 19 = .ok (.iload_n 1, 1) := by decide +kernel
theorem dX6_goOn_20 : decode cX6_goOn 20 = .ok (.dup2, 1) := by decide +kernel
theorem dX6_goOn_21 : decode cX6_goOn 21 = .ok (.iaload, 1) := by decide +kernel
theorem dX6_goOn_22 : decode cX6_goOn 22 = .ok (.iconst 1, 1) := by decide +kernel
theorem dX6_goOn_23 : decode cX6_goOn 23 = .ok (.iadd, 1) := by decide +kernel
theorem dX6_goOn_24 : decode cX6_goOn 24 = .ok (.iastore, 1) := by decide +kernel
theorem dX6_goOn_25 : decode cX6_goOn 25 = .ok (.aload_n 0, 1) := by decide +kernel
theorem dX6_goOn_26 : decode cX6_goOn 26 = .ok (.getfield 36, 3) := by decide +kernel
theorem dX6_goOn_29 : decode cX6_goOn 29 = .ok (.aload_n 0, 1) := by decide +kernel
theorem dX6_goOn_30 : decode cX6_goOn 30 = .ok (.getfield 9, 3) := by decide +kernel
theorem dX6_goOn_33 : decode cX6_goOn 33 = .ok (.iload_n 1, 1) := by decide +kernel
theorem dX6_goOn_34 : decode cX6_goOn 34 = .ok (.iaload, 1) := by decide +kernel
theorem dX6_goOn_35 : decode cX6_goOn 35 = .ok (.dup2, 1) := by decide +kernel
theorem dX6_goOn_36 : decode cX6_goOn 36 = .ok (.iaload, 1) := by decide +kernel
theorem dX6_goOn_37 : decode cX6_goOn 37 = .ok (.iconst 1, 1) := by decide +kernel
theorem dX6_goOn_38 : decode cX6_goOn 38 = .ok (.iadd, 1) := by decide +kernel
theorem dX6_goOn_39 : decode cX6_goOn 39 = .ok (.iastore, 1) := by decide +kernel
theorem dX6_goOn_40 : decode cX6_goOn 40 = .ok (.aload_n 0, 1) := by decide +kernel
theorem dX6_goOn_41 : decode cX6_goOn 41 = .ok (.getfield 18, 3) := by decide +kernel
theorem dX6_goOn_44 : decode cX6_goOn 44 = .ok (.iload_n 1, 1) := by decide +kernel
theorem dX6_goOn_45 : decode cX6_goOn 45 = .ok (.iconst 0, 1) := by decide +kernel
theorem dX6_goOn_46 : decode cX6_goOn 46 = .ok (.iastore, 1) := by decide +kernel
theorem dX6_goOn_47 : decode cX6_goOn 47 = .ok (.aload_n 0, 1) := by decide +kernel
theorem dX6_goOn_48 : decode cX6_goOn 48 = .ok (.getfield 9, 3) := by decide +kernel
theorem dX6_goOn_51 : decode cX6_goOn 51 = .ok (.iload_n 1, 1) := by decide +kernel
theorem dX6_goOn_52 : decode cX6_goOn 52 = .ok (.iaload, 1) := by decide +kernel
theorem dX6_goOn_53 : decode cX6_goOn 53 = .ok (.aload_n 0, 1) := by decide +kernel
theorem dX6_goOn_54 : decode cX6_goOn 54 = .ok (.getfield 43, 3) := by decide +kernel
theorem dX6_goOn_57 : decode cX6_goOn 57 = .ok (.getfield 82, 3) := by decide +kernel
theorem dX6_goOn_60 : decode cX6_goOn 60 = .ok (.if_icmp .lt 13, 3) := by decide +kernel
theorem dX6_goOn_63 : decode cX6_goOn 63 = .ok (.aload_n 0, 1) := by decide +kernel
theorem dX6_goOn_64 : decode cX6_goOn 64 = .ok (.getfield 27, 3) := by decide +kernel
theorem dX6_goOn_67 : decode cX6_goOn 67 = .ok (.iload_n 1, 1) := by decide +kernel
theorem dX6_goOn_68 : decode cX6_goOn 68 = .ok (.aload_n 0, 1) := by decide +kernel
theorem dX6_goOn_69 : decode cX6_goOn 69 = .ok (.getfield 54, 3) := by decide +kernel
theorem dX6_goOn_72 : decode cX6_goOn 72 = .ok (.iastore, 1) := by decide +kernel
theorem dX6_goOn_73 : decode cX6_goOn 73 = .ok (.return_, 1) := by decide +kernel
theorem dX6_bestWait_0 : decode cX6_bestWait 0 = .ok (.iconst 0, 1) := by decide +kernel
theorem dX6_bestWait_1 : decode cX6_bestWait 1 = .ok (.istore_n 2, 1) := by decide +kernel
theorem dX6_bestWait_2 : decode cX6_bestWait 2 = .ok (.iconst 0, 1) := by decide +kernel
theorem dX6_bestWait_3 : decode cX6_bestWait 3 = .ok (.istore_n 3, 1) := by decide +kernel
theorem dX6_bestWait_4 : decode cX6_bestWait 4 = .ok (.iconst 1, 1) := by decide +kernel
theorem dX6_bestWait_5 : decode cX6_bestWait 5 = .ok (.istore 4, 2) := by decide +kernel
theorem dX6_bestWait_7 : decode cX6_bestWait 7 = .ok (.iload 4, 2) := by decide +kernel
theorem dX6_bestWait_9 : decode cX6_bestWait 9 = .ok (.bipush 24, 2) := by decide +kernel
theorem dX6_bestWait_11 : decode cX6_bestWait 11 = .ok (.if_icmp .gt 30, 3) := by decide +kernel
theorem dX6_bestWait_14 : decode cX6_bestWait 14 = .ok (.aload_n 0, 1) := by decide +kernel
theorem dX6_bestWait_15 : decode cX6_bestWait 15 = .ok (.iload_n 1, 1) := by decide +kernel
theorem dX6_bestWait_16 : decode cX6_bestWait 16 = .ok (.iload 4, 2) := by decide +kernel
theorem dX6_bestWait_18 : decode cX6_bestWait 18 = .ok (.invokevirtual 175, 3) := by decide +kernel
theorem dX6_bestWait_21 : decode cX6_bestWait 21 = .ok (.istore 5, 2) := by decide +kernel
theorem dX6_bestWait_23 : decode cX6_bestWait 23 = .ok (.iload 5, 2) := by decide +kernel
theorem dX6_bestWait_25 : decode cX6_bestWait 25 = .ok (.iload_n 3, 1) := by decide +kernel
theorem dX6_bestWait_26 : decode cX6_bestWait 26 = .ok (.if_icmp .le 9, 3) := by decide +kernel
theorem dX6_bestWait_29 : decode cX6_bestWait 29 = .ok (.iload 4, 2) := by decide +kernel
theorem dX6_bestWait_31 : decode cX6_bestWait 31 = .ok (.istore_n 2, 1) := by decide +kernel
theorem dX6_bestWait_32 : decode cX6_bestWait 32 = .ok (.iload 5, 2) := by decide +kernel
theorem dX6_bestWait_34 : decode cX6_bestWait 34 = .ok (.istore_n 3, 1) := by decide +kernel
theorem dX6_bestWait_35 : decode cX6_bestWait 35 = .ok (.iinc 4 1, 3) := by decide +kernel
theorem dX6_bestWait_38 : decode cX6_bestWait 38 = .ok (.goto (-31), 3) := by decide +kernel
theorem dX6_bestWait_41 : decode cX6_bestWait 41 = .ok (.iload_n 2, 1) := by decide +kernel
theorem dX6_bestWait_42 : decode cX6_bestWait 42 = .ok (.ireturn, 1) := by decide +kernel
theorem dX6_waitBrings_0 : decode cX6_waitBrings 0 = .ok (.iconst 0, 1) := by decide +kernel
theorem dX6_waitBrings_1 : decode cX6_waitBrings 1 = .ok (.istore_n 3, 1) := by decide +kernel
theorem dX6_waitBrings_2 : decode cX6_waitBrings 2 = .ok (.iconst 0, 1) := by decide +kernel
theorem dX6_waitBrings_3 : decode cX6_waitBrings 3 = .ok (.istore 4, 2) := by decide +kernel
theorem dX6_waitBrings_5 : decode cX6_waitBrings 5 = .ok (.iload 4, 2) := by decide +kernel
theorem dX6_waitBrings_7 : decode cX6_waitBrings 7 = .ok (.aload_n 0, 1) := by decide +kernel
theorem dX6_waitBrings_8 : decode cX6_waitBrings 8 = .ok (.getfield 51, 3) := by decide +kernel
theorem dX6_waitBrings_11 : decode cX6_waitBrings 11 = .ok (.if_icmp .ge 65, 3) := by decide +kernel
theorem dX6_waitBrings_14 : decode cX6_waitBrings 14 = .ok (.aload_n 0, 1) := by decide +kernel
theorem dX6_waitBrings_15 : decode cX6_waitBrings 15 = .ok (.getfield 43, 3) := by decide +kernel
theorem dX6_waitBrings_18 : decode cX6_waitBrings 18 = .ok (.getfield 153, 3) := by decide +kernel
theorem dX6_waitBrings_21 : decode cX6_waitBrings 21 = .ok (.iload 4, 2) := by decide +kernel
theorem dX6_waitBrings_23 : decode cX6_waitBrings 23 = .ok (.iaload, 1) := by decide +kernel
theorem dX6_waitBrings_24 : decode cX6_waitBrings 24 = .ok (.iload_n 2, 1) := by decide +kernel
theorem dX6_waitBrings_25 : decode cX6_waitBrings 25 = .ok (.imul, 1) := by decide +kernel
theorem dX6_waitBrings_26 : decode cX6_waitBrings 26 = .ok (.istore 5, 2) := by decide +kernel
theorem dX6_waitBrings_28 : decode cX6_waitBrings 28 = .ok (.aload_n 0, 1) := by decide +kernel
theorem dX6_waitBrings_29 : decode cX6_waitBrings 29 = .ok (.getfield 9, 3) := by decide +kernel
theorem dX6_waitBrings_32 : decode cX6_waitBrings 32 = .ok (.iload 4, 2) := by decide +kernel
theorem dX6_waitBrings_34 : decode cX6_waitBrings 34 = .ok (.iaload, 1) := by decide +kernel
theorem dX6_waitBrings_35 : decode cX6_waitBrings 35 = .ok (.iload_n 1, 1) := by decide +kernel
theorem dX6_waitBrings_36 : decode cX6_waitBrings 36 = .ok (.if_icmp .ne 34, 3) := by decide +kernel
theorem dX6_waitBrings_39 : decode cX6_waitBrings 39 = .ok (.aload_n 0, 1) := by decide +kernel
theorem dX6_waitBrings_40 : decode cX6_waitBrings 40 = .ok (.getfield 43, 3) := by decide +kernel
theorem dX6_waitBrings_43 : decode cX6_waitBrings 43 = .ok (.getfield 150, 3) := by decide +kernel
theorem dX6_waitBrings_46 : decode cX6_waitBrings 46 = .ok (.iload 4, 2) := by decide +kernel
theorem dX6_waitBrings_48 : decode cX6_waitBrings 48 = .ok (.iaload, 1) := by decide +kernel
theorem dX6_waitBrings_49 : decode cX6_waitBrings 49 = .ok (.iconst 1, 1) := by decide +kernel
theorem dX6_waitBrings_50 : decode cX6_waitBrings 50 = .ok (.if_icmp .ne 20, 3) := by decide +kernel
theorem dX6_waitBrings_53 : decode cX6_waitBrings 53 = .ok (.aload_n 0, 1) := by decide +kernel
theorem dX6_waitBrings_54 : decode cX6_waitBrings 54 = .ok (.getfield 15, 3) := by decide +kernel
theorem dX6_waitBrings_57 : decode cX6_waitBrings 57 = .ok (.iload 4, 2) := by decide +kernel
theorem dX6_waitBrings_59 : decode cX6_waitBrings 59 = .ok (.iaload, 1) := by decide +kernel
theorem dX6_waitBrings_60 : decode cX6_waitBrings 60 = .ok (.iload 5, 2) := by decide +kernel
theorem dX6_waitBrings_62 : decode cX6_waitBrings 62 = .ok (.if_icmp .lt 8, 3) := by decide +kernel
theorem dX6_waitBrings_65 : decode cX6_waitBrings 65 = .ok (.iload_n 3, 1) := by decide +kernel
theorem dX6_waitBrings_66 : decode cX6_waitBrings 66 = .ok (.iload 5, 2) := by decide +kernel
theorem dX6_waitBrings_68 : decode cX6_waitBrings 68 = .ok (.iadd, 1) := by decide +kernel
theorem dX6_waitBrings_69 : decode cX6_waitBrings 69 = .ok (.istore_n 3, 1) := by decide +kernel
theorem dX6_waitBrings_70 : decode cX6_waitBrings 70 = .ok (.iinc 4 1, 3) := by decide +kernel
theorem dX6_waitBrings_73 : decode cX6_waitBrings 73 = .ok (.goto (-68), 3) := by decide +kernel
theorem dX6_waitBrings_76 : decode cX6_waitBrings 76 = .ok (.iload_n 3, 1) := by decide +kernel
theorem dX6_waitBrings_77 : decode cX6_waitBrings 77 = .ok (.ireturn, 1) := by decide +kernel
theorem dX6_worstOff_0 : decode cX6_worstOff 0 = .ok (.iconst (-1), 1) := by decide +kernel
theorem dX6_worstOff_1 : decode cX6_worstOff 1 = .ok (.istore_n 1, 1) := by decide +kernel
theorem dX6_worstOff_2 : decode cX6_worstOff 2 = .ok (.iconst 0, 1) := by decide +kernel
theorem dX6_worstOff_3 : decode cX6_worstOff 3 = .ok (.istore_n 2, 1) := by decide +kernel
theorem dX6_worstOff_4 : decode cX6_worstOff 4 = .ok (.iload_n 2, 1) := by decide +kernel
theorem dX6_worstOff_5 : decode cX6_worstOff 5 = .ok (.aload_n 0, 1) := by decide +kernel
theorem dX6_worstOff_6 : decode cX6_worstOff 6 = .ok (.getfield 51, 3) := by decide +kernel
theorem dX6_worstOff_9 : decode cX6_worstOff 9 = .ok (.if_icmp .ge 46, 3) := by decide +kernel
theorem dX6_worstOff_12 : decode cX6_worstOff 12 = .ok (.aload_n 0, 1) := by decide +kernel
theorem dX6_worstOff_13 : decode cX6_worstOff 13 = .ok (.getfield 21, 3) := by decide +kernel
theorem dX6_worstOff_16 : decode cX6_worstOff 16 = .ok (.iload_n 2, 1) := by decide +kernel
theorem dX6_worstOff_17 : decode cX6_worstOff 17 = .ok (.iaload, 1) := by decide +kernel
theorem dX6_worstOff_18 : decode cX6_worstOff 18 = .ok (.ifCond .le 31, 3) := by decide +kernel
theorem dX6_worstOff_21 : decode cX6_worstOff 21 = .ok (.aload_n 0, 1) := by decide +kernel
theorem dX6_worstOff_22 : decode cX6_worstOff 22 = .ok (.getfield 43, 3) := by decide +kernel
theorem dX6_worstOff_25 : decode cX6_worstOff 25 = .ok (.getfield 71, 3) := by decide +kernel
theorem dX6_worstOff_28 : decode cX6_worstOff 28 = .ok (.iload_n 2, 1) := by decide +kernel
theorem dX6_worstOff_29 : decode cX6_worstOff 29 = .ok (.iaload, 1) := by decide +kernel
theorem dX6_worstOff_30 : decode cX6_worstOff 30 = .ok (.ifCond .le 19, 3) := by decide +kernel
theorem dX6_worstOff_33 : decode cX6_worstOff 33 = .ok (.iload_n 1, 1) := by decide +kernel
theorem dX6_worstOff_34 : decode cX6_worstOff 34 = .ok (.iconst (-1), 1) := by decide +kernel
theorem dX6_worstOff_35 : decode cX6_worstOff 35 = .ok (.if_icmp .eq 12, 3) := by decide +kernel
theorem dX6_worstOff_38 : decode cX6_worstOff 38 = .ok (.aload_n 0, 1) := by decide +kernel
theorem dX6_worstOff_39 : decode cX6_worstOff 39 = .ok (.iload_n 2, 1) := by decide +kernel
theorem dX6_worstOff_40 : decode cX6_worstOff 40 = .ok (.iload_n 1, 1) := by decide +kernel
theorem dX6_worstOff_41 : decode cX6_worstOff 41 = .ok (.invokevirtual 178, 3) := by decide +kernel
theorem dX6_worstOff_44 : decode cX6_worstOff 44 = .ok (.ifCond .eq 5, 3) := by decide +kernel
theorem dX6_worstOff_47 : decode cX6_worstOff 47 = .ok (.iload_n 2, 1) := by decide +kernel
theorem dX6_worstOff_48 : decode cX6_worstOff 48 = .ok (.istore_n 1, 1) := by decide +kernel
theorem dX6_worstOff_49 : decode cX6_worstOff 49 = .ok (.iinc 2 1, 3) := by decide +kernel
theorem dX6_worstOff_52 : decode cX6_worstOff 52 = .ok (.goto (-48), 3) := by decide +kernel
theorem dX6_worstOff_55 : decode cX6_worstOff 55 = .ok (.iload_n 1, 1) := by decide +kernel
theorem dX6_worstOff_56 : decode cX6_worstOff 56 = .ok (.ireturn, 1) := by decide +kernel
theorem dX6_isWorse_0 : decode cX6_isWorse 0 = .ok (.aload_n 0, 1) := by decide +kernel
theorem dX6_isWorse_1 : decode cX6_isWorse 1 = .ok (.getfield 21, 3) := by decide +kernel
theorem dX6_isWorse_4 : decode cX6_isWorse 4 = .ok (.iload_n 1, 1) := by decide +kernel
theorem dX6_isWorse_5 : decode cX6_isWorse 5 = .ok (.iaload, 1) := by decide +kernel
theorem dX6_isWorse_6 : decode cX6_isWorse 6 = .ok (.i2l, 1) := by decide +kernel
theorem dX6_isWorse_7 : decode cX6_isWorse 7 = .ok (.aload_n 0, 1) := by decide +kernel
theorem dX6_isWorse_8 : decode cX6_isWorse 8 = .ok (.getfield 43, 3) := by decide +kernel
theorem dX6_isWorse_11 : decode cX6_isWorse 11 = .ok (.getfield 71, 3) := by decide +kernel
theorem dX6_isWorse_14 : decode cX6_isWorse 14 = .ok (.iload_n 2, 1) := by decide +kernel
theorem dX6_isWorse_15 : decode cX6_isWorse 15 = .ok (.iaload, 1) := by decide +kernel
theorem dX6_isWorse_16 : decode cX6_isWorse 16 = .ok (.i2l, 1) := by decide +kernel
theorem dX6_isWorse_17 : decode cX6_isWorse 17 = .ok (.lmul, 1) := by decide +kernel
theorem dX6_isWorse_18 : decode cX6_isWorse 18 = .ok (.aload_n 0, 1) := by decide +kernel
theorem dX6_isWorse_19 : decode cX6_isWorse 19 = .ok (.getfield 21, 3) := by decide +kernel
theorem dX6_isWorse_22 : decode cX6_isWorse 22 = .ok (.iload_n 2, 1) := by decide +kernel
theorem dX6_isWorse_23 : decode cX6_isWorse 23 = .ok (.iaload, 1) := by decide +kernel
theorem dX6_isWorse_24 : decode cX6_isWorse 24 = .ok (.i2l, 1) := by decide +kernel
theorem dX6_isWorse_25 : decode cX6_isWorse 25 = .ok (.aload_n 0, 1) := by decide +kernel
theorem dX6_isWorse_26 : decode cX6_isWorse 26 = .ok (.getfield 43, 3) := by decide +kernel
theorem dX6_isWorse_29 : decode cX6_isWorse 29 = .ok (.getfield 71, 3) := by decide +kernel
theorem dX6_isWorse_32 : decode cX6_isWorse 32 = .ok (.iload_n 1, 1) := by decide +kernel
theorem dX6_isWorse_33 : decode cX6_isWorse 33 = .ok (.iaload, 1) := by decide +kernel
theorem dX6_isWorse_34 : decode cX6_isWorse 34 = .ok (.i2l, 1) := by decide +kernel
theorem dX6_isWorse_35 : decode cX6_isWorse 35 = .ok (.lmul, 1) := by decide +kernel
theorem dX6_isWorse_36 : decode cX6_isWorse 36 = .ok (.lcmp, 1) := by decide +kernel
theorem dX6_isWorse_37 : decode cX6_isWorse 37 = .ok (.ifCond .le 7, 3) := by decide +kernel
theorem dX6_isWorse_40 : decode cX6_isWorse 40 = .ok (.iconst 1, 1) := by decide +kernel
theorem dX6_isWorse_41 : decode cX6_isWorse 41 = .ok (.goto 4, 3) := by decide +kernel
theorem dX6_isWorse_44 : decode cX6_isWorse 44 = .ok (.iconst 0, 1) := by decide +kernel
theorem dX6_isWorse_45 : decode cX6_isWorse 45 = .ok (.ireturn, 1) := by decide +kernel
theorem dX6_howManyDone_0 : decode cX6_howManyDone 0 = .ok (.iconst 0, 1) := by decide +kernel
theorem dX6_howManyDone_1 : decode cX6_howManyDone 1 = .ok (.istore_n 1, 1) := by decide +kernel
theorem dX6_howManyDone_2 : decode cX6_howManyDone 2 = .ok (.iconst 0, 1) := by decide +kernel
theorem dX6_howManyDone_3 : decode cX6_howManyDone 3 = .ok (.istore_n 2, 1) := by decide +kernel
theorem dX6_howManyDone_4 : decode cX6_howManyDone 4 = .ok (.iload_n 2, 1) := by decide +kernel
theorem dX6_howManyDone_5 : decode cX6_howManyDone 5 = .ok (.aload_n 0, 1) := by decide +kernel
theorem dX6_howManyDone_6 : decode cX6_howManyDone 6 = .ok (.getfield 51, 3) := by decide +kernel
theorem dX6_howManyDone_9 : decode cX6_howManyDone 9 = .ok (.if_icmp .ge 20, 3) := by decide +kernel
theorem dX6_howManyDone_12 : decode cX6_howManyDone 12 = .ok (.aload_n 0, 1) := by decide +kernel
theorem dX6_howManyDone_13 : decode cX6_howManyDone 13 = .ok (.iload_n 2, 1) := by decide +kernel
theorem dX6_howManyDone_14 : decode cX6_howManyDone 14 = .ok (.invokevirtual 88, 3) := by decide +kernel
theorem dX6_howManyDone_17 : decode cX6_howManyDone 17 = .ok (.ifCond .ne 6, 3) := by decide +kernel
theorem dX6_howManyDone_20 : decode cX6_howManyDone 20 = .ok (.iinc 1 1, 3) := by decide +kernel
theorem dX6_howManyDone_23 : decode cX6_howManyDone 23 = .ok (.iinc 2 1, 3) := by decide +kernel
theorem dX6_howManyDone_26 : decode cX6_howManyDone 26 = .ok (.goto (-22), 3) := by decide +kernel
theorem dX6_howManyDone_29 : decode cX6_howManyDone 29 = .ok (.iload_n 1, 1) := by decide +kernel
theorem dX6_howManyDone_30 : decode cX6_howManyDone 30 = .ok (.ireturn, 1) := by decide +kernel
theorem dX6_standsLike_0 : decode cX6_standsLike 0 = .ok (.iconst 0, 1) := by decide +kernel
theorem dX6_standsLike_1 : decode cX6_standsLike 1 = .ok (.istore_n 2, 1) := by decide +kernel
theorem dX6_standsLike_2 : decode cX6_standsLike 2 = .ok (.iload_n 2, 1) := by decide +kernel
theorem dX6_standsLike_3 : decode cX6_standsLike 3 = .ok (.aload_n 0, 1) := by decide +kernel
theorem dX6_standsLike_4 : decode cX6_standsLike 4 = .ok (.getfield 51, 3) := by decide +kernel
theorem dX6_standsLike_7 : decode cX6_standsLike 7 = .ok (.if_icmp .ge 26, 3) := by decide +kernel
theorem dX6_standsLike_10 : decode cX6_standsLike 10 = .ok (.aload_n 0, 1) := by decide +kernel
theorem dX6_standsLike_11 : decode cX6_standsLike 11 = .ok (.getfield 9, 3) := by decide +kernel
theorem dX6_standsLike_14 : decode cX6_standsLike 14 = .ok (.iload_n 2, 1) := by decide +kernel
theorem dX6_standsLike_15 : decode cX6_standsLike 15 = .ok (.iaload, 1) := by decide +kernel
theorem dX6_standsLike_16 : decode cX6_standsLike 16 = .ok (.aload_n 1, 1) := by decide +kernel
theorem dX6_standsLike_17 : decode cX6_standsLike 17 = .ok (.getfield 9, 3) := by decide +kernel
theorem dX6_standsLike_20 : decode cX6_standsLike 20 = .ok (.iload_n 2, 1) := by decide +kernel
theorem dX6_standsLike_21 : decode cX6_standsLike 21 = .ok (.iaload, 1) := by decide +kernel
theorem dX6_standsLike_22 : decode cX6_standsLike 22 = .ok (.if_icmp .eq 5, 3) := by decide +kernel
theorem dX6_standsLike_25 : decode cX6_standsLike 25 = .ok (.iconst 0, 1) := by decide +kernel
theorem dX6_standsLike_26 : decode cX6_standsLike 26 = .ok (.ireturn, 1) := by decide +kernel
theorem dX6_standsLike_27 : decode cX6_standsLike 27 = .ok (.iinc 2 1, 3) := by decide +kernel
theorem dX6_standsLike_30 : decode cX6_standsLike 30 = .ok (.goto (-28), 3) := by decide +kernel
theorem dX6_standsLike_33 : decode cX6_standsLike 33 = .ok (.iconst 1, 1) := by decide +kernel
theorem dX6_standsLike_34 : decode cX6_standsLike 34 = .ok (.ireturn, 1) := by decide +kernel
theorem dX6_firstWrong_0 : decode cX6_firstWrong 0 = .ok (.iconst 0, 1) := by decide +kernel
theorem dX6_firstWrong_1 : decode cX6_firstWrong 1 = .ok (.istore_n 3, 1) := by decide +kernel
theorem dX6_firstWrong_2 : decode cX6_firstWrong 2 = .ok (.iload_n 3, 1) := by decide +kernel
theorem dX6_firstWrong_3 : decode cX6_firstWrong 3 = .ok (.iload_n 2, 1) := by decide +kernel
theorem dX6_firstWrong_4 : decode cX6_firstWrong 4 = .ok (.if_icmp .ge 80, 3) := by decide +kernel
theorem dX6_firstWrong_7 : decode cX6_firstWrong 7 = .ok (.iload_n 3, 1) := by decide +kernel
theorem dX6_firstWrong_8 : decode cX6_firstWrong 8 = .ok (.aload_n 0, 1) := by decide +kernel
theorem dX6_firstWrong_9 : decode cX6_firstWrong 9 = .ok (.getfield 51, 3) := by decide +kernel
theorem dX6_firstWrong_12 : decode cX6_firstWrong 12 = .ok (.if_icmp .ge 14, 3) := by decide +kernel
theorem dX6_firstWrong_15 : decode cX6_firstWrong 15 = .ok (.aload_n 1, 1) := by decide +kernel
theorem dX6_firstWrong_16 : decode cX6_firstWrong 16 = .ok (.iconst 3, 1) := by decide +kernel
theorem dX6_firstWrong_17 : decode cX6_firstWrong 17 = .ok (.iload_n 3, 1) := by decide +kernel
theorem dX6_firstWrong_18 : decode cX6_firstWrong 18 = .ok (.imul, 1) := by decide +kernel
theorem dX6_firstWrong_19 : decode cX6_firstWrong 19 = .ok (.invokevirtual 182, 3) := by decide +kernel
theorem dX6_firstWrong_22 : decode cX6_firstWrong 22 = .ok (.iload_n 3, 1) := by decide +kernel
theorem dX6_firstWrong_23 : decode cX6_firstWrong 23 = .ok (.if_icmp .eq 7, 3) := by decide +kernel
theorem dX6_firstWrong_26 : decode cX6_firstWrong 26 = .ok (.iconst 3, 1) := by decide +kernel
theorem dX6_firstWrong_27 : decode cX6_firstWrong 27 = .ok (.iload_n 3, 1) := by decide +kernel
theorem dX6_firstWrong_28 : decode cX6_firstWrong 28 = .ok (.imul, 1) := by decide +kernel
theorem dX6_firstWrong_29 : decode cX6_firstWrong 29 = .ok (.ireturn, 1) := by decide +kernel
theorem dX6_firstWrong_30 : decode cX6_firstWrong 30 = .ok (.aload_n 1, 1) := by decide +kernel
theorem dX6_firstWrong_31 : decode cX6_firstWrong 31 = .ok (.iconst 3, 1) := by decide +kernel
theorem dX6_firstWrong_32 : decode cX6_firstWrong 32 = .ok (.iload_n 3, 1) := by decide +kernel
theorem dX6_firstWrong_33 : decode cX6_firstWrong 33 = .ok (.imul, 1) := by decide +kernel
theorem dX6_firstWrong_34 : decode cX6_firstWrong 34 = .ok (.iconst 1, 1) := by decide +kernel
theorem dX6_firstWrong_35 : decode cX6_firstWrong 35 = .ok (.iadd, 1) := by decide +kernel
theorem dX6_firstWrong_36 : decode cX6_firstWrong 36 = .ok (.invokevirtual 182, 3) := by decide +kernel
theorem dX6_firstWrong_39 : decode cX6_firstWrong 39 = .ok (.aload_n 0, 1) := by decide +kernel
theorem dX6_firstWrong_40 : decode cX6_firstWrong 40 = .ok (.getfield 9, 3) := by decide +kernel
theorem dX6_firstWrong_43 : decode cX6_firstWrong 43 = .ok (.iload_n 3, 1) := by decide +kernel
theorem dX6_firstWrong_44 : decode cX6_firstWrong 44 = .ok (.iaload, 1) := by decide +kernel
theorem dX6_firstWrong_45 : decode cX6_firstWrong 45 = .ok (.if_icmp .eq 9, 3) := by decide +kernel
theorem dX6_firstWrong_48 : decode cX6_firstWrong 48 = .ok (.iconst 3, 1) := by decide +kernel
theorem dX6_firstWrong_49 : decode cX6_firstWrong 49 = .ok (.iload_n 3, 1) := by decide +kernel
theorem dX6_firstWrong_50 : decode cX6_firstWrong 50 = .ok (.imul, 1) := by decide +kernel
theorem dX6_firstWrong_51 : decode cX6_firstWrong 51 = .ok (.iconst 1, 1) := by decide +kernel
theorem dX6_firstWrong_52 : decode cX6_firstWrong 52 = .ok (.iadd, 1) := by decide +kernel
theorem dX6_firstWrong_53 : decode cX6_firstWrong 53 = .ok (.ireturn, 1) := by decide +kernel
theorem dX6_firstWrong_54 : decode cX6_firstWrong 54 = .ok (.aload_n 1, 1) := by decide +kernel
theorem dX6_firstWrong_55 : decode cX6_firstWrong 55 = .ok (.iconst 3, 1) := by decide +kernel
theorem dX6_firstWrong_56 : decode cX6_firstWrong 56 = .ok (.iload_n 3, 1) := by decide +kernel
theorem dX6_firstWrong_57 : decode cX6_firstWrong 57 = .ok (.imul, 1) := by decide +kernel
theorem dX6_firstWrong_58 : decode cX6_firstWrong 58 = .ok (.iconst 2, 1) := by decide +kernel
theorem dX6_firstWrong_59 : decode cX6_firstWrong 59 = .ok (.iadd, 1) := by decide +kernel
theorem dX6_firstWrong_60 : decode cX6_firstWrong 60 = .ok (.invokevirtual 182, 3) := by decide +kernel
theorem dX6_firstWrong_63 : decode cX6_firstWrong 63 = .ok (.aload_n 0, 1) := by decide +kernel
theorem dX6_firstWrong_64 : decode cX6_firstWrong 64 = .ok (.getfield 15, 3) := by decide +kernel
theorem dX6_firstWrong_67 : decode cX6_firstWrong 67 = .ok (.iload_n 3, 1) := by decide +kernel
theorem dX6_firstWrong_68 : decode cX6_firstWrong 68 = .ok (.iaload, 1) := by decide +kernel
theorem dX6_firstWrong_69 : decode cX6_firstWrong 69 = .ok (.if_icmp .eq 9, 3) := by decide +kernel
theorem dX6_firstWrong_72 : decode cX6_firstWrong 72 = .ok (.iconst 3, 1) := by decide +kernel
theorem dX6_firstWrong_73 : decode cX6_firstWrong 73 = .ok (.iload_n 3, 1) := by decide +kernel
theorem dX6_firstWrong_74 : decode cX6_firstWrong 74 = .ok (.imul, 1) := by decide +kernel
theorem dX6_firstWrong_75 : decode cX6_firstWrong 75 = .ok (.iconst 2, 1) := by decide +kernel
theorem dX6_firstWrong_76 : decode cX6_firstWrong 76 = .ok (.iadd, 1) := by decide +kernel
theorem dX6_firstWrong_77 : decode cX6_firstWrong 77 = .ok (.ireturn, 1) := by decide +kernel
theorem dX6_firstWrong_78 : decode cX6_firstWrong 78 = .ok (.iinc 3 1, 3) := by decide +kernel
theorem dX6_firstWrong_81 : decode cX6_firstWrong 81 = .ok (.goto (-79), 3) := by decide +kernel
theorem dX6_firstWrong_84 : decode cX6_firstWrong 84 = .ok (.iload_n 2, 1) := by decide +kernel
theorem dX6_firstWrong_85 : decode cX6_firstWrong 85 = .ok (.aload_n 0, 1) := by decide +kernel
theorem dX6_firstWrong_86 : decode cX6_firstWrong 86 = .ok (.getfield 51, 3) := by decide +kernel
theorem dX6_firstWrong_89 : decode cX6_firstWrong 89 = .ok (.if_icmp .ge 9, 3) := by decide +kernel
theorem dX6_firstWrong_92 : decode cX6_firstWrong 92 = .ok (.iconst 3, 1) := by decide +kernel
theorem dX6_firstWrong_93 : decode cX6_firstWrong 93 = .ok (.iload_n 2, 1) := by decide +kernel
theorem dX6_firstWrong_94 : decode cX6_firstWrong 94 = .ok (.imul, 1) := by decide +kernel
theorem dX6_firstWrong_95 : decode cX6_firstWrong 95 = .ok (.goto 4, 3) := by decide +kernel
theorem dX6_firstWrong_98 : decode cX6_firstWrong 98 = .ok (.iconst (-1), 1) := by decide +kernel
theorem dX6_firstWrong_99 : decode cX6_firstWrong 99 = .ok (.ireturn, 1) := by decide +kernel
theorem dX7_init_0 : decode cX7_init 0 = .ok (.aload_n 0, 1) := by decide +kernel
theorem dX7_init_1 : decode cX7_init 1 = .ok (.invokespecial 3, 3) := by decide +kernel
theorem dX7_init_4 : decode cX7_init 4 = .ok (.aload_n 0, 1) := by decide +kernel
theorem dX7_init_5 : decode cX7_init 5 = .ok (.bipush 12, 2) := by decide +kernel
theorem dX7_init_7 : decode cX7_init 7 = .ok (.newarray .int, 2) := by decide +kernel
theorem dX7_init_9 : decode cX7_init 9 = .ok (.putfield 9, 3) := by decide +kernel
theorem dX7_init_12 : decode cX7_init 12 = .ok (.aload_n 0, 1) := by decide +kernel
theorem dX7_init_13 : decode cX7_init 13 = .ok (.bipush 32, 2) := by decide +kernel
theorem dX7_init_15 : decode cX7_init 15 = .ok (.newarray .int, 2) := by decide +kernel
theorem dX7_init_17 : decode cX7_init 17 = .ok (.putfield 15, 3) := by decide +kernel
theorem dX7_init_20 : decode cX7_init 20 = .ok (.return_, 1) := by decide +kernel
theorem dX7_pick_0 : decode cX7_pick 0 = .ok (.aload_n 1, 1) := by decide +kernel
theorem dX7_pick_1 : decode cX7_pick 1 = .ok (.ifnonnull 5, 3) := by decide +kernel
theorem dX7_pick_4 : decode cX7_pick 4 = .ok (.iconst 0, 1) := by decide +kernel
theorem dX7_pick_5 : decode cX7_pick 5 = .ok (.ireturn, 1) := by decide +kernel
theorem dX7_pick_6 : decode cX7_pick 6 = .ok (.iconst 0, 1) := by decide +kernel
theorem dX7_pick_7 : decode cX7_pick 7 = .ok (.istore 4, 2) := by decide +kernel
theorem dX7_pick_9 : decode cX7_pick 9 = .ok (.iload 4, 2) := by decide +kernel
theorem dX7_pick_11 : decode cX7_pick 11 = .ok (.aload_n 1, 1) := by decide +kernel
theorem dX7_pick_12 : decode cX7_pick 12 = .ok (.getfield 18, 3) := by decide +kernel
theorem dX7_pick_15 : decode cX7_pick 15 = .ok (.if_icmp .ge 81, 3) := by decide +kernel
theorem dX7_pick_18 : decode cX7_pick 18 = .ok (.iload 4, 2) := by decide +kernel
theorem dX7_pick_20 : decode cX7_pick 20 = .ok (.bipush 12, 2) := by decide +kernel
theorem dX7_pick_22 : decode cX7_pick 22 = .ok (.if_icmp .ge 74, 3) := by decide +kernel
theorem dX7_pick_25 : decode cX7_pick 25 = .ok (.aload_n 1, 1) := by decide +kernel
theorem dX7_pick_26 : decode cX7_pick 26 = .ok (.getfield 24, 3) := by decide +kernel
theorem dX7_pick_29 : decode cX7_pick 29 = .ok (.iload 4, 2) := by decide +kernel
theorem dX7_pick_31 : decode cX7_pick 31 = .ok (.iaload, 1) := by decide +kernel
theorem dX7_pick_32 : decode cX7_pick 32 = .ok (.iload_n 2, 1) := by decide +kernel
theorem dX7_pick_33 : decode cX7_pick 33 = .ok (.if_icmp .ne 57, 3) := by decide +kernel
theorem dX7_pick_36 : decode cX7_pick 36 = .ok (.aload_n 0, 1) := by decide +kernel
theorem dX7_pick_37 : decode cX7_pick 37 = .ok (.aload_n 1, 1) := by decide +kernel
theorem dX7_pick_38 : decode cX7_pick 38 = .ok (.aload_n 1, 1) := by decide +kernel
theorem dX7_pick_39 : decode cX7_pick 39 = .ok (.getfield 27, 3) := by decide +kernel
theorem dX7_pick_42 : decode cX7_pick 42 = .ok (.iload 4, 2) := by decide +kernel
theorem dX7_pick_44 : decode cX7_pick 44 = .ok (.iaload, 1) := by decide +kernel
theorem dX7_pick_45 : decode cX7_pick 45 = .ok (.aload_n 1, 1) := by decide +kernel
theorem dX7_pick_46 : decode cX7_pick 46 = .ok (.getfield 30, 3) := by decide +kernel
theorem dX7_pick_49 : decode cX7_pick 49 = .ok (.iload 4, 2) := by decide +kernel
theorem dX7_pick_51 : decode cX7_pick 51 = .ok (.iaload, 1) := by decide +kernel
theorem dX7_pick_52 : decode cX7_pick 52 = .ok (.invokevirtual 33, 3) := by decide +kernel
theorem dX7_pick_55 : decode cX7_pick 55 = .ok (.ifCond .eq 35, 3) := by decide +kernel
theorem dX7_pick_58 : decode cX7_pick 58 = .ok (.aload_n 0, 1) := by decide +kernel
theorem dX7_pick_59 : decode cX7_pick 59 = .ok (.aload_n 1, 1) := by decide +kernel
theorem dX7_pick_60 : decode cX7_pick 60 = .ok (.aload_n 1, 1) := by decide +kernel
theorem dX7_pick_61 : decode cX7_pick 61 = .ok (.getfield 37, 3) := by decide +kernel
theorem dX7_pick_64 : decode cX7_pick 64 = .ok (.iload 4, 2) := by decide +kernel
theorem dX7_pick_66 : decode cX7_pick 66 = .ok (.iaload, 1) := by decide +kernel
theorem dX7_pick_67 : decode cX7_pick 67 = .ok (.aload_n 1, 1) := by decide +kernel
theorem dX7_pick_68 : decode cX7_pick 68 = .ok (.getfield 27, 3) := by decide +kernel
theorem dX7_pick_71 : decode cX7_pick 71 = .ok (.iload 4, 2) := by decide +kernel
theorem dX7_pick_73 : decode cX7_pick 73 = .ok (.iaload, 1) := by decide +kernel
theorem dX7_pick_74 : decode cX7_pick 74 = .ok (.invokevirtual 33, 3) := by decide +kernel
theorem dX7_pick_77 : decode cX7_pick 77 = .ok (.istore 5, 2) := by decide +kernel
theorem dX7_pick_79 : decode cX7_pick 79 = .ok (.iconst 0, 1) := by decide +kernel
theorem dX7_pick_80 : decode cX7_pick 80 = .ok (.iload_n 3, 1) := by decide +kernel
theorem dX7_pick_81 : decode cX7_pick 81 = .ok (.iload 5, 2) := by decide +kernel
theorem dX7_pick_83 : decode cX7_pick 83 = .ok (.invokestatic 40, 3) := by decide +kernel
theorem dX7_pick_86 : decode cX7_pick 86 = .ok (.invokestatic 46, 3) := by decide +kernel
theorem dX7_pick_89 : decode cX7_pick 89 = .ok (.ireturn, 1) := by decide +kernel
theorem dX7_pick_90 : decode cX7_pick 90 = .ok (.iinc 4 1, 3) := by decide +kernel
theorem dX7_pick_93 : decode cX7_pick 93 = .ok (.goto (-84), 3) := by decide +kernel
theorem dX7_pick_96 : decode cX7_pick 96 = .ok (.iconst 0, 1) := by decide +kernel
theorem dX7_pick_97 : decode cX7_pick 97 = .ok (.ireturn, 1) := by decide +kernel
theorem dX7_reckon_0 : decode cX7_reckon 0 = .ok (.aload_n 1, 1) := by decide +kernel
theorem dX7_reckon_1 : decode cX7_reckon 1 = .ok (.ifnull 15, 3) := by decide +kernel
theorem dX7_reckon_4 : decode cX7_reckon 4 = .ok (.iload_n 2, 1) := by decide +kernel
theorem dX7_reckon_5 : decode cX7_reckon 5 = .ok (.ifCond .lt 11, 3) := by decide +kernel
theorem dX7_reckon_8 : decode cX7_reckon 8 = .ok (.iload_n 3, 1) := by decide +kernel
theorem dX7_reckon_9 : decode cX7_reckon 9 = .ok (.aload_n 1, 1) := by decide +kernel
theorem dX7_reckon_10 : decode cX7_reckon 10 = .ok (.getfield 49, 3) := by decide +kernel
theorem dX7_reckon_13 : decode cX7_reckon 13 = .ok (.if_icmp .le 5, 3) := by decide +kernel
theorem dX7_reckon_16 : decode cX7_reckon 16 = .ok (.iconst 0, 1) := by decide +kernel
theorem dX7_reckon_17 : decode cX7_reckon 17 = .ok (.ireturn, 1) := by decide +kernel
theorem dX7_reckon_18 : decode cX7_reckon 18 = .ok (.iconst 0, 1) := by decide +kernel
theorem dX7_reckon_19 : decode cX7_reckon 19 = .ok (.istore 4, 2) := by decide +kernel
theorem dX7_reckon_21 : decode cX7_reckon 21 = .ok (.iload_n 2, 1) := by decide +kernel
theorem dX7_reckon_22 : decode cX7_reckon 22 = .ok (.istore 5, 2) := by decide +kernel
theorem dX7_reckon_24 : decode cX7_reckon 24 = .ok (.iload 5, 2) := by decide +kernel
theorem dX7_reckon_26 : decode cX7_reckon 26 = .ok (.iload_n 3, 1) := by decide +kernel
theorem dX7_reckon_27 : decode cX7_reckon 27 = .ok (.if_icmp .ge 257, 3) := by decide +kernel
theorem dX7_reckon_30 : decode cX7_reckon 30 = .ok (.aload_n 1, 1) := by decide +kernel
theorem dX7_reckon_31 : decode cX7_reckon 31 = .ok (.getfield 52, 3) := by decide +kernel
theorem dX7_reckon_34 : decode cX7_reckon 34 = .ok (.iload 5, 2) := by decide +kernel
theorem dX7_reckon_36 : decode cX7_reckon 36 = .ok (.iaload, 1) := by decide +kernel
theorem dX7_reckon_37 : decode cX7_reckon 37 = .ok (.sipush 255, 3) := by decide +kernel
theorem dX7_reckon_40 : decode cX7_reckon 40 = .ok (.iand, 1) := by decide +kernel
theorem dX7_reckon_41 : decode cX7_reckon 41 = .ok (.istore 6, 2) := by decide +kernel
theorem dX7_reckon_43 : decode cX7_reckon 43 = .ok (.aload_n 1, 1) := by decide +kernel
theorem dX7_reckon_44 : decode cX7_reckon 44 = .ok (.getfield 52, 3) := by decide +kernel
theorem dX7_reckon_47 : decode cX7_reckon 47 = .ok (.iload 5, 2) := by decide +kernel
theorem dX7_reckon_49 : decode cX7_reckon 49 = .ok (.iaload, 1) := by decide +kernel
theorem dX7_reckon_50 : decode cX7_reckon 50 = .ok (.bipush 8, 2) := by decide +kernel
theorem dX7_reckon_52 : decode cX7_reckon 52 = .ok (.ishr, 1) := by decide +kernel
theorem dX7_reckon_53 : decode cX7_reckon 53 = .ok (.istore 7, 2) := by decide +kernel
theorem dX7_reckon_55 : decode cX7_reckon 55 = .ok (.iload 6, 2) := by decide +kernel
theorem dX7_reckon_57 : decode cX7_reckon 57 = .ok (.bipush 48, 2) := by decide +kernel
theorem dX7_reckon_59 : decode cX7_reckon 59 = .ok (.if_icmp .eq 10, 3) := by decide +kernel
theorem dX7_reckon_62 : decode cX7_reckon 62 = .ok (.iload 6, 2) := by decide +kernel
theorem dX7_reckon_64 : decode cX7_reckon 64 = .ok (.bipush 97, 2) := by decide +kernel
theorem dX7_reckon_66 : decode cX7_reckon 66 = .ok (.if_icmp .ne 46, 3) := by decide +kernel
theorem dX7_reckon_69 : decode cX7_reckon 69 = .ok (.iload 4, 2) := by decide +kernel
theorem dX7_reckon_71 : decode cX7_reckon 71 = .ok (.aload_n 0, 1) := by decide +kernel
theorem dX7_reckon_72 : decode cX7_reckon 72 = .ok (.getfield 15, 3) := by decide +kernel
theorem dX7_reckon_75 : decode cX7_reckon 75 = .ok (.arraylength, 1) := by decide +kernel
theorem dX7_reckon_76 : decode cX7_reckon 76 = .ok (.if_icmp .lt 5, 3) := by decide +kernel
theorem dX7_reckon_79 : decode cX7_reckon 79 = .ok (.iconst 0, 1) := by decide +kernel
theorem dX7_reckon_80 : decode cX7_reckon 80 = .ok (.ireturn, 1) := by decide +kernel
theorem dX7_reckon_81 : decode cX7_reckon 81 = .ok (.aload_n 0, 1) := by decide +kernel
theorem dX7_reckon_82 : decode cX7_reckon 82 = .ok (.getfield 15, 3) := by decide +kernel
theorem dX7_reckon_85 : decode cX7_reckon 85 = .ok (.iload 4, 2) := by decide +kernel
theorem dX7_reckon_87 : decode cX7_reckon 87 = .ok (.iload 6, 2) := by decide +kernel
theorem dX7_reckon_89 : decode cX7_reckon 89 = .ok (.bipush 48, 2) := by decide +kernel
theorem dX7_reckon_91 : decode cX7_reckon 91 = .ok (.if_icmp .ne 8, 3) := by decide +kernel
theorem dX7_reckon_94 : decode cX7_reckon 94 = .ok (.iload 7, 2) := by decide +kernel
theorem dX7_reckon_96 : decode cX7_reckon 96 = .ok (.goto 9, 3) := by decide +kernel
theorem dX7_reckon_99 : decode cX7_reckon 99 = .ok (.aload_n 0, 1) := by decide +kernel
theorem dX7_reckon_100 : decode cX7_reckon 100 = .ok (.iload 7, 2) := by decide +kernel
theorem dX7_reckon_102 : decode cX7_reckon 102 = .ok (.invokevirtual 55, 3) := by decide +kernel
theorem dX7_reckon_105 : decode cX7_reckon 105 = .ok (.iastore, 1) := by decide +kernel
theorem dX7_reckon_106 : decode cX7_reckon 106 = .ok (.iinc 4 1, 3) := by decide +kernel
theorem dX7_reckon_109 : decode cX7_reckon 109 = .ok (.goto 169, 3) := by decide +kernel
theorem dX7_reckon_112 : decode cX7_reckon 112 = .ok (.iload 4, 2) := by decide +kernel
theorem dX7_reckon_114 : decode cX7_reckon 114 = .ok (.iconst 1, 1) := by decide +kernel
theorem dX7_reckon_115 : decode cX7_reckon 115 = .ok (.if_icmp .ge 5, 3) := by decide +kernel
theorem dX7_reckon_118 : decode cX7_reckon 118 = .ok (.iconst 0, 1) := by decide +kernel
theorem dX7_reckon_119 : decode cX7_reckon 119 = .ok (.ireturn, 1) := by decide +kernel
theorem dX7_reckon_120 : decode cX7_reckon 120 = .ok (.iload 6, 2) := by decide +kernel
theorem dX7_reckon_122 : decode cX7_reckon 122 = .ok (.bipush 33, 2) := by decide +kernel
theorem dX7_reckon_124 : decode cX7_reckon 124 = .ok (.if_icmp .ne 26, 3) := by decide +kernel
theorem dX7_reckon_127 : decode cX7_reckon 127 = .ok (.aload_n 0, 1) := by decide +kernel
theorem dX7_reckon_128 : decode cX7_reckon 128 = .ok (.getfield 15, 3) := by decide +kernel
theorem dX7_reckon_131 : decode cX7_reckon 131 = .ok (.iload 4, 2) := by decide +kernel
theorem dX7_reckon_133 : decode cX7_reckon 133 = .ok (.iconst 1, 1) := by decide +kernel
theorem dX7_reckon_134 : decode cX7_reckon 134 = .ok (.isub, 1) := by decide +kernel
theorem dX7_reckon_135 : decode cX7_reckon 135 = .ok (.iconst 1, 1) := by decide +kernel
theorem dX7_reckon_136 : decode cX7_reckon 136 = .ok (.aload_n 0, 1) := by decide +kernel
theorem dX7_reckon_137 : decode cX7_reckon 137 = .ok (.getfield 15, 3) := by decide +kernel
theorem dX7_reckon_140 : decode cX7_reckon 140 = .ok (.iload 4, 2) := by decide +kernel
theorem dX7_reckon_142 : decode cX7_reckon 142 = .ok (.iconst 1, 1) := by decide +kernel
theorem dX7_reckon_143 : decode cX7_reckon 143 = .ok (.isub, 1) := by decide +kernel
theorem dX7_reckon_144 : decode cX7_reckon 144 = .ok (.iaload, 1) := by decide +kernel
theorem dX7_reckon_145 : decode cX7_reckon 145 = .ok (.isub, 1) := by decide +kernel
theorem dX7_reckon_146 : decode cX7_reckon 146 = .ok (.iastore, 1) := by decide +kernel
theorem dX7_reckon_147 : decode cX7_reckon 147 = .ok (.goto 131, 3) := by decide +kernel
theorem dX7_reckon_150 : decode cX7_reckon 150 = .ok (.iload 6, 2) := by decide +kernel
theorem dX7_reckon_152 : decode cX7_reckon 152 = .ok (.bipush 38, 2) := by decide +kernel
theorem dX7_reckon_154 : decode cX7_reckon 154 = .ok (.if_icmp .eq 10, 3) := by decide +kernel
theorem dX7_reckon_157 : decode cX7_reckon 157 = .ok (.iload 6, 2) := by decide +kernel
theorem dX7_reckon_159 : decode cX7_reckon 159 = .ok (.bipush 124, 2) := by decide +kernel
theorem dX7_reckon_161 : decode cX7_reckon 161 = .ok (.if_icmp .ne 59, 3) := by decide +kernel
theorem dX7_reckon_164 : decode cX7_reckon 164 = .ok (.aload_n 0, 1) := by decide +kernel
theorem dX7_reckon_165 : decode cX7_reckon 165 = .ok (.getfield 15, 3) := by decide +kernel
theorem dX7_reckon_168 : decode cX7_reckon 168 = .ok (.iload 4, 2) := by decide +kernel
theorem dX7_reckon_170 : decode cX7_reckon 170 = .ok (.iconst 1, 1) := by decide +kernel
theorem dX7_reckon_171 : decode cX7_reckon 171 = .ok (.isub, 1) := by decide +kernel
theorem dX7_reckon_172 : decode cX7_reckon 172 = .ok (.iaload, 1) := by decide +kernel
theorem dX7_reckon_173 : decode cX7_reckon 173 = .ok (.ifCond .eq 7, 3) := by decide +kernel
theorem dX7_reckon_176 : decode cX7_reckon 176 = .ok (.iconst 1, 1) := by decide +kernel
theorem dX7_reckon_177 : decode cX7_reckon 177 = .ok (.goto 4, 3) := by decide +kernel
theorem dX7_reckon_180 : decode cX7_reckon 180 = .ok (.iconst 0, 1) := by decide +kernel
theorem dX7_reckon_181 : decode cX7_reckon 181 = .ok (.istore 8, 2) := by decide +kernel
theorem dX7_reckon_183 : decode cX7_reckon 183 = .ok (.iload 8, 2) := by decide +kernel
theorem dX7_reckon_185 : decode cX7_reckon 185 = .ok (.iload 6, 2) := by decide +kernel
theorem dX7_reckon_187 : decode cX7_reckon 187 = .ok (.bipush 124, 2) := by decide +kernel
theorem dX7_reckon_189 : decode cX7_reckon 189 = .ok (.if_icmp .ne 7, 3) := by decide +kernel
theorem dX7_reckon_192 : decode cX7_reckon 192 = .ok (.iconst 1, 1) := by decide +kernel
theorem dX7_reckon_193 : decode cX7_reckon 193 = .ok (.goto 4, 3) := by decide +kernel
theorem dX7_reckon_196 : decode cX7_reckon 196 = .ok (.iconst 0, 1) := by decide +kernel
theorem dX7_reckon_197 : decode cX7_reckon 197 = .ok (.if_icmp .ne 17, 3) := by decide +kernel
theorem dX7_reckon_200 : decode cX7_reckon 200 = .ok (.iload 5, 2) := by decide +kernel
theorem dX7_reckon_202 : decode cX7_reckon 202 = .ok (.iload 7, 2) := by decide +kernel
theorem dX7_reckon_204 : decode cX7_reckon 204 = .ok (.iconst 1, 1) := by decide +kernel
theorem dX7_reckon_205 : decode cX7_reckon 205 = .ok (.isub, 1) := by decide +kernel
theorem dX7_reckon_206 : decode cX7_reckon 206 = .ok (.invokestatic 46, 3) := by decide +kernel
theorem dX7_reckon_209 : decode cX7_reckon 209 = .ok (.istore 5, 2) := by decide +kernel
theorem dX7_reckon_211 : decode cX7_reckon 211 = .ok (.goto 6, 3) := by decide +kernel
theorem dX7_reckon_214 : decode cX7_reckon 214 = .ok (.iinc 4 (-1), 3) := by decide +kernel
theorem dX7_reckon_217 : decode cX7_reckon 217 = .ok (.goto 61, 3) := by decide +kernel
theorem dX7_reckon_220 : decode cX7_reckon 220 = .ok (.iload 4, 2) := by decide +kernel
theorem dX7_reckon_222 : decode cX7_reckon 222 = .ok (.iconst 2, 1) := by decide +kernel
theorem dX7_reckon_223 : decode cX7_reckon 223 = .ok (.if_icmp .lt 20, 3) := by decide +kernel
theorem dX7_reckon_226 : decode cX7_reckon 226 = .ok (.iload 6, 2) := by decide +kernel
theorem dX7_reckon_228 : decode cX7_reckon 228 = .ok (.aload_n 0, 1) := by decide +kernel
theorem dX7_reckon_229 : decode cX7_reckon 229 = .ok (.getfield 15, 3) := by decide +kernel
theorem dX7_reckon_232 : decode cX7_reckon 232 = .ok (.iload 4, 2) := by decide +kernel
theorem dX7_reckon_234 : decode cX7_reckon 234 = .ok (.iconst 1, 1) := by decide +kernel
theorem dX7_reckon_235 : decode cX7_reckon 235 = .ok (.isub, 1) := by decide +kernel
theorem dX7_reckon_236 : decode cX7_reckon 236 = .ok (.iaload, 1) := by decide +kernel
theorem dX7_reckon_237 : decode cX7_reckon 237 = .ok (.invokestatic 59, 3) := by decide +kernel
theorem dX7_reckon_240 : decode cX7_reckon 240 = .ok (.ifCond .eq 5, 3) := by decide +kernel
theorem dX7_reckon_243 : decode cX7_reckon 243 = .ok (.iconst 0, 1) := by decide +kernel
theorem dX7_reckon_244 : decode cX7_reckon 244 = .ok (.ireturn, 1) := by decide +kernel
theorem dX7_reckon_245 : decode cX7_reckon 245 = .ok (.iinc 4 (-1), 3) := by decide +kernel
theorem dX7_reckon_248 : decode cX7_reckon 248 = .ok (.aload_n 0, 1) := by decide +kernel
theorem dX7_reckon_249 : decode cX7_reckon 249 = .ok (.getfield 15, 3) := by decide +kernel
theorem dX7_reckon_252 : decode cX7_reckon 252 = .ok (.iload 4, 2) := by decide +kernel
theorem dX7_reckon_254 : decode cX7_reckon 254 = .ok (.iconst 1, 1) := by decide +kernel
theorem dX7_reckon_255 : decode cX7_reckon 255 = .ok (.isub, 1) := by decide +kernel
theorem dX7_reckon_256 : decode cX7_reckon 256 = .ok (.iload 6, 2) := by decide +kernel
theorem dX7_reckon_258 : decode cX7_reckon 258 = .ok (.aload_n 0, 1) := by decide +kernel
theorem dX7_reckon_259 : decode cX7_reckon 259 = .ok (.getfield 15, 3) := by decide +kernel
theorem dX7_reckon_262 : decode cX7_reckon 262 = .ok (.iload 4, 2) := by decide +kernel
theorem dX7_reckon_264 : decode cX7_reckon 264 = .ok (.iconst 1, 1) := by decide +kernel
theorem dX7_reckon_265 : decode cX7_reckon 265 = .ok (.isub, 1) := by decide +kernel
theorem dX7_reckon_266 : decode cX7_reckon 266 = .ok (.iaload, 1) := by decide +kernel
theorem dX7_reckon_267 : decode cX7_reckon 267 = .ok (.aload_n 0, 1) := by decide +kernel
theorem dX7_reckon_268 : decode cX7_reckon 268 = .ok (.getfield 15, 3) := by decide +kernel
theorem dX7_reckon_271 : decode cX7_reckon 271 = .ok (.iload 4, 2) := by decide +kernel
theorem dX7_reckon_273 : decode cX7_reckon 273 = .ok (.iaload, 1) := by decide +kernel
theorem dX7_reckon_274 : decode cX7_reckon 274 = .ok (.invokestatic 63, 3) := by decide +kernel
theorem dX7_reckon_277 : decode cX7_reckon 277 = .ok (.iastore, 1) := by decide +kernel
theorem dX7_reckon_278 : decode cX7_reckon 278 = .ok (.iinc 5 1, 3) := by decide +kernel
theorem dX7_reckon_281 : decode cX7_reckon 281 = .ok (.goto (-257), 3) := by decide +kernel
theorem dX7_reckon_284 : decode cX7_reckon 284 = .ok (.iload 4, 2) := by decide +kernel
theorem dX7_reckon_286 : decode cX7_reckon 286 = .ok (.ifCond .le 15, 3) := by decide +kernel
theorem dX7_reckon_289 : decode cX7_reckon 289 = .ok (.aload_n 0, 1) := by decide +kernel
theorem dX7_reckon_290 : decode cX7_reckon 290 = .ok (.getfield 15, 3) := by decide +kernel
theorem dX7_reckon_293 : decode cX7_reckon 293 = .ok (.iload 4, 2) := by decide +kernel
theorem dX7_reckon_295 : decode cX7_reckon 295 = .ok (.iconst 1, 1) := by decide +kernel
theorem dX7_reckon_296 : decode cX7_reckon 296 = .ok (.isub, 1) := by decide +kernel
theorem dX7_reckon_297 : decode cX7_reckon 297 = .ok (.iaload, 1) := by decide +kernel
theorem dX7_reckon_298 : decode cX7_reckon 298 = .ok (.goto 4, 3) := by decide +kernel
theorem dX7_reckon_301 : decode cX7_reckon 301 = .ok (.iconst 0, 1) := by decide +kernel
theorem dX7_reckon_302 : decode cX7_reckon 302 = .ok (.ireturn, 1) := by decide +kernel
theorem dX7_letter_0 : decode cX7_letter 0 = .ok (.iload_n 1, 1) := by decide +kernel
theorem dX7_letter_1 : decode cX7_letter 1 = .ok (.ifCond .lt 21, 3) := by decide +kernel
theorem dX7_letter_4 : decode cX7_letter 4 = .ok (.iload_n 1, 1) := by decide +kernel
theorem dX7_letter_5 : decode cX7_letter 5 = .ok (.aload_n 0, 1) := by decide +kernel
theorem dX7_letter_6 : decode cX7_letter 6 = .ok (.getfield 9, 3) := by decide +kernel
theorem dX7_letter_9 : decode cX7_letter 9 = .ok (.arraylength, 1) := by decide +kernel
theorem dX7_letter_10 : decode cX7_letter 10 = .ok (.if_icmp .ge 12, 3) := by decide +kernel
theorem dX7_letter_13 : decode cX7_letter 13 = .ok (.aload_n 0, 1) := by decide +kernel
theorem dX7_letter_14 : decode cX7_letter 14 = .ok (.getfield 9, 3) := by decide +kernel
theorem dX7_letter_17 : decode cX7_letter 17 = .ok (.iload_n 1, 1) := by decide +kernel
theorem dX7_letter_18 : decode cX7_letter 18 = .ok (.iaload, 1) := by decide +kernel
theorem dX7_letter_19 : decode cX7_letter 19 = .ok (.goto 4, 3) := by decide +kernel
theorem dX7_letter_22 : decode cX7_letter 22 = .ok (.iconst 0, 1) := by decide +kernel
theorem dX7_letter_23 : decode cX7_letter 23 = .ok (.ireturn, 1) := by decide +kernel
theorem dX7_isRefused_0 : decode cX7_isRefused 0 = .ok (.iload_n 1, 1) := by decide +kernel
theorem dX7_isRefused_1 : decode cX7_isRefused 1 = .ok (.ifCond .ne 19, 3) := by decide +kernel
theorem dX7_isRefused_4 : decode cX7_isRefused 4 = .ok (.iload_n 0, 1) := by decide +kernel
theorem dX7_isRefused_5 : decode cX7_isRefused 5 = .ok (.bipush 47, 2) := by decide +kernel
theorem dX7_isRefused_7 : decode cX7_isRefused 7 = .ok (.if_icmp .eq 9, 3) := by decide +kernel
theorem dX7_isRefused_10 : decode cX7_isRefused 10 = .ok (.iload_n 0, 1) := by decide +kernel
theorem dX7_isRefused_11 : decode cX7_isRefused 11 = .ok (.bipush 37, 2) := by decide +kernel
theorem dX7_isRefused_13 : decode cX7_isRefused 13 = .ok (.if_icmp .ne 7, 3) := by decide +kernel
theorem dX7_isRefused_16 : decode cX7_isRefused 16 = .ok (.iconst 1, 1) := by decide +kernel
theorem dX7_isRefused_17 : decode cX7_isRefused 17 = .ok (.goto 4, 3) := by decide +kernel
theorem dX7_isRefused_20 : decode cX7_isRefused 20 = .ok (.iconst 0, 1) := by decide +kernel
theorem dX7_isRefused_21 : decode cX7_isRefused 21 = .ok (.ireturn, 1) := by decide +kernel
theorem dX7_join_0 : decode cX7_join 0 = .ok (.iload_n 0, 1) := by decide +kernel
theorem dX7_join_1 : decode cX7_join 1 = .ok (.lookupswitch 125 #[(37, 91), (42, 75), (43, 67), (45, 71), (47, 79), (60, 103), (62, 114)], 67) := by decide +kernel
theorem dX7_join_68 : decode cX7_join 68 = .ok (.iload_n 1, 1) := by decide +kernel
theorem dX7_join_69 : decode cX7_join 69 = .ok (.iload_n 2, 1) := by decide +kernel
theorem dX7_join_70 : decode cX7_join 70 = .ok (.iadd, 1) := by decide +kernel
theorem dX7_join_71 : decode cX7_join 71 = .ok (.ireturn, 1) := by decide +kernel
theorem dX7_join_72 : decode cX7_join 72 = .ok (.iload_n 1, 1) := by decide +kernel
theorem dX7_join_73 : decode cX7_join 73 = .ok (.iload_n 2, 1) := by decide +kernel
theorem dX7_join_74 : decode cX7_join 74 = .ok (.isub, 1) := by decide +kernel
theorem dX7_join_75 : decode cX7_join 75 = .ok (.ireturn, 1) := by decide +kernel
theorem dX7_join_76 : decode cX7_join 76 = .ok (.iload_n 1, 1) := by decide +kernel
theorem dX7_join_77 : decode cX7_join 77 = .ok (.iload_n 2, 1) := by decide +kernel
theorem dX7_join_78 : decode cX7_join 78 = .ok (.imul, 1) := by decide +kernel
theorem dX7_join_79 : decode cX7_join 79 = .ok (.ireturn, 1) := by decide +kernel
theorem dX7_join_80 : decode cX7_join 80 = .ok (.iload_n 2, 1) := by decide +kernel
theorem dX7_join_81 : decode cX7_join 81 = .ok (.ifCond .ne 7, 3) := by decide +kernel
theorem dX7_join_84 : decode cX7_join 84 = .ok (.iconst 0, 1) := by decide +kernel
theorem dX7_join_85 : decode cX7_join 85 = .ok (.goto 6, 3) := by decide +kernel
theorem dX7_join_88 : decode cX7_join 88 = .ok (.iload_n 1, 1) := by decide +kernel
theorem dX7_join_89 : decode cX7_join 89 = .ok (.iload_n 2, 1) := by decide +kernel
theorem dX7_join_90 : decode cX7_join 90 = .ok (.idiv, 1) := by decide +kernel
theorem dX7_join_91 : decode cX7_join 91 = .ok (.ireturn, 1) := by decide +kernel
theorem dX7_join_92 : decode cX7_join 92 = .ok (.iload_n 2, 1) := by decide +kernel
theorem dX7_join_93 : decode cX7_join 93 = .ok (.ifCond .ne 7, 3) := by decide +kernel
theorem dX7_join_96 : decode cX7_join 96 = .ok (.iconst 0, 1) := by decide +kernel
theorem dX7_join_97 : decode cX7_join 97 = .ok (.goto 6, 3) := by decide +kernel
theorem dX7_join_100 : decode cX7_join 100 = .ok (.iload_n 1, 1) := by decide +kernel
theorem dX7_join_101 : decode cX7_join 101 = .ok (.iload_n 2, 1) := by decide +kernel
theorem dX7_join_102 : decode cX7_join 102 = .ok (.irem, 1) := by decide +kernel
theorem dX7_join_103 : decode cX7_join 103 = .ok (.ireturn, 1) := by decide +kernel
theorem dX7_join_104 : decode cX7_join 104 = .ok (.iload_n 1, 1) := by decide +kernel
theorem dX7_join_105 : decode cX7_join 105 = .ok (.iload_n 2, 1) := by decide +kernel
theorem dX7_join_106 : decode cX7_join 106 = .ok (.if_icmp .ge 7, 3) := by decide +kernel
theorem dX7_join_109 : decode cX7_join 109 = .ok (.iconst 1, 1) := by decide +kernel
theorem dX7_join_110 : decode cX7_join 110 = .ok (.goto 4, 3) := by decide +kernel
theorem dX7_join_113 : decode cX7_join 113 = .ok (.iconst 0, 1) := by decide +kernel
theorem dX7_join_114 : decode cX7_join 114 = .ok (.ireturn, 1) := by decide +kernel
theorem dX7_join_115 : decode cX7_join 115 = .ok (.iload_n 1, 1) := by decide +kernel
theorem dX7_join_116 : decode cX7_join 116 = .ok (.iload_n 2, 1) := by decide +kernel
theorem dX7_join_117 : decode cX7_join 117 = .ok (.if_icmp .le 7, 3) := by decide +kernel
theorem dX7_join_120 : decode cX7_join 120 = .ok (.iconst 1, 1) := by decide +kernel
theorem dX7_join_121 : decode cX7_join 121 = .ok (.goto 4, 3) := by decide +kernel
theorem dX7_join_124 : decode cX7_join 124 = .ok (.iconst 0, 1) := by decide +kernel
theorem dX7_join_125 : decode cX7_join 125 = .ok (.ireturn, 1) := by decide +kernel
theorem dX7_join_126 : decode cX7_join 126 = .ok (.iload_n 1, 1) := by decide +kernel
theorem dX7_join_127 : decode cX7_join 127 = .ok (.iload_n 2, 1) := by decide +kernel
theorem dX7_join_128 : decode cX7_join 128 = .ok (.if_icmp .ne 7, 3) := by decide +kernel
theorem dX7_join_131 : decode cX7_join 131 = .ok (.iconst 1, 1) := by decide +kernel
theorem dX7_join_132 : decode cX7_join 132 = .ok (.goto 4, 3) := by decide +kernel
theorem dX7_join_135 : decode cX7_join 135 = .ok (.iconst 0, 1) := by decide +kernel
theorem dX7_join_136 : decode cX7_join 136 = .ok (.ireturn, 1) := by decide +kernel
theorem dX8_init_0 : decode cX8_init 0 = .ok (.aload_n 0, 1) := by decide +kernel
theorem dX8_init_1 : decode cX8_init 1 = .ok (.invokespecial 3, 3) := by decide +kernel
theorem dX8_init_4 : decode cX8_init 4 = .ok (.aload_n 0, 1) := by decide +kernel
theorem dX8_init_5 : decode cX8_init 5 = .ok (.new 9, 3) := by decide +kernel
theorem dX8_init_8 : decode cX8_init 8 = .ok (.dup, 1) := by decide +kernel
theorem dX8_init_9 : decode cX8_init 9 = .ok (.invokespecial 11, 3) := by decide +kernel
theorem dX8_init_12 : decode cX8_init 12 = .ok (.putfield 12, 3) := by decide +kernel
theorem dX8_init_15 : decode cX8_init 15 = .ok (.aload_n 0, 1) := by decide +kernel
theorem dX8_init_16 : decode cX8_init 16 = .ok (.bipush 10, 2) := by decide +kernel
theorem dX8_init_18 : decode cX8_init 18 = .ok (.bipush 10, 2) := by decide +kernel
theorem dX8_init_20 : decode cX8_init 20 = .ok (.multianewarray 18 2, 4) := by decide +kernel
theorem dX8_init_24 : decode cX8_init 24 = .ok (.putfield 20, 3) := by decide +kernel
theorem dX8_init_27 : decode cX8_init 27 = .ok (.aload_n 0, 1) := by decide +kernel
theorem dX8_init_28 : decode cX8_init 28 = .ok (.sipush 1024, 3) := by decide +kernel
theorem dX8_init_31 : decode cX8_init 31 = .ok (.newarray .int, 2) := by decide +kernel
theorem dX8_init_33 : decode cX8_init 33 = .ok (.putfield 23, 3) := by decide +kernel
theorem dX8_init_36 : decode cX8_init 36 = .ok (.aload_n 0, 1) := by decide +kernel
theorem dX8_init_37 : decode cX8_init 37 = .ok (.iconst (-1), 1) := by decide +kernel
theorem dX8_init_38 : decode cX8_init 38 = .ok (.putfield 27, 3) := by decide +kernel
theorem dX8_init_41 : decode cX8_init 41 = .ok (.aload_n 0, 1) := by decide +kernel
theorem dX8_init_42 : decode cX8_init 42 = .ok (.aload_n 1, 1) := by decide +kernel
theorem dX8_init_43 : decode cX8_init 43 = .ok (.putfield 31, 3) := by decide +kernel
theorem dX8_init_46 : decode cX8_init 46 = .ok (.aload_n 0, 1) := by decide +kernel
theorem dX8_init_47 : decode cX8_init 47 = .ok (.aload_n 2, 1) := by decide +kernel
theorem dX8_init_48 : decode cX8_init 48 = .ok (.putfield 35, 3) := by decide +kernel
theorem dX8_init_51 : decode cX8_init 51 = .ok (.return_, 1) := by decide +kernel
theorem dX8_replaceGain_0 : decode cX8_replaceGain 0 = .ok (.aload_n 0, 1) := by decide +kernel
theorem dX8_replaceGain_1 : decode cX8_replaceGain 1 = .ok (.aload_n 1, 1) := by decide +kernel
theorem dX8_replaceGain_2 : decode cX8_replaceGain 2 = .ok (.putfield 12, 3) := by decide +kernel
theorem dX8_replaceGain_5 : decode cX8_replaceGain 5 = .ok (.aload_n 0, 1) := by decide +kernel
theorem dX8_replaceGain_6 : decode cX8_replaceGain 6 = .ok (.iconst 1, 1) := by decide +kernel
theorem dX8_replaceGain_7 : decode cX8_replaceGain 7 = .ok (.putfield 39, 3) := by decide +kernel
theorem dX8_replaceGain_10 : decode cX8_replaceGain 10 = .ok (.aload_n 0, 1) := by decide +kernel
theorem dX8_replaceGain_11 : decode cX8_replaceGain 11 = .ok (.iconst (-1), 1) := by decide +kernel
theorem dX8_replaceGain_12 : decode cX8_replaceGain 12 = .ok (.putfield 27, 3) := by decide +kernel
theorem dX8_replaceGain_15 : decode cX8_replaceGain 15 = .ok (.return_, 1) := by decide +kernel
theorem dX8_learnWants_0 : decode cX8_learnWants 0 = .ok (.aload_n 0, 1) := by decide +kernel
theorem dX8_learnWants_1 : decode cX8_learnWants 1 = .ok (.getfield 27, 3) := by decide +kernel
theorem dX8_learnWants_4 : decode cX8_learnWants 4 = .ok (.aload_n 0, 1) := by decide +kernel
theorem dX8_learnWants_5 : decode cX8_learnWants 5 = .ok (.getfield 31, 3) := by decide +kernel
theorem dX8_learnWants_8 : decode cX8_learnWants 8 = .ok (.getfield 43, 3) := by decide +kernel
theorem dX8_learnWants_11 : decode cX8_learnWants 11 = .ok (.if_icmp .ne 4, 3) := by decide +kernel
theorem dX8_learnWants_14 : decode cX8_learnWants 14 = .ok (.return_, 1) := by decide +kernel
theorem dX8_learnWants_15 : decode cX8_learnWants 15 = .ok (.aload_n 0, 1) := by decide +kernel
theorem dX8_learnWants_16 : decode cX8_learnWants 16 = .ok (.aload_n 0, 1) := by decide +kernel
theorem dX8_learnWants_17 : decode cX8_learnWants 17 = .ok (.getfield 31, 3) := by decide +kernel
theorem dX8_learnWants_20 : decode cX8_learnWants 20 = .ok (.getfield 43, 3) := by decide +kernel
theorem dX8_learnWants_23 : decode cX8_learnWants 23 = .ok (.putfield 27, 3) := by decide +kernel
theorem dX8_learnWants_26 : decode cX8_learnWants 26 = .ok (.aload_n 0, 1) := by decide +kernel
theorem dX8_learnWants_27 : decode cX8_learnWants 27 = .ok (.getfield 23, 3) := by decide +kernel
theorem dX8_learnWants_30 : decode cX8_learnWants 30 = .ok (.iconst (-1), 1) := by decide +kernel
theorem dX8_learnWants_31 : decode cX8_learnWants 31 = .ok (.invokestatic 48, 3) := by decide +kernel
theorem dX8_learnWants_34 : decode cX8_learnWants 34 = .ok (.aload_n 0, 1) := by decide +kernel
theorem dX8_learnWants_35 : decode cX8_learnWants 35 = .ok (.getfield 35, 3) := by decide +kernel
theorem dX8_learnWants_38 : decode cX8_learnWants 38 = .ok (.getfield 54, 3) := by decide +kernel
theorem dX8_learnWants_41 : decode cX8_learnWants 41 = .ok (.astore_n 1, 1) := by decide +kernel
theorem dX8_learnWants_42 : decode cX8_learnWants 42 = .ok (.aload_n 1, 1) := by decide +kernel
theorem dX8_learnWants_43 : decode cX8_learnWants 43 = .ok (.iconst 0, 1) := by decide +kernel
theorem dX8_learnWants_44 : decode cX8_learnWants 44 = .ok (.invokestatic 48, 3) := by decide +kernel
theorem dX8_learnWants_47 : decode cX8_learnWants 47 = .ok (.aload_n 1, 1) := by decide +kernel
theorem dX8_learnWants_48 : decode cX8_learnWants 48 = .ok (.bipush 8, 2) := by decide +kernel
theorem dX8_learnWants_50 : decode cX8_learnWants 50 = .ok (.aload_n 0, 1) := by decide +kernel
theorem dX8_learnWants_51 : decode cX8_learnWants 51 = .ok (.getfield 31, 3) := by decide +kernel
theorem dX8_learnWants_54 : decode cX8_learnWants 54 = .ok (.getfield 43, 3) := by decide +kernel
theorem dX8_learnWants_57 : decode cX8_learnWants 57 = .ok (.iastore, 1) := by decide +kernel
theorem dX8_learnWants_58 : decode cX8_learnWants 58 = .ok (.iconst 0, 1) := by decide +kernel
theorem dX8_learnWants_59 : decode cX8_learnWants 59 = .ok (.istore_n 2, 1) := by decide +kernel
theorem dX8_learnWants_60 : decode cX8_learnWants 60 = .ok (.iload_n 2, 1) := by decide +kernel
theorem dX8_learnWants_61 : decode cX8_learnWants 61 = .ok (.aload_n 0, 1) := by decide +kernel
theorem dX8_learnWants_62 : decode cX8_learnWants 62 = .ok (.getfield 31, 3) := by decide +kernel
theorem dX8_learnWants_65 : decode cX8_learnWants 65 = .ok (.getfield 43, 3) := by decide +kernel
theorem dX8_learnWants_68 : decode cX8_learnWants 68 = .ok (.if_icmp .ge 90, 3) := by decide +kernel
theorem dX8_learnWants_71 : decode cX8_learnWants 71 = .ok (.aload_n 1, 1) := by decide +kernel
theorem dX8_learnWants_72 : decode cX8_learnWants 72 = .ok (.bipush 7, 2) := by decide +kernel
theorem dX8_learnWants_74 : decode cX8_learnWants 74 = .ok (.iload_n 2, 1) := by decide +kernel
theorem dX8_learnWants_75 : decode cX8_learnWants 75 = .ok (.iastore, 1) := by decide +kernel
theorem dX8_learnWants_76 : decode cX8_learnWants 76 = .ok (.aload_n 1, 1) := by decide +kernel
theorem dX8_learnWants_77 : decode cX8_learnWants 77 = .ok (.iconst 5, 1) := by decide +kernel
theorem dX8_learnWants_78 : decode cX8_learnWants 78 = .ok (.aload_n 0, 1) := by decide +kernel
theorem dX8_learnWants_79 : decode cX8_learnWants 79 = .ok (.getfield 31, 3) := by decide +kernel
theorem dX8_learnWants_82 : decode cX8_learnWants 82 = .ok (.getfield 59, 3) := by decide +kernel
theorem dX8_learnWants_85 : decode cX8_learnWants 85 = .ok (.iload_n 2, 1) := by decide +kernel
theorem dX8_learnWants_86 : decode cX8_learnWants 86 = .ok (.iaload, 1) := by decide +kernel
theorem dX8_learnWants_87 : decode cX8_learnWants 87 = .ok (.iastore, 1) := by decide +kernel
theorem dX8_learnWants_88 : decode cX8_learnWants 88 = .ok (.aload_n 1, 1) := by decide +kernel
theorem dX8_learnWants_89 : decode cX8_learnWants 89 = .ok (.bipush 6, 2) := by decide +kernel
theorem dX8_learnWants_91 : decode cX8_learnWants 91 = .ok (.aload_n 0, 1) := by decide +kernel
theorem dX8_learnWants_92 : decode cX8_learnWants 92 = .ok (.getfield 31, 3) := by decide +kernel
theorem dX8_learnWants_95 : decode cX8_learnWants 95 = .ok (.getfield 62, 3) := by decide +kernel
theorem dX8_learnWants_98 : decode cX8_learnWants 98 = .ok (.iload_n 2, 1) := by decide +kernel
theorem dX8_learnWants_99 : decode cX8_learnWants 99 = .ok (.iaload, 1) := by decide +kernel
theorem dX8_learnWants_100 : decode cX8_learnWants 100 = .ok (.iastore, 1) := by decide +kernel
theorem dX8_learnWants_101 : decode cX8_learnWants 101 = .ok (.iconst 0, 1) := by decide +kernel
theorem dX8_learnWants_102 : decode cX8_learnWants 102 = .ok (.istore_n 3, 1) := by decide +kernel
theorem dX8_learnWants_103 : decode cX8_learnWants 103 = .ok (.iload_n 3, 1) := by decide +kernel
theorem dX8_learnWants_104 : decode cX8_learnWants 104 = .ok (.aload_n 0, 1) := by decide +kernel
theorem dX8_learnWants_105 : decode cX8_learnWants 105 = .ok (.getfield 31, 3) := by decide +kernel
theorem dX8_learnWants_108 : decode cX8_learnWants 108 = .ok (.getfield 43, 3) := by decide +kernel
theorem dX8_learnWants_111 : decode cX8_learnWants 111 = .ok (.if_icmp .ge 41, 3) := by decide +kernel
theorem dX8_learnWants_114 : decode cX8_learnWants 114 = .ok (.aload_n 1, 1) := by decide +kernel
theorem dX8_learnWants_115 : decode cX8_learnWants 115 = .ok (.bipush 9, 2) := by decide +kernel
theorem dX8_learnWants_117 : decode cX8_learnWants 117 = .ok (.iload_n 3, 1) := by decide +kernel
theorem dX8_learnWants_118 : decode cX8_learnWants 118 = .ok (.iastore, 1) := by decide +kernel
theorem dX8_learnWants_119 : decode cX8_learnWants 119 = .ok (.aload_n 0, 1) := by decide +kernel
theorem dX8_learnWants_120 : decode cX8_learnWants 120 = .ok (.getfield 20, 3) := by decide +kernel
theorem dX8_learnWants_123 : decode cX8_learnWants 123 = .ok (.iload_n 2, 1) := by decide +kernel
theorem dX8_learnWants_124 : decode cX8_learnWants 124 = .ok (.aaload, 1) := by decide +kernel
theorem dX8_learnWants_125 : decode cX8_learnWants 125 = .ok (.iload_n 3, 1) := by decide +kernel
theorem dX8_learnWants_126 : decode cX8_learnWants 126 = .ok (.aload_n 0, 1) := by decide +kernel
theorem dX8_learnWants_127 : decode cX8_learnWants 127 = .ok (.getfield 35, 3) := by decide +kernel
theorem dX8_learnWants_130 : decode cX8_learnWants 130 = .ok (.aload_n 0, 1) := by decide +kernel
theorem dX8_learnWants_131 : decode cX8_learnWants 131 = .ok (.getfield 12, 3) := by decide +kernel
theorem dX8_learnWants_134 : decode cX8_learnWants 134 = .ok (.iconst 0, 1) := by decide +kernel
theorem dX8_learnWants_135 : decode cX8_learnWants 135 = .ok (.aload_n 0, 1) := by decide +kernel
theorem dX8_learnWants_136 : decode cX8_learnWants 136 = .ok (.getfield 12, 3) := by decide +kernel
theorem dX8_learnWants_139 : decode cX8_learnWants 139 = .ok (.getfield 65, 3) := by decide +kernel
theorem dX8_learnWants_142 : decode cX8_learnWants 142 = .ok (.invokevirtual 68, 3) := by decide +kernel
theorem dX8_learnWants_145 : decode cX8_learnWants 145 = .ok (.iastore, 1) := by decide +kernel
theorem dX8_learnWants_146 : decode cX8_learnWants 146 = .ok (.iinc 3 1, 3) := by decide +kernel
theorem dX8_learnWants_149 : decode cX8_learnWants 149 = .ok (.goto (-46), 3) := by decide +kernel
theorem dX8_learnWants_152 : decode cX8_learnWants 152 = .ok (.iinc 2 1, 3) := by decide +kernel
theorem dX8_learnWants_155 : decode cX8_learnWants 155 = .ok (.goto (-95), 3) := by decide +kernel
theorem dX8_learnWants_158 : decode cX8_learnWants 158 = .ok (.return_, 1) := by decide +kernel
theorem dX8_wantsOtherwise_0 : decode cX8_wantsOtherwise 0 = .ok (.iload_n 2, 1) := by decide +kernel
theorem dX8_wantsOtherwise_1 : decode cX8_wantsOtherwise 1 = .ok (.iload_n 1, 1) := by decide +kernel
theorem dX8_wantsOtherwise_2 : decode cX8_wantsOtherwise 2 = .ok (.ishr, 1) := by decide +kernel
theorem dX8_wantsOtherwise_3 : decode cX8_wantsOtherwise 3 = .ok (.iconst 1, 1) := by decide +kernel
theorem dX8_wantsOtherwise_4 : decode cX8_wantsOtherwise 4 = .ok (.iand, 1) := by decide +kernel
theorem dX8_wantsOtherwise_5 : decode cX8_wantsOtherwise 5 = .ok (.iconst 1, 1) := by decide +kernel
theorem dX8_wantsOtherwise_6 : decode cX8_wantsOtherwise 6 = .ok (.if_icmp .ne 7, 3) := by decide +kernel
theorem dX8_wantsOtherwise_9 : decode cX8_wantsOtherwise 9 = .ok (.iconst 1, 1) := by decide +kernel
theorem dX8_wantsOtherwise_10 : decode cX8_wantsOtherwise 10 = .ok (.goto 4, 3) := by decide +kernel
theorem dX8_wantsOtherwise_13 : decode cX8_wantsOtherwise 13 = .ok (.iconst 0, 1) := by decide +kernel
theorem dX8_wantsOtherwise_14 : decode cX8_wantsOtherwise 14 = .ok (.istore_n 3, 1) := by decide +kernel
theorem dX8_wantsOtherwise_15 : decode cX8_wantsOtherwise 15 = .ok (.iload_n 2, 1) := by decide +kernel
theorem dX8_wantsOtherwise_16 : decode cX8_wantsOtherwise 16 = .ok (.invokestatic 72, 3) := by decide +kernel
theorem dX8_wantsOtherwise_19 : decode cX8_wantsOtherwise 19 = .ok (.iload_n 3, 1) := by decide +kernel
theorem dX8_wantsOtherwise_20 : decode cX8_wantsOtherwise 20 = .ok (.ifCond .eq 7, 3) := by decide +kernel
theorem dX8_wantsOtherwise_23 : decode cX8_wantsOtherwise 23 = .ok (.iconst 1, 1) := by decide +kernel
theorem dX8_wantsOtherwise_24 : decode cX8_wantsOtherwise 24 = .ok (.goto 4, 3) := by decide +kernel
theorem dX8_wantsOtherwise_27 : decode cX8_wantsOtherwise 27 = .ok (.iconst 0, 1) := by decide +kernel
theorem dX8_wantsOtherwise_28 : decode cX8_wantsOtherwise 28 = .ok (.isub, 1) := by decide +kernel
theorem dX8_wantsOtherwise_29 : decode cX8_wantsOtherwise 29 = .ok (.istore 4, 2) := by decide +kernel
theorem dX8_wantsOtherwise_31 : decode cX8_wantsOtherwise 31 = .ok (.aload_n 0, 1) := by decide +kernel
theorem dX8_wantsOtherwise_32 : decode cX8_wantsOtherwise 32 = .ok (.getfield 20, 3) := by decide +kernel
theorem dX8_wantsOtherwise_35 : decode cX8_wantsOtherwise 35 = .ok (.iload_n 1, 1) := by decide +kernel
theorem dX8_wantsOtherwise_36 : decode cX8_wantsOtherwise 36 = .ok (.aaload, 1) := by decide +kernel
theorem dX8_wantsOtherwise_37 : decode cX8_wantsOtherwise 37 = .ok (.iload 4, 2) := by decide +kernel
theorem dX8_wantsOtherwise_39 : decode cX8_wantsOtherwise 39 = .ok (.iaload, 1) := by decide +kernel
theorem dX8_wantsOtherwise_40 : decode cX8_wantsOtherwise 40 = .ok (.istore 5, 2) := by decide +kernel
theorem dX8_wantsOtherwise_42 : decode cX8_wantsOtherwise 42 = .ok (.iload_n 3, 1) := by decide +kernel
theorem dX8_wantsOtherwise_43 : decode cX8_wantsOtherwise 43 = .ok (.ifCond .eq 16, 3) := by decide +kernel
theorem dX8_wantsOtherwise_46 : decode cX8_wantsOtherwise 46 = .ok (.iload 5, 2) := by decide +kernel
theorem dX8_wantsOtherwise_48 : decode cX8_wantsOtherwise 48 = .ok (.ifCond .ge 7, 3) := by decide +kernel
theorem dX8_wantsOtherwise_51 : decode cX8_wantsOtherwise 51 = .ok (.iconst 1, 1) := by decide +kernel
theorem dX8_wantsOtherwise_52 : decode cX8_wantsOtherwise 52 = .ok (.goto 17, 3) := by decide +kernel
theorem dX8_wantsOtherwise_55 : decode cX8_wantsOtherwise 55 = .ok (.iconst 0, 1) := by decide +kernel
theorem dX8_wantsOtherwise_56 : decode cX8_wantsOtherwise 56 = .ok (.goto 13, 3) := by decide +kernel
theorem dX8_wantsOtherwise_59 : decode cX8_wantsOtherwise 59 = .ok (.iload 5, 2) := by decide +kernel
theorem dX8_wantsOtherwise_61 : decode cX8_wantsOtherwise 61 = .ok (.ifCond .le 7, 3) := by decide +kernel
theorem dX8_wantsOtherwise_64 : decode cX8_wantsOtherwise 64 = .ok (.iconst 1, 1) := by decide +kernel
theorem dX8_wantsOtherwise_65 : decode cX8_wantsOtherwise 65 = .ok (.goto 4, 3) := by decide +kernel
theorem dX8_wantsOtherwise_68 : decode cX8_wantsOtherwise 68 = .ok (.iconst 0, 1) := by decide +kernel
theorem dX8_wantsOtherwise_69 : decode cX8_wantsOtherwise 69 = .ok (.ireturn, 1) := by decide +kernel
theorem dX8_isResting_0 : decode cX8_isResting 0 = .ok (.iconst 0, 1) := by decide +kernel
theorem dX8_isResting_1 : decode cX8_isResting 1 = .ok (.istore_n 2, 1) := by decide +kernel
theorem dX8_isResting_2 : decode cX8_isResting 2 = .ok (.iload_n 2, 1) := by decide +kernel
theorem dX8_isResting_3 : decode cX8_isResting 3 = .ok (.aload_n 0, 1) := by decide +kernel
theorem dX8_isResting_4 : decode cX8_isResting 4 = .ok (.getfield 31, 3) := by decide +kernel
theorem dX8_isResting_7 : decode cX8_isResting 7 = .ok (.getfield 43, 3) := by decide +kernel
theorem dX8_isResting_10 : decode cX8_isResting 10 = .ok (.if_icmp .ge 20, 3) := by decide +kernel
theorem dX8_isResting_13 : decode cX8_isResting 13 = .ok (.aload_n 0, 1) := by decide +kernel
theorem dX8_isResting_14 : decode cX8_isResting 14 = .ok (.iload_n 2, 1) := by decide +kernel
theorem dX8_isResting_15 : decode cX8_isResting 15 = .ok (.iload_n 1, 1) := by decide +kernel
theorem dX8_isResting_16 : decode cX8_isResting 16 = .ok (.invokevirtual 78, 3) := by decide +kernel
theorem dX8_isResting_19 : decode cX8_isResting 19 = .ok (.ifCond .eq 5, 3) := by decide +kernel
theorem dX8_isResting_22 : decode cX8_isResting 22 = .ok (.iconst 0, 1) := by decide +kernel
theorem dX8_isResting_23 : decode cX8_isResting 23 = .ok (.ireturn, 1) := by decide +kernel
theorem dX8_isResting_24 : decode cX8_isResting 24 = .ok (.iinc 2 1, 3) := by decide +kernel
theorem dX8_isResting_27 : decode cX8_isResting 27 = .ok (.goto (-25), 3) := by decide +kernel
theorem dX8_isResting_30 : decode cX8_isResting 30 = .ok (.iconst 1, 1) := by decide +kernel
theorem dX8_isResting_31 : decode cX8_isResting 31 = .ok (.ireturn, 1) := by decide +kernel
theorem dX8_howMany_0 : decode cX8_howMany 0 = .ok (.iconst 0, 1) := by decide +kernel
theorem dX8_howMany_1 : decode cX8_howMany 1 = .ok (.istore_n 1, 1) := by decide +kernel
theorem dX8_howMany_2 : decode cX8_howMany 2 = .ok (.iconst 0, 1) := by decide +kernel
theorem dX8_howMany_3 : decode cX8_howMany 3 = .ok (.istore_n 2, 1) := by decide +kernel
theorem dX8_howMany_4 : decode cX8_howMany 4 = .ok (.iload_n 2, 1) := by decide +kernel
theorem dX8_howMany_5 : decode cX8_howMany 5 = .ok (.iconst 1, 1) := by decide +kernel
theorem dX8_howMany_6 : decode cX8_howMany 6 = .ok (.aload_n 0, 1) := by decide +kernel
theorem dX8_howMany_7 : decode cX8_howMany 7 = .ok (.getfield 31, 3) := by decide +kernel
theorem dX8_howMany_10 : decode cX8_howMany 10 = .ok (.getfield 43, 3) := by decide +kernel
theorem dX8_howMany_13 : decode cX8_howMany 13 = .ok (.ishl, 1) := by decide +kernel
theorem dX8_howMany_14 : decode cX8_howMany 14 = .ok (.if_icmp .ge 20, 3) := by decide +kernel
theorem dX8_howMany_17 : decode cX8_howMany 17 = .ok (.aload_n 0, 1) := by decide +kernel
theorem dX8_howMany_18 : decode cX8_howMany 18 = .ok (.iload_n 2, 1) := by decide +kernel
theorem dX8_howMany_19 : decode cX8_howMany 19 = .ok (.invokevirtual 82, 3) := by decide +kernel
theorem dX8_howMany_22 : decode cX8_howMany 22 = .ok (.ifCond .eq 6, 3) := by decide +kernel
theorem dX8_howMany_25 : decode cX8_howMany 25 = .ok (.iinc 1 1, 3) := by decide +kernel
theorem dX8_howMany_28 : decode cX8_howMany 28 = .ok (.iinc 2 1, 3) := by decide +kernel
theorem dX8_howMany_31 : decode cX8_howMany 31 = .ok (.goto (-27), 3) := by decide +kernel
theorem dX8_howMany_34 : decode cX8_howMany 34 = .ok (.iload_n 1, 1) := by decide +kernel
theorem dX8_howMany_35 : decode cX8_howMany 35 = .ok (.ireturn, 1) := by decide +kernel
theorem dX8_atPlace_0 : decode cX8_atPlace 0 = .ok (.iload_n 1, 1) := by decide +kernel
theorem dX8_atPlace_1 : decode cX8_atPlace 1 = .ok (.istore_n 2, 1) := by decide +kernel
theorem dX8_atPlace_2 : decode cX8_atPlace 2 = .ok (.iconst 0, 1) := by decide +kernel
theorem dX8_atPlace_3 : decode cX8_atPlace 3 = .ok (.istore_n 3, 1) := by decide +kernel
theorem dX8_atPlace_4 : decode cX8_atPlace 4 = .ok (.iload_n 3, 1) := by decide +kernel
theorem dX8_atPlace_5 : decode cX8_atPlace 5 = .ok (.iconst 1, 1) := by decide +kernel
theorem dX8_atPlace_6 : decode cX8_atPlace 6 = .ok (.aload_n 0, 1) := by decide +kernel
theorem dX8_atPlace_7 : decode cX8_atPlace 7 = .ok (.getfield 31, 3) := by decide +kernel
theorem dX8_atPlace_10 : decode cX8_atPlace 10 = .ok (.getfield 43, 3) := by decide +kernel
theorem dX8_atPlace_13 : decode cX8_atPlace 13 = .ok (.ishl, 1) := by decide +kernel
theorem dX8_atPlace_14 : decode cX8_atPlace 14 = .ok (.if_icmp .ge 26, 3) := by decide +kernel
theorem dX8_atPlace_17 : decode cX8_atPlace 17 = .ok (.aload_n 0, 1) := by decide +kernel
theorem dX8_atPlace_18 : decode cX8_atPlace 18 = .ok (.iload_n 3, 1) := by decide +kernel
theorem dX8_atPlace_19 : decode cX8_atPlace 19 = .ok (.invokevirtual 82, 3) := by decide +kernel
theorem dX8_atPlace_22 : decode cX8_atPlace 22 = .ok (.ifCond .eq 12, 3) := by decide +kernel
theorem dX8_atPlace_25 : decode cX8_atPlace 25 = .ok (.iload_n 2, 1) := by decide +kernel
theorem dX8_atPlace_26 : decode cX8_atPlace 26 = .ok (.ifCond .ne 5, 3) := by decide +kernel
theorem dX8_atPlace_29 : decode cX8_atPlace 29 = .ok (.iload_n 3, 1) := by decide +kernel
theorem dX8_atPlace_30 : decode cX8_atPlace 30 = .ok (.ireturn, 1) := by decide +kernel
theorem dX8_atPlace_31 : decode cX8_atPlace 31 = .ok (.iinc 2 (-1), 3) := by decide +kernel
theorem dX8_atPlace_34 : decode cX8_atPlace 34 = .ok (.iinc 3 1, 3) := by decide +kernel
theorem dX8_atPlace_37 : decode cX8_atPlace 37 = .ok (.goto (-33), 3) := by decide +kernel
theorem dX8_atPlace_40 : decode cX8_atPlace 40 = .ok (.iconst (-1), 1) := by decide +kernel
theorem dX8_atPlace_41 : decode cX8_atPlace 41 = .ok (.ireturn, 1) := by decide +kernel
theorem dX8_settle_0 : decode cX8_settle 0 = .ok (.iload_n 1, 1) := by decide +kernel
theorem dX8_settle_1 : decode cX8_settle 1 = .ok (.istore_n 2, 1) := by decide +kernel
theorem dX8_settle_2 : decode cX8_settle 2 = .ok (.iconst 0, 1) := by decide +kernel
theorem dX8_settle_3 : decode cX8_settle 3 = .ok (.istore_n 3, 1) := by decide +kernel
theorem dX8_settle_4 : decode cX8_settle 4 = .ok (.iload_n 3, 1) := by decide +kernel
theorem dX8_settle_5 : decode cX8_settle 5 = .ok (.bipush 100, 2) := by decide +kernel
theorem dX8_settle_7 : decode cX8_settle 7 = .ok (.if_icmp .ge 27, 3) := by decide +kernel
theorem dX8_settle_10 : decode cX8_settle 10 = .ok (.aload_n 0, 1) := by decide +kernel
theorem dX8_settle_11 : decode cX8_settle 11 = .ok (.iload_n 2, 1) := by decide +kernel
theorem dX8_settle_12 : decode cX8_settle 12 = .ok (.invokevirtual 86, 3) := by decide +kernel
theorem dX8_settle_15 : decode cX8_settle 15 = .ok (.istore 4, 2) := by decide +kernel
theorem dX8_settle_17 : decode cX8_settle 17 = .ok (.iload 4, 2) := by decide +kernel
theorem dX8_settle_19 : decode cX8_settle 19 = .ok (.iload_n 2, 1) := by decide +kernel
theorem dX8_settle_20 : decode cX8_settle 20 = .ok (.if_icmp .ne 5, 3) := by decide +kernel
theorem dX8_settle_23 : decode cX8_settle 23 = .ok (.iload_n 2, 1) := by decide +kernel
theorem dX8_settle_24 : decode cX8_settle 24 = .ok (.ireturn, 1) := by decide +kernel
theorem dX8_settle_25 : decode cX8_settle 25 = .ok (.iload 4, 2) := by decide +kernel
theorem dX8_settle_27 : decode cX8_settle 27 = .ok (.istore_n 2, 1) := by decide +kernel
theorem dX8_settle_28 : decode cX8_settle 28 = .ok (.iinc 3 1, 3) := by decide +kernel
theorem dX8_settle_31 : decode cX8_settle 31 = .ok (.goto (-27), 3) := by decide +kernel
theorem dX8_settle_34 : decode cX8_settle 34 = .ok (.bipush (-2), 2) := by decide +kernel
theorem dX8_settle_36 : decode cX8_settle 36 = .ok (.ireturn, 1) := by decide +kernel
theorem dX8_behindRound_0 : decode cX8_behindRound 0 = .ok (.aload_n 0, 1) := by decide +kernel
theorem dX8_behindRound_1 : decode cX8_behindRound 1 = .ok (.getfield 23, 3) := by decide +kernel
theorem dX8_behindRound_4 : decode cX8_behindRound 4 = .ok (.iload_n 1, 1) := by decide +kernel
theorem dX8_behindRound_5 : decode cX8_behindRound 5 = .ok (.iaload, 1) := by decide +kernel
theorem dX8_behindRound_6 : decode cX8_behindRound 6 = .ok (.iconst (-1), 1) := by decide +kernel
theorem dX8_behindRound_7 : decode cX8_behindRound 7 = .ok (.if_icmp .ne 46, 3) := by decide +kernel
theorem dX8_behindRound_10 : decode cX8_behindRound 10 = .ok (.iload_n 1, 1) := by decide +kernel
theorem dX8_behindRound_11 : decode cX8_behindRound 11 = .ok (.istore_n 2, 1) := by decide +kernel
theorem dX8_behindRound_12 : decode cX8_behindRound 12 = .ok (.iconst 0, 1) := by decide +kernel
theorem dX8_behindRound_13 : decode cX8_behindRound 13 = .ok (.istore_n 3, 1) := by decide +kernel
theorem dX8_behindRound_14 : decode cX8_behindRound 14 = .ok (.iload_n 3, 1) := by decide +kernel
theorem dX8_behindRound_15 : decode cX8_behindRound 15 = .ok (.aload_n 0, 1) := by decide +kernel
theorem dX8_behindRound_16 : decode cX8_behindRound 16 = .ok (.getfield 31, 3) := by decide +kernel
theorem dX8_behindRound_19 : decode cX8_behindRound 19 = .ok (.getfield 43, 3) := by decide +kernel
theorem dX8_behindRound_22 : decode cX8_behindRound 22 = .ok (.if_icmp .ge 24, 3) := by decide +kernel
theorem dX8_behindRound_25 : decode cX8_behindRound 25 = .ok (.aload_n 0, 1) := by decide +kernel
theorem dX8_behindRound_26 : decode cX8_behindRound 26 = .ok (.iload_n 3, 1) := by decide +kernel
theorem dX8_behindRound_27 : decode cX8_behindRound 27 = .ok (.iload_n 2, 1) := by decide +kernel
theorem dX8_behindRound_28 : decode cX8_behindRound 28 = .ok (.invokevirtual 78, 3) := by decide +kernel
theorem dX8_behindRound_31 : decode cX8_behindRound 31 = .ok (.ifCond .eq 9, 3) := by decide +kernel
theorem dX8_behindRound_34 : decode cX8_behindRound 34 = .ok (.iload_n 2, 1) := by decide +kernel
theorem dX8_behindRound_35 : decode cX8_behindRound 35 = .ok (.iconst 1, 1) := by decide +kernel
theorem dX8_behindRound_36 : decode cX8_behindRound 36 = .ok (.iload_n 3, 1) := by decide +kernel
theorem dX8_behindRound_37 : decode cX8_behindRound 37 = .ok (.ishl, 1) := by decide +kernel
theorem dX8_behindRound_38 : decode cX8_behindRound 38 = .ok (.ixor, 1) := by decide +kernel
theorem dX8_behindRound_39 : decode cX8_behindRound 39 = .ok (.istore_n 2, 1) := by decide +kernel
theorem dX8_behindRound_40 : decode cX8_behindRound 40 = .ok (.iinc 3 1, 3) := by decide +kernel
theorem dX8_behindRound_43 : decode cX8_behindRound 43 = .ok (.goto (-29), 3) := by decide +kernel
theorem dX8_behindRound_46 : decode cX8_behindRound 46 = .ok (.aload_n 0, 1) := by decide +kernel
theorem dX8_behindRound_47 : decode cX8_behindRound 47 = .ok (.getfield 23, 3) := by decide +kernel
theorem dX8_behindRound_50 : decode cX8_behindRound 50 = .ok (.iload_n 1, 1) := by decide +kernel
theorem dX8_behindRound_51 : decode cX8_behindRound 51 = .ok (.iload_n 2, 1) := by decide +kernel
theorem dX8_behindRound_52 : decode cX8_behindRound 52 = .ok (.iastore, 1) := by decide +kernel
theorem dX8_behindRound_53 : decode cX8_behindRound 53 = .ok (.aload_n 0, 1) := by decide +kernel
theorem dX8_behindRound_54 : decode cX8_behindRound 54 = .ok (.getfield 23, 3) := by decide +kernel
theorem dX8_behindRound_57 : decode cX8_behindRound 57 = .ok (.iload_n 1, 1) := by decide +kernel
theorem dX8_behindRound_58 : decode cX8_behindRound 58 = .ok (.iaload, 1) := by decide +kernel
theorem dX8_behindRound_59 : decode cX8_behindRound 59 = .ok (.ireturn, 1) := by decide +kernel
theorem dX8_fewestToChange_0 : decode cX8_fewestToChange 0 = .ok (.iload_n 1, 1) := by decide +kernel
theorem dX8_fewestToChange_1 : decode cX8_fewestToChange 1 = .ok (.iload_n 2, 1) := by decide +kernel
theorem dX8_fewestToChange_2 : decode cX8_fewestToChange 2 = .ok (.ixor, 1) := by decide +kernel
theorem dX8_fewestToChange_3 : decode cX8_fewestToChange 3 = .ok (.istore_n 3, 1) := by decide +kernel
theorem dX8_fewestToChange_4 : decode cX8_fewestToChange 4 = .ok (.iload_n 3, 1) := by decide +kernel
theorem dX8_fewestToChange_5 : decode cX8_fewestToChange 5 = .ok (.invokestatic 72, 3) := by decide +kernel
theorem dX8_fewestToChange_8 : decode cX8_fewestToChange 8 = .ok (.istore 4, 2) := by decide +kernel
theorem dX8_fewestToChange_10 : decode cX8_fewestToChange 10 = .ok (.iconst 0, 1) := by decide +kernel
theorem dX8_fewestToChange_11 : decode cX8_fewestToChange 11 = .ok (.istore 5, 2) := by decide +kernel
theorem dX8_fewestToChange_13 : decode cX8_fewestToChange 13 = .ok (.iload 5, 2) := by decide +kernel
theorem dX8_fewestToChange_15 : decode cX8_fewestToChange 15 = .ok (.iconst 1, 1) := by decide +kernel
theorem dX8_fewestToChange_16 : decode cX8_fewestToChange 16 = .ok (.aload_n 0, 1) := by decide +kernel
theorem dX8_fewestToChange_17 : decode cX8_fewestToChange 17 = .ok (.getfield 31, 3) := by decide +kernel
theorem dX8_fewestToChange_20 : decode cX8_fewestToChange 20 = .ok (.getfield 43, 3) := by decide +kernel
theorem dX8_fewestToChange_23 : decode cX8_fewestToChange 23 = .ok (.ishl, 1) := by decide +kernel
theorem dX8_fewestToChange_24 : decode cX8_fewestToChange 24 = .ok (.if_icmp .ge 67, 3) := by decide +kernel
theorem dX8_fewestToChange_27 : decode cX8_fewestToChange 27 = .ok (.iload 5, 2) := by decide +kernel
theorem dX8_fewestToChange_29 : decode cX8_fewestToChange 29 = .ok (.invokestatic 72, 3) := by decide +kernel
theorem dX8_fewestToChange_32 : decode cX8_fewestToChange 32 = .ok (.istore 6, 2) := by decide +kernel
theorem dX8_fewestToChange_34 : decode cX8_fewestToChange 34 = .ok (.iload 6, 2) := by decide +kernel
theorem dX8_fewestToChange_36 : decode cX8_fewestToChange 36 = .ok (.iload 4, 2) := by decide +kernel
theorem dX8_fewestToChange_38 : decode cX8_fewestToChange 38 = .ok (.if_icmp .lt 16, 3) := by decide +kernel
theorem dX8_fewestToChange_41 : decode cX8_fewestToChange 41 = .ok (.iload 6, 2) := by decide +kernel
theorem dX8_fewestToChange_43 : decode cX8_fewestToChange 43 = .ok (.iload 4, 2) := by decide +kernel
theorem dX8_fewestToChange_45 : decode cX8_fewestToChange 45 = .ok (.if_icmp .ne 13, 3) := by decide +kernel
theorem dX8_fewestToChange_48 : decode cX8_fewestToChange 48 = .ok (.iload 5, 2) := by decide +kernel
theorem dX8_fewestToChange_50 : decode cX8_fewestToChange 50 = .ok (.iload_n 3, 1) := by decide +kernel
theorem dX8_fewestToChange_51 : decode cX8_fewestToChange 51 = .ok (.if_icmp .ge 7, 3) := by decide +kernel
theorem dX8_fewestToChange_54 : decode cX8_fewestToChange 54 = .ok (.iconst 1, 1) := by decide +kernel
theorem dX8_fewestToChange_55 : decode cX8_fewestToChange 55 = .ok (.goto 4, 3) := by decide +kernel
theorem dX8_fewestToChange_58 : decode cX8_fewestToChange 58 = .ok (.iconst 0, 1) := by decide +kernel
theorem dX8_fewestToChange_59 : decode cX8_fewestToChange 59 = .ok (.istore 7, 2) := by decide +kernel
theorem dX8_fewestToChange_61 : decode cX8_fewestToChange 61 = .ok (.iload 7, 2) := by decide +kernel
theorem dX8_fewestToChange_63 : decode cX8_fewestToChange 63 = .ok (.ifCond .eq 22, 3) := by decide +kernel
theorem dX8_fewestToChange_66 : decode cX8_fewestToChange 66 = .ok (.aload_n 0, 1) := by decide +kernel
theorem dX8_fewestToChange_67 : decode cX8_fewestToChange 67 = .ok (.iload_n 1, 1) := by decide +kernel
theorem dX8_fewestToChange_68 : decode cX8_fewestToChange 68 = .ok (.iload 5, 2) := by decide +kernel
theorem dX8_fewestToChange_70 : decode cX8_fewestToChange 70 = .ok (.ixor, 1) := by decide +kernel
theorem dX8_fewestToChange_71 : decode cX8_fewestToChange 71 = .ok (.invokevirtual 89, 3) := by decide +kernel
theorem dX8_fewestToChange_74 : decode cX8_fewestToChange 74 = .ok (.iload_n 2, 1) := by decide +kernel
theorem dX8_fewestToChange_75 : decode cX8_fewestToChange 75 = .ok (.if_icmp .ne 10, 3) := by decide +kernel
theorem dX8_fewestToChange_78 : decode cX8_fewestToChange 78 = .ok (.iload 5, 2) := by decide +kernel
theorem dX8_fewestToChange_80 : decode cX8_fewestToChange 80 = .ok (.istore_n 3, 1) := by decide +kernel
theorem dX8_fewestToChange_81 : decode cX8_fewestToChange 81 = .ok (.iload 6, 2) := by decide +kernel
theorem dX8_fewestToChange_83 : decode cX8_fewestToChange 83 = .ok (.istore 4, 2) := by decide +kernel
theorem dX8_fewestToChange_85 : decode cX8_fewestToChange 85 = .ok (.iinc 5 1, 3) := by decide +kernel
theorem dX8_fewestToChange_88 : decode cX8_fewestToChange 88 = .ok (.goto (-75), 3) := by decide +kernel
theorem dX8_fewestToChange_91 : decode cX8_fewestToChange 91 = .ok (.iload_n 3, 1) := by decide +kernel
theorem dX8_fewestToChange_92 : decode cX8_fewestToChange 92 = .ok (.ireturn, 1) := by decide +kernel
theorem dX9_init_0 : decode cX9_init 0 = .ok (.aload_n 0, 1) := by decide +kernel
theorem dX9_init_1 : decode cX9_init 1 = .ok (.invokespecial 1, 3) := by decide +kernel
theorem dX9_init_4 : decode cX9_init 4 = .ok (.aload_n 0, 1) := by decide +kernel
theorem dX9_init_5 : decode cX9_init 5 = .ok (.sipush 200, 3) := by decide +kernel
theorem dX9_init_8 : decode cX9_init 8 = .ok (.newarray .byte, 2) := by decide +kernel
theorem dX9_init_10 : decode cX9_init 10 = .ok (.putfield 9, 3) := by decide +kernel
theorem dX9_init_13 : decode cX9_init 13 = .ok (.return_, 1) := by decide +kernel
theorem dX9_add_0 : decode cX9_add 0 = .ok (.bipush 24, 2) := by decide +kernel
theorem dX9_add_2 : decode cX9_add 2 = .ok (.istore_n 2, 1) := by decide +kernel
theorem dX9_add_3 : decode cX9_add 3 = .ok (.iload_n 2, 1) := by decide +kernel
theorem dX9_add_4 : decode cX9_add 4 = .ok (.ifCond .lt 44, 3) := by decide +kernel
theorem dX9_add_7 : decode cX9_add 7 = .ok (.aload_n 0, 1) := by decide +kernel
theorem dX9_add_8 : decode cX9_add 8 = .ok (.getfield 13, 3) := by decide +kernel
theorem dX9_add_11 : decode cX9_add 11 = .ok (.aload_n 0, 1) := by decide +kernel
theorem dX9_add_12 : decode cX9_add 12 = .ok (.getfield 9, 3) := by decide +kernel
theorem dX9_add_15 : decode cX9_add 15 = .ok (.arraylength, 1) := by decide +kernel
theorem dX9_add_16 : decode cX9_add 16 = .ok (.if_icmp .ge 32, 3) := by decide +kernel
theorem dX9_add_19 : decode cX9_add 19 = .ok (.aload_n 0, 1) := by decide +kernel
theorem dX9_add_20 : decode cX9_add 20 = .ok (.getfield 9, 3) := by decide +kernel
theorem dX9_add_23 : decode cX9_add 23 = .ok (.aload_n 0, 1) := by decide +kernel
theorem dX9_add_24 : decode cX9_add 24 = .ok (.getfield 13, 3) := by decide +kernel
theorem dX9_add_27 : decode cX9_add 27 = .ok (.iload_n 1, 1) := by decide +kernel
theorem dX9_add_28 : decode cX9_add 28 = .ok (.iload_n 2, 1) := by decide +kernel
theorem dX9_add_29 : decode cX9_add 29 = .ok (.ishr, 1) := by decide +kernel
theorem dX9_add_30 : decode cX9_add 30 = .ok (.i2b, 1) := by decide +kernel
theorem dX9_add_31 : decode cX9_add 31 = .ok (.bastore, 1) := by decide +kernel
theorem dX9_add_32 : decode cX9_add 32 = .ok (.aload_n 0, 1) := by decide +kernel
theorem dX9_add_33 : decode cX9_add 33 = .ok (.dup, 1) := by decide +kernel
theorem dX9_add_34 : decode cX9_add 34 = .ok (.getfield 13, 3) := by decide +kernel
theorem dX9_add_37 : decode cX9_add 37 = .ok (.iconst 1, 1) := by decide +kernel
theorem dX9_add_38 : decode cX9_add 38 = .ok (.iadd, 1) := by decide +kernel
theorem dX9_add_39 : decode cX9_add 39 = .ok (.putfield 13, 3) := by decide +kernel
theorem dX9_add_42 : decode cX9_add 42 = .ok (.iinc 2 (-8), 3) := by decide +kernel
theorem dX9_add_45 : decode cX9_add 45 = .ok (.goto (-42), 3) := by decide +kernel
theorem dX9_add_48 : decode cX9_add 48 = .ok (.return_, 1) := by decide +kernel
theorem dX9_hasText_0 : decode cX9_hasText 0 = .ok (.iload_n 1, 1) := by decide +kernel
theorem dX9_hasText_1 : decode cX9_hasText 1 = .ok (.iconst 1, 1) := by decide +kernel
theorem dX9_hasText_2 : decode cX9_hasText 2 = .ok (.if_icmp .lt 20, 3) := by decide +kernel
theorem dX9_hasText_5 : decode cX9_hasText 5 = .ok (.iload_n 1, 1) := by decide +kernel
theorem dX9_hasText_6 : decode cX9_hasText 6 = .ok (.iload_n 2, 1) := by decide +kernel
theorem dX9_hasText_7 : decode cX9_hasText 7 = .ok (.if_icmp .gt 15, 3) := by decide +kernel
theorem dX9_hasText_10 : decode cX9_hasText 10 = .ok (.iload_n 1, 1) := by decide +kernel
theorem dX9_hasText_11 : decode cX9_hasText 11 = .ok (.aload_n 0, 1) := by decide +kernel
theorem dX9_hasText_12 : decode cX9_hasText 12 = .ok (.getfield 13, 3) := by decide +kernel
theorem dX9_hasText_15 : decode cX9_hasText 15 = .ok (.if_icmp .gt 7, 3) := by decide +kernel
theorem dX9_hasText_18 : decode cX9_hasText 18 = .ok (.iconst 1, 1) := by decide +kernel
theorem dX9_hasText_19 : decode cX9_hasText 19 = .ok (.goto 4, 3) := by decide +kernel
theorem dX9_hasText_22 : decode cX9_hasText 22 = .ok (.iconst 0, 1) := by decide +kernel
theorem dX9_hasText_23 : decode cX9_hasText 23 = .ok (.ireturn, 1) := by decide +kernel
theorem dX9_byteAt_0 : decode cX9_byteAt 0 = .ok (.iload_n 1, 1) := by decide +kernel
theorem dX9_byteAt_1 : decode cX9_byteAt 1 = .ok (.ifCond .lt 25, 3) := by decide +kernel
theorem dX9_byteAt_4 : decode cX9_byteAt 4 = .ok (.iload_n 1, 1) := by decide +kernel
theorem dX9_byteAt_5 : decode cX9_byteAt 5 = .ok (.aload_n 0, 1) := by decide +kernel
theorem dX9_byteAt_6 : decode cX9_byteAt 6 = .ok (.getfield 9, 3) := by decide +kernel
theorem dX9_byteAt_9 : decode cX9_byteAt 9 = .ok (.arraylength, 1) := by decide +kernel
theorem dX9_byteAt_10 : decode cX9_byteAt 10 = .ok (.if_icmp .ge 16, 3) := by decide +kernel
theorem dX9_byteAt_13 : decode cX9_byteAt 13 = .ok (.aload_n 0, 1) := by decide +kernel
theorem dX9_byteAt_14 : decode cX9_byteAt 14 = .ok (.getfield 9, 3) := by decide +kernel
theorem dX9_byteAt_17 : decode cX9_byteAt 17 = .ok (.iload_n 1, 1) := by decide +kernel
theorem dX9_byteAt_18 : decode cX9_byteAt 18 = .ok (.baload, 1) := by decide +kernel
theorem dX9_byteAt_19 : decode cX9_byteAt 19 = .ok (.sipush 255, 3) := by decide +kernel
theorem dX9_byteAt_22 : decode cX9_byteAt 22 = .ok (.iand, 1) := by decide +kernel
theorem dX9_byteAt_23 : decode cX9_byteAt 23 = .ok (.goto 4, 3) := by decide +kernel
theorem dX9_byteAt_26 : decode cX9_byteAt 26 = .ok (.iconst 0, 1) := by decide +kernel
theorem dX9_byteAt_27 : decode cX9_byteAt 27 = .ok (.ireturn, 1) := by decide +kernel
theorem dX9_numberAt_0 : decode cX9_numberAt 0 = .ok (.iconst 0, 1) := by decide +kernel
theorem dX9_numberAt_1 : decode cX9_numberAt 1 = .ok (.istore_n 2, 1) := by decide +kernel
theorem dX9_numberAt_2 : decode cX9_numberAt 2 = .ok (.iconst 0, 1) := by decide +kernel
theorem dX9_numberAt_3 : decode cX9_numberAt 3 = .ok (.istore_n 3, 1) := by decide +kernel
theorem dX9_numberAt_4 : decode cX9_numberAt 4 = .ok (.iload_n 3, 1) := by decide +kernel
theorem dX9_numberAt_5 : decode cX9_numberAt 5 = .ok (.iconst 4, 1) := by decide +kernel
theorem dX9_numberAt_6 : decode cX9_numberAt 6 = .ok (.if_icmp .ge 24, 3) := by decide +kernel
theorem dX9_numberAt_9 : decode cX9_numberAt 9 = .ok (.iload_n 2, 1) := by decide +kernel
theorem dX9_numberAt_10 : decode cX9_numberAt 10 = .ok (.bipush 8, 2) := by decide +kernel
theorem dX9_numberAt_12 : decode cX9_numberAt 12 = .ok (.ishl, 1) := by decide +kernel
theorem dX9_numberAt_13 : decode cX9_numberAt 13 = .ok (.aload_n 0, 1) := by decide +kernel
theorem dX9_numberAt_14 : decode cX9_numberAt 14 = .ok (.iconst 4, 1) := by decide +kernel
theorem dX9_numberAt_15 : decode cX9_numberAt 15 = .ok (.iload_n 1, 1) := by decide +kernel
theorem dX9_numberAt_16 : decode cX9_numberAt 16 = .ok (.imul, 1) := by decide +kernel
theorem dX9_numberAt_17 : decode cX9_numberAt 17 = .ok (.iload_n 3, 1) := by decide +kernel
theorem dX9_numberAt_18 : decode cX9_numberAt 18 = .ok (.iadd, 1) := by decide +kernel
theorem dX9_numberAt_19 : decode cX9_numberAt 19 = .ok (.invokevirtual 17, 3) := by decide +kernel
theorem dX9_numberAt_22 : decode cX9_numberAt 22 = .ok (.ior, 1) := by decide +kernel
theorem dX9_numberAt_23 : decode cX9_numberAt 23 = .ok (.istore_n 2, 1) := by decide +kernel
theorem dX9_numberAt_24 : decode cX9_numberAt 24 = .ok (.iinc 3 1, 3) := by decide +kernel
theorem dX9_numberAt_27 : decode cX9_numberAt 27 = .ok (.goto (-23), 3) := by decide +kernel
theorem dX9_numberAt_30 : decode cX9_numberAt 30 = .ok (.iload_n 2, 1) := by decide +kernel
theorem dX9_numberAt_31 : decode cX9_numberAt 31 = .ok (.ireturn, 1) := by decide +kernel
theorem dX10_init_0 : decode cX10_init 0 = .ok (.aload_n 0, 1) := by decide +kernel
theorem dX10_init_1 : decode cX10_init 1 = .ok (.invokespecial 3, 3) := by decide +kernel
theorem dX10_init_4 : decode cX10_init 4 = .ok (.aload_n 0, 1) := by decide +kernel
theorem dX10_init_5 : decode cX10_init 5 = .ok (.sipush 160, 3) := by decide +kernel
theorem dX10_init_8 : decode cX10_init 8 = .ok (.newarray .int, 2) := by decide +kernel
theorem dX10_init_10 : decode cX10_init 10 = .ok (.putfield 9, 3) := by decide +kernel
theorem dX10_init_13 : decode cX10_init 13 = .ok (.aload_n 0, 1) := by decide +kernel
theorem dX10_init_14 : decode cX10_init 14 = .ok (.bipush 12, 2) := by decide +kernel
theorem dX10_init_16 : decode cX10_init 16 = .ok (.newarray .int, 2) := by decide +kernel
theorem dX10_init_18 : decode cX10_init 18 = .ok (.putfield 15, 3) := by decide +kernel
theorem dX10_init_21 : decode cX10_init 21 = .ok (.aload_n 0, 1) := by decide +kernel
theorem dX10_init_22 : decode cX10_init 22 = .ok (.bipush 12, 2) := by decide +kernel
theorem dX10_init_24 : decode cX10_init 24 = .ok (.newarray .int, 2) := by decide +kernel
theorem dX10_init_26 : decode cX10_init 26 = .ok (.putfield 18, 3) := by decide +kernel
theorem dX10_init_29 : decode cX10_init 29 = .ok (.aload_n 0, 1) := by decide +kernel
theorem dX10_init_30 : decode cX10_init 30 = .ok (.bipush 12, 2) := by decide +kernel
theorem dX10_init_32 : decode cX10_init 32 = .ok (.newarray .int, 2) := by decide +kernel
theorem dX10_init_34 : decode cX10_init 34 = .ok (.putfield 21, 3) := by decide +kernel
theorem dX10_init_37 : decode cX10_init 37 = .ok (.aload_n 0, 1) := by decide +kernel
theorem dX10_init_38 : decode cX10_init 38 = .ok (.bipush 12, 2) := by decide +kernel
theorem dX10_init_40 : decode cX10_init 40 = .ok (.newarray .int, 2) := by decide +kernel
theorem dX10_init_42 : decode cX10_init 42 = .ok (.putfield 24, 3) := by decide +kernel
theorem dX10_init_45 : decode cX10_init 45 = .ok (.return_, 1) := by decide +kernel
theorem dX10_wipe_0 : decode cX10_wipe 0 = .ok (.aload_n 0, 1) := by decide +kernel
theorem dX10_wipe_1 : decode cX10_wipe 1 = .ok (.iconst 0, 1) := by decide +kernel
theorem dX10_wipe_2 : decode cX10_wipe 2 = .ok (.putfield 27, 3) := by decide +kernel
theorem dX10_wipe_5 : decode cX10_wipe 5 = .ok (.aload_n 0, 1) := by decide +kernel
theorem dX10_wipe_6 : decode cX10_wipe 6 = .ok (.iconst 0, 1) := by decide +kernel
theorem dX10_wipe_7 : decode cX10_wipe 7 = .ok (.putfield 31, 3) := by decide +kernel
theorem dX10_wipe_10 : decode cX10_wipe 10 = .ok (.return_, 1) := by decide +kernel
theorem dX10_put_0 : decode cX10_put 0 = .ok (.aload_n 0, 1) := by decide +kernel
theorem dX10_put_1 : decode cX10_put 1 = .ok (.getfield 27, 3) := by decide +kernel
theorem dX10_put_4 : decode cX10_put 4 = .ok (.aload_n 0, 1) := by decide +kernel
theorem dX10_put_5 : decode cX10_put 5 = .ok (.getfield 9, 3) := by decide +kernel
theorem dX10_put_8 : decode cX10_put 8 = .ok (.arraylength, 1) := by decide +kernel
theorem dX10_put_9 : decode cX10_put 9 = .ok (.if_icmp .lt 8, 3) := by decide +kernel
theorem dX10_put_12 : decode cX10_put 12 = .ok (.aload_n 0, 1) := by decide +kernel
theorem dX10_put_13 : decode cX10_put 13 = .ok (.getfield 27, 3) := by decide +kernel
theorem dX10_put_16 : decode cX10_put 16 = .ok (.ireturn, 1) := by decide +kernel
theorem dX10_put_17 : decode cX10_put 17 = .ok (.aload_n 0, 1) := by decide +kernel
theorem dX10_put_18 : decode cX10_put 18 = .ok (.getfield 9, 3) := by decide +kernel
theorem dX10_put_21 : decode cX10_put 21 = .ok (.aload_n 0, 1) := by decide +kernel
theorem dX10_put_22 : decode cX10_put 22 = .ok (.getfield 27, 3) := by decide +kernel
theorem dX10_put_25 : decode cX10_put 25 = .ok (.iload_n 2, 1) := by decide +kernel
theorem dX10_put_26 : decode cX10_put 26 = .ok (.bipush 8, 2) := by decide +kernel
theorem dX10_put_28 : decode cX10_put 28 = .ok (.ishl, 1) := by decide +kernel
theorem dX10_put_29 : decode cX10_put 29 = .ok (.iload_n 1, 1) := by decide +kernel
theorem dX10_put_30 : decode cX10_put 30 = .ok (.ior, 1) := by decide +kernel
theorem dX10_put_31 : decode cX10_put 31 = .ok (.iastore, 1) := by decide +kernel
theorem dX10_put_32 : decode cX10_put 32 = .ok (.aload_n 0, 1) := by decide +kernel
theorem dX10_put_33 : decode cX10_put 33 = .ok (.dup, 1) := by decide +kernel
theorem dX10_put_34 : decode cX10_put 34 = .ok (.getfield 27, 3) := by decide +kernel
theorem dX10_put_37 : decode cX10_put 37 = .ok (.iconst 1, 1) := by decide +kernel
theorem dX10_put_38 : decode cX10_put 38 = .ok (.iadd, 1) := by decide +kernel
theorem dX10_put_39 : decode cX10_put 39 = .ok (.putfield 27, 3) := by decide +kernel
theorem dX10_put_42 : decode cX10_put 42 = .ok (.aload_n 0, 1) := by decide +kernel
theorem dX10_put_43 : decode cX10_put 43 = .ok (.getfield 27, 3) := by decide +kernel
theorem dX10_put_46 : decode cX10_put 46 = .ok (.iconst 1, 1) := by decide +kernel
theorem dX10_put_47 : decode cX10_put 47 = .ok (.isub, 1) := by decide +kernel
theorem dX10_put_48 : decode cX10_put 48 = .ok (.ireturn, 1) := by decide +kernel
theorem dX10_aim_0 : decode cX10_aim 0 = .ok (.iload_n 1, 1) := by decide +kernel
theorem dX10_aim_1 : decode cX10_aim 1 = .ok (.ifCond .lt 35, 3) := by decide +kernel
theorem dX10_aim_4 : decode cX10_aim 4 = .ok (.iload_n 1, 1) := by decide +kernel
theorem dX10_aim_5 : decode cX10_aim 5 = .ok (.aload_n 0, 1) := by decide +kernel
theorem dX10_aim_6 : decode cX10_aim 6 = .ok (.getfield 27, 3) := by decide +kernel
theorem dX10_aim_9 : decode cX10_aim 9 = .ok (.if_icmp .ge 27, 3) := by decide +kernel
theorem dX10_aim_12 : decode cX10_aim 12 = .ok (.aload_n 0, 1) := by decide +kernel
theorem dX10_aim_13 : decode cX10_aim 13 = .ok (.getfield 9, 3) := by decide +kernel
theorem dX10_aim_16 : decode cX10_aim 16 = .ok (.iload_n 1, 1) := by decide +kernel
theorem dX10_aim_17 : decode cX10_aim 17 = .ok (.aload_n 0, 1) := by decide +kernel
theorem dX10_aim_18 : decode cX10_aim 18 = .ok (.getfield 27, 3) := by decide +kernel
theorem dX10_aim_21 : decode cX10_aim 21 = .ok (.bipush 8, 2) := by decide +kernel
theorem dX10_aim_23 : decode cX10_aim 23 = .ok (.ishl, 1) := by decide +kernel
theorem dX10_aim_24 : decode cX10_aim 24 = .ok (.aload_n 0, 1) := by decide +kernel
theorem dX10_aim_25 : decode cX10_aim 25 = .ok (.getfield 9, 3) := by decide +kernel
theorem dX10_aim_28 : decode cX10_aim 28 = .ok (.iload_n 1, 1) := by decide +kernel
theorem dX10_aim_29 : decode cX10_aim 29 = .ok (.iaload, 1) := by decide +kernel
theorem dX10_aim_30 : decode cX10_aim 30 = .ok (.sipush 255, 3) := by decide +kernel
theorem dX10_aim_33 : decode cX10_aim 33 = .ok (.iand, 1) := by decide +kernel
theorem dX10_aim_34 : decode cX10_aim 34 = .ok (.ior, 1) := by decide +kernel
theorem dX10_aim_35 : decode cX10_aim 35 = .ok (.iastore, 1) := by decide +kernel
theorem dX10_aim_36 : decode cX10_aim 36 = .ok (.return_, 1) := by decide +kernel
