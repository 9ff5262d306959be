theorem dX0_init_0 : decode cX0_init 0 = .ok (.aload_n 0, 1) := by decide +kernel
theorem dX0_init_1 : decode cX0_init 1 = .ok (.invokespecial 1, 3) := by decide +kernel
theorem dX0_init_4 : decode cX0_init 4 = .ok (.aload_n 0, 1) := by decide +kernel
theorem dX0_init_5 : decode cX0_init 5 = .ok (.iload_n 1, 1) := by decide +kernel
theorem dX0_init_6 : decode cX0_init 6 = .ok (.newarray .int, 2) := by decide +kernel
theorem dX0_init_8 : decode cX0_init 8 = .ok (.putfield 7, 3) := by decide +kernel
theorem dX0_init_11 : decode cX0_init 11 = .ok (.aload_n 0, 1) := by decide +kernel
theorem dX0_init_12 : decode cX0_init 12 = .ok (.iload_n 1, 1) := by decide +kernel
theorem dX0_init_13 : decode cX0_init 13 = .ok (.newarray .int, 2) := by decide +kernel
theorem dX0_init_15 : decode cX0_init 15 = .ok (.putfield 13, 3) := by decide +kernel
theorem dX0_init_18 : decode cX0_init 18 = .ok (.aload_n 0, 1) := by decide +kernel
theorem dX0_init_19 : decode cX0_init 19 = .ok (.iload_n 1, 1) := by decide +kernel
theorem dX0_init_20 : decode cX0_init 20 = .ok (.newarray .int, 2) := by decide +kernel
theorem dX0_init_22 : decode cX0_init 22 = .ok (.putfield 16, 3) := by decide +kernel
theorem dX0_init_25 : decode cX0_init 25 = .ok (.aload_n 0, 1) := by decide +kernel
theorem dX0_init_26 : decode cX0_init 26 = .ok (.iload_n 1, 1) := by decide +kernel
theorem dX0_init_27 : decode cX0_init 27 = .ok (.newarray .int, 2) := by decide +kernel
theorem dX0_init_29 : decode cX0_init 29 = .ok (.putfield 19, 3) := by decide +kernel
theorem dX0_init_32 : decode cX0_init 32 = .ok (.return_, 1) := by decide +kernel
theorem dX0_add_0 : decode cX0_add 0 = .ok (.aload_n 0, 1) := by decide +kernel
theorem dX0_add_1 : decode cX0_add 1 = .ok (.getfield 22, 3) := by decide +kernel
theorem dX0_add_4 : decode cX0_add 4 = .ok (.aload_n 0, 1) := by decide +kernel
theorem dX0_add_5 : decode cX0_add 5 = .ok (.getfield 7, 3) := by decide +kernel
theorem dX0_add_8 : decode cX0_add 8 = .ok (.arraylength, 1) := by decide +kernel
theorem dX0_add_9 : decode cX0_add 9 = .ok (.if_icmp .ge 54, 3) := by decide +kernel
theorem dX0_add_12 : decode cX0_add 12 = .ok (.aload_n 0, 1) := by decide +kernel
theorem dX0_add_13 : decode cX0_add 13 = .ok (.getfield 7, 3) := by decide +kernel
theorem dX0_add_16 : decode cX0_add 16 = .ok (.aload_n 0, 1) := by decide +kernel
theorem dX0_add_17 : decode cX0_add 17 = .ok (.getfield 22, 3) := by decide +kernel
theorem dX0_add_20 : decode cX0_add 20 = .ok (.iload_n 1, 1) := by decide +kernel
theorem dX0_add_21 : decode cX0_add 21 = .ok (.iastore, 1) := by decide +kernel
theorem dX0_add_22 : decode cX0_add 22 = .ok (.aload_n 0, 1) := by decide +kernel
theorem dX0_add_23 : decode cX0_add 23 = .ok (.getfield 13, 3) := by decide +kernel
theorem dX0_add_26 : decode cX0_add 26 = .ok (.aload_n 0, 1) := by decide +kernel
theorem dX0_add_27 : decode cX0_add 27 = .ok (.getfield 22, 3) := by decide +kernel
theorem dX0_add_30 : decode cX0_add 30 = .ok (.iload_n 2, 1) := by decide +kernel
theorem dX0_add_31 : decode cX0_add 31 = .ok (.iastore, 1) := by decide +kernel
theorem dX0_add_32 : decode cX0_add 32 = .ok (.aload_n 0, 1) := by decide +kernel
theorem dX0_add_33 : decode cX0_add 33 = .ok (.getfield 16, 3) := by decide +kernel
theorem dX0_add_36 : decode cX0_add 36 = .ok (.aload_n 0, 1) := by decide +kernel
theorem dX0_add_37 : decode cX0_add 37 = .ok (.getfield 22, 3) := by decide +kernel
theorem dX0_add_40 : decode cX0_add 40 = .ok (.iload_n 3, 1) := by decide +kernel
theorem dX0_add_41 : decode cX0_add 41 = .ok (.iastore, 1) := by decide +kernel
theorem dX0_add_42 : decode cX0_add 42 = .ok (.aload_n 0, 1) := by decide +kernel
theorem dX0_add_43 : decode cX0_add 43 = .ok (.getfield 19, 3) := by decide +kernel
theorem dX0_add_46 : decode cX0_add 46 = .ok (.aload_n 0, 1) := by decide +kernel
theorem dX0_add_47 : decode cX0_add 47 = .ok (.getfield 22, 3) := by decide +kernel
theorem dX0_add_50 : decode cX0_add 50 = .ok (.iload 4, 2) := by decide +kernel
theorem dX0_add_52 : decode cX0_add 52 = .ok (.iastore, 1) := by decide +kernel
theorem dX0_add_53 : decode cX0_add 53 = .ok (.aload_n 0, 1) := by decide +kernel
theorem dX0_add_54 : decode cX0_add 54 = .ok (.dup, 1) := by decide +kernel
theorem dX0_add_55 : decode cX0_add 55 = .ok (.getfield 22, 3) := by decide +kernel
theorem dX0_add_58 : decode cX0_add 58 = .ok (.iconst 1, 1) := by decide +kernel
theorem dX0_add_59 : decode cX0_add 59 = .ok (.iadd, 1) := by decide +kernel
theorem dX0_add_60 : decode cX0_add 60 = .ok (.putfield 22, 3) := by decide +kernel
theorem dX0_add_63 : decode cX0_add 63 = .ok (.return_, 1) := by decide +kernel
theorem dX1_init_0 : decode cX1_init 0 = .ok (.aload_n 0, 1) := by decide +kernel
theorem dX1_init_1 : decode cX1_init 1 = .ok (.invokespecial 3, 3) := by decide +kernel
theorem dX1_init_4 : decode cX1_init 4 = .ok (.aload_n 0, 1) := by decide +kernel
theorem dX1_init_5 : decode cX1_init 5 = .ok (.bipush 6, 2) := by decide +kernel
theorem dX1_init_7 : decode cX1_init 7 = .ok (.sipush 180, 3) := by decide +kernel
theorem dX1_init_10 : decode cX1_init 10 = .ok (.multianewarray 9 2, 4) := by decide +kernel
theorem dX1_init_14 : decode cX1_init 14 = .ok (.putfield 11, 3) := by decide +kernel
theorem dX1_init_17 : decode cX1_init 17 = .ok (.return_, 1) := by decide +kernel
theorem dX1_add_0 : decode cX1_add 0 = .ok (.aload_n 0, 1) := by decide +kernel
theorem dX1_add_1 : decode cX1_add 1 = .ok (.getfield 16, 3) := by decide +kernel
theorem dX1_add_4 : decode cX1_add 4 = .ok (.sipush 180, 3) := by decide +kernel
theorem dX1_add_7 : decode cX1_add 7 = .ok (.if_icmp .ge 88, 3) := by decide +kernel
theorem dX1_add_10 : decode cX1_add 10 = .ok (.aload_n 0, 1) := by decide +kernel
theorem dX1_add_11 : decode cX1_add 11 = .ok (.getfield 11, 3) := by decide +kernel
theorem dX1_add_14 : decode cX1_add 14 = .ok (.iconst 0, 1) := by decide +kernel
theorem dX1_add_15 : decode cX1_add 15 = .ok (.aaload, 1) := by decide +kernel
theorem dX1_add_16 : decode cX1_add 16 = .ok (.aload_n 0, 1) := by decide +kernel
theorem dX1_add_17 : decode cX1_add 17 = .ok (.getfield 16, 3) := by decide +kernel
theorem dX1_add_20 : decode cX1_add 20 = .ok (.iload_n 1, 1) := by decide +kernel
theorem dX1_add_21 : decode cX1_add 21 = .ok (.iastore, 1) := by decide +kernel
theorem dX1_add_22 : decode cX1_add 22 = .ok (.aload_n 0, 1) := by decide +kernel
theorem dX1_add_23 : decode cX1_add 23 = .ok (.getfield 11, 3) := by decide +kernel
theorem dX1_add_26 : decode cX1_add 26 = .ok (.iconst 1, 1) := by decide +kernel
theorem dX1_add_27 : decode cX1_add 27 = .ok (.aaload, 1) := by decide +kernel
theorem dX1_add_28 : decode cX1_add 28 = .ok (.aload_n 0, 1) := by decide +kernel
theorem dX1_add_29 : decode cX1_add 29 = .ok (.getfield 16, 3) := by decide +kernel
theorem dX1_add_32 : decode cX1_add 32 = .ok (.iload_n 2, 1) := by decide +kernel
theorem dX1_add_33 : decode cX1_add 33 = .ok (.iastore, 1) := by decide +kernel
theorem dX1_add_34 : decode cX1_add 34 = .ok (.aload_n 0, 1) := by decide +kernel
theorem dX1_add_35 : decode cX1_add 35 = .ok (.getfield 11, 3) := by decide +kernel
theorem dX1_add_38 : decode cX1_add 38 = .ok (.iconst 2, 1) := by decide +kernel
theorem dX1_add_39 : decode cX1_add 39 = .ok (.aaload, 1) := by decide +kernel
theorem dX1_add_40 : decode cX1_add 40 = .ok (.aload_n 0, 1) := by decide +kernel
theorem dX1_add_41 : decode cX1_add 41 = .ok (.getfield 16, 3) := by decide +kernel
theorem dX1_add_44 : decode cX1_add 44 = .ok (.iload_n 3, 1) := by decide +kernel
theorem dX1_add_45 : decode cX1_add 45 = .ok (.iastore, 1) := by decide +kernel
theorem dX1_add_46 : decode cX1_add 46 = .ok (.aload_n 0, 1) := by decide +kernel
theorem dX1_add_47 : decode cX1_add 47 = .ok (.getfield 11, 3) := by decide +kernel
theorem dX1_add_50 : decode cX1_add 50 = .ok (.iconst 3, 1) := by decide +kernel
theorem dX1_add_51 : decode cX1_add 51 = .ok (.aaload, 1) := by decide +kernel
theorem dX1_add_52 : decode cX1_add 52 = .ok (.aload_n 0, 1) := by decide +kernel
theorem dX1_add_53 : decode cX1_add 53 = .ok (.getfield 16, 3) := by decide +kernel
theorem dX1_add_56 : decode cX1_add 56 = .ok (.iload 4, 2) := by decide +kernel
theorem dX1_add_58 : decode cX1_add 58 = .ok (.iastore, 1) := by decide +kernel
theorem dX1_add_59 : decode cX1_add 59 = .ok (.aload_n 0, 1) := by decide +kernel
theorem dX1_add_60 : decode cX1_add 60 = .ok (.getfield 11, 3) := by decide +kernel
theorem dX1_add_63 : decode cX1_add 63 = .ok (.iconst 4, 1) := by decide +kernel
theorem dX1_add_64 : decode cX1_add 64 = .ok (.aaload, 1) := by decide +kernel
theorem dX1_add_65 : decode cX1_add 65 = .ok (.aload_n 0, 1) := by decide +kernel
theorem dX1_add_66 : decode cX1_add 66 = .ok (.getfield 16, 3) := by decide +kernel
theorem dX1_add_69 : decode cX1_add 69 = .ok (.iload 5, 2) := by decide +kernel
theorem dX1_add_71 : decode cX1_add 71 = .ok (.iastore, 1) := by decide +kernel
theorem dX1_add_72 : decode cX1_add 72 = .ok (.aload_n 0, 1) := by decide +kernel
theorem dX1_add_73 : decode cX1_add 73 = .ok (.getfield 11, 3) := by decide +kernel
theorem dX1_add_76 : decode cX1_add 76 = .ok (.iconst 5, 1) := by decide +kernel
theorem dX1_add_77 : decode cX1_add 77 = .ok (.aaload, 1) := by decide +kernel
theorem dX1_add_78 : decode cX1_add 78 = .ok (.aload_n 0, 1) := by decide +kernel
theorem dX1_add_79 : decode cX1_add 79 = .ok (.getfield 16, 3) := by decide +kernel
theorem dX1_add_82 : decode cX1_add 82 = .ok (.iload 6, 2) := by decide +kernel
theorem dX1_add_84 : decode cX1_add 84 = .ok (.iastore, 1) := by decide +kernel
theorem dX1_add_85 : decode cX1_add 85 = .ok (.aload_n 0, 1) := by decide +kernel
theorem dX1_add_86 : decode cX1_add 86 = .ok (.dup, 1) := by decide +kernel
theorem dX1_add_87 : decode cX1_add 87 = .ok (.getfield 16, 3) := by decide +kernel
theorem dX1_add_90 : decode cX1_add 90 = .ok (.iconst 1, 1) := by decide +kernel
theorem dX1_add_91 : decode cX1_add 91 = .ok (.iadd, 1) := by decide +kernel
theorem dX1_add_92 : decode cX1_add 92 = .ok (.putfield 16, 3) := by decide +kernel
theorem dX1_add_95 : decode cX1_add 95 = .ok (.return_, 1) := by decide +kernel
theorem dX2_init_0 : decode cX2_init 0 = .ok (.aload_n 0, 1) := by decide +kernel
theorem dX2_init_1 : decode cX2_init 1 = .ok (.invokespecial 3, 3) := by decide +kernel
theorem dX2_init_4 : decode cX2_init 4 = .ok (.aload_n 0, 1) := by decide +kernel
theorem dX2_init_5 : decode cX2_init 5 = .ok (.bipush 6, 2) := by decide +kernel
theorem dX2_init_7 : decode cX2_init 7 = .ok (.newarray .int, 2) := by decide +kernel
theorem dX2_init_9 : decode cX2_init 9 = .ok (.putfield 9, 3) := by decide +kernel
theorem dX2_init_12 : decode cX2_init 12 = .ok (.aload_n 0, 1) := by decide +kernel
theorem dX2_init_13 : decode cX2_init 13 = .ok (.bipush 6, 2) := by decide +kernel
theorem dX2_init_15 : decode cX2_init 15 = .ok (.newarray .int, 2) := by decide +kernel
theorem dX2_init_17 : decode cX2_init 17 = .ok (.putfield 15, 3) := by decide +kernel
theorem dX2_init_20 : decode cX2_init 20 = .ok (.aload_n 0, 1) := by decide +kernel
theorem dX2_init_21 : decode cX2_init 21 = .ok (.bipush 6, 2) := by decide +kernel
theorem dX2_init_23 : decode cX2_init 23 = .ok (.newarray .int, 2) := by decide +kernel
theorem dX2_init_25 : decode cX2_init 25 = .ok (.putfield 18, 3) := by decide +kernel
theorem dX2_init_28 : decode cX2_init 28 = .ok (.aload_n 0, 1) := by decide +kernel
theorem dX2_init_29 : decode cX2_init 29 = .ok (.bipush 6, 2) := by decide +kernel
theorem dX2_init_31 : decode cX2_init 31 = .ok (.newarray .int, 2) := by decide +kernel
theorem dX2_init_33 : decode cX2_init 33 = .ok (.putfield 21, 3) := by decide +kernel
theorem dX2_init_36 : decode cX2_init 36 = .ok (.return_, 1) := by decide +kernel
theorem dX2_has_0 : decode cX2_has 0 = .ok (.iload_n 1, 1) := by decide +kernel
theorem dX2_has_1 : decode cX2_has 1 = .ok (.ifCond .lt 15, 3) := by decide +kernel
theorem dX2_has_4 : decode cX2_has 4 = .ok (.iload_n 1, 1) := by decide +kernel
theorem dX2_has_5 : decode cX2_has 5 = .ok (.aload_n 0, 1) := by decide +kernel
theorem dX2_has_6 : decode cX2_has 6 = .ok (.getfield 24, 3) := by decide +kernel
theorem dX2_has_9 : decode cX2_has 9 = .ok (.if_icmp .ge 7, 3) := by decide +kernel
theorem dX2_has_12 : decode cX2_has 12 = .ok (.iconst 1, 1) := by decide +kernel
theorem dX2_has_13 : decode cX2_has 13 = .ok (.goto 4, 3) := by decide +kernel
theorem dX2_has_16 : decode cX2_has 16 = .ok (.iconst 0, 1) := by decide +kernel
theorem dX2_has_17 : decode cX2_has 17 = .ok (.ireturn, 1) := by decide +kernel
theorem dX2_hasTwo_0 : decode cX2_hasTwo 0 = .ok (.aload_n 0, 1) := by decide +kernel
theorem dX2_hasTwo_1 : decode cX2_hasTwo 1 = .ok (.iload_n 1, 1) := by decide +kernel
theorem dX2_hasTwo_2 : decode cX2_hasTwo 2 = .ok (.invokevirtual 28, 3) := by decide +kernel
theorem dX2_hasTwo_5 : decode cX2_hasTwo 5 = .ok (.ifCond .eq 20, 3) := by decide +kernel
theorem dX2_hasTwo_8 : decode cX2_hasTwo 8 = .ok (.aload_n 0, 1) := by decide +kernel
theorem dX2_hasTwo_9 : decode cX2_hasTwo 9 = .ok (.iload_n 2, 1) := by decide +kernel
theorem dX2_hasTwo_10 : decode cX2_hasTwo 10 = .ok (.invokevirtual 28, 3) := by decide +kernel
theorem dX2_hasTwo_13 : decode cX2_hasTwo 13 = .ok (.ifCond .eq 12, 3) := by decide +kernel
theorem dX2_hasTwo_16 : decode cX2_hasTwo 16 = .ok (.iload_n 1, 1) := by decide +kernel
theorem dX2_hasTwo_17 : decode cX2_hasTwo 17 = .ok (.iload_n 2, 1) := by decide +kernel
theorem dX2_hasTwo_18 : decode cX2_hasTwo 18 = .ok (.if_icmp .eq 7, 3) := by decide +kernel
theorem dX2_hasTwo_21 : decode cX2_hasTwo 21 = .ok (.iconst 1, 1) := by decide +kernel
theorem dX2_hasTwo_22 : decode cX2_hasTwo 22 = .ok (.goto 4, 3) := by decide +kernel
theorem dX2_hasTwo_25 : decode cX2_hasTwo 25 = .ok (.iconst 0, 1) := by decide +kernel
theorem dX2_hasTwo_26 : decode cX2_hasTwo 26 = .ok (.ireturn, 1) := by decide +kernel
theorem dX2_touchiness_0 : decode cX2_touchiness 0 = .ok (.bipush 10, 2) := by decide +kernel
theorem dX2_touchiness_2 : decode cX2_touchiness 2 = .ok (.aload_n 0, 1) := by decide +kernel
theorem dX2_touchiness_3 : decode cX2_touchiness 3 = .ok (.getfield 15, 3) := by decide +kernel
theorem dX2_touchiness_6 : decode cX2_touchiness 6 = .ok (.iload_n 1, 1) := by decide +kernel
theorem dX2_touchiness_7 : decode cX2_touchiness 7 = .ok (.iaload, 1) := by decide +kernel
theorem dX2_touchiness_8 : decode cX2_touchiness 8 = .ok (.isub, 1) := by decide +kernel
theorem dX2_touchiness_9 : decode cX2_touchiness 9 = .ok (.istore_n 2, 1) := by decide +kernel
theorem dX2_touchiness_10 : decode cX2_touchiness 10 = .ok (.iconst 1, 1) := by decide +kernel
theorem dX2_touchiness_11 : decode cX2_touchiness 11 = .ok (.iload_n 2, 1) := by decide +kernel
theorem dX2_touchiness_12 : decode cX2_touchiness 12 = .ok (.iconst 2, 1) := by decide +kernel
theorem dX2_touchiness_13 : decode cX2_touchiness 13 = .ok (.isub, 1) := by decide +kernel
theorem dX2_touchiness_14 : decode cX2_touchiness 14 = .ok (.invokestatic 32, 3) := by decide +kernel
theorem dX2_touchiness_17 : decode cX2_touchiness 17 = .ok (.istore_n 3, 1) := by decide +kernel
theorem dX2_touchiness_18 : decode cX2_touchiness 18 = .ok (.aload_n 0, 1) := by decide +kernel
theorem dX2_touchiness_19 : decode cX2_touchiness 19 = .ok (.getfield 9, 3) := by decide +kernel
theorem dX2_touchiness_22 : decode cX2_touchiness 22 = .ok (.iload_n 1, 1) := by decide +kernel
theorem dX2_touchiness_23 : decode cX2_touchiness 23 = .ok (.iaload, 1) := by decide +kernel
theorem dX2_touchiness_24 : decode cX2_touchiness 24 = .ok (.lookupswitch 38 #[(1, 36), (2, 28)], 28) := by decide +kernel
theorem dX2_touchiness_52 : decode cX2_touchiness 52 = .ok (.iconst 1, 1) := by decide +kernel
theorem dX2_touchiness_53 : decode cX2_touchiness 53 = .ok (.iload_n 3, 1) := by decide +kernel
theorem dX2_touchiness_54 : decode cX2_touchiness 54 = .ok (.iconst 1, 1) := by decide +kernel
theorem dX2_touchiness_55 : decode cX2_touchiness 55 = .ok (.isub, 1) := by decide +kernel
theorem dX2_touchiness_56 : decode cX2_touchiness 56 = .ok (.invokestatic 32, 3) := by decide +kernel
theorem dX2_touchiness_59 : decode cX2_touchiness 59 = .ok (.ireturn, 1) := by decide +kernel
theorem dX2_touchiness_60 : decode cX2_touchiness 60 = .ok (.iload_n 3, 1) := by decide +kernel
theorem dX2_touchiness_61 : decode cX2_touchiness 61 = .ok (.ireturn, 1) := by decide +kernel
theorem dX2_touchiness_62 : decode cX2_touchiness 62 = .ok (.iload_n 2, 1) := by decide +kernel
theorem dX2_touchiness_63 : decode cX2_touchiness 63 = .ok (.ireturn, 1) := by decide +kernel
theorem dX2_secondAmong_0 : decode cX2_secondAmong 0 = .ok (.aload_n 0, 1) := by decide +kernel
theorem dX2_secondAmong_1 : decode cX2_secondAmong 1 = .ok (.getfield 18, 3) := by decide +kernel
theorem dX2_secondAmong_4 : decode cX2_secondAmong 4 = .ok (.iload_n 1, 1) := by decide +kernel
theorem dX2_secondAmong_5 : decode cX2_secondAmong 5 = .ok (.iaload, 1) := by decide +kernel
theorem dX2_secondAmong_6 : decode cX2_secondAmong 6 = .ok (.istore_n 3, 1) := by decide +kernel
theorem dX2_secondAmong_7 : decode cX2_secondAmong 7 = .ok (.aload_n 0, 1) := by decide +kernel
theorem dX2_secondAmong_8 : decode cX2_secondAmong 8 = .ok (.getfield 21, 3) := by decide +kernel
theorem dX2_secondAmong_11 : decode cX2_secondAmong 11 = .ok (.iload_n 1, 1) := by decide +kernel
theorem dX2_secondAmong_12 : decode cX2_secondAmong 12 = .ok (.iaload, 1) := by decide +kernel
theorem dX2_secondAmong_13 : decode cX2_secondAmong 13 = .ok (.istore 4, 2) := by decide +kernel
theorem dX2_secondAmong_15 : decode cX2_secondAmong 15 = .ok (.iload_n 2, 1) := by decide +kernel
theorem dX2_secondAmong_16 : decode cX2_secondAmong 16 = .ok (.iload_n 3, 1) := by decide +kernel
theorem dX2_secondAmong_17 : decode cX2_secondAmong 17 = .ok (.invokestatic 38, 3) := by decide +kernel
theorem dX2_secondAmong_20 : decode cX2_secondAmong 20 = .ok (.ifCond .eq 5, 3) := by decide +kernel
theorem dX2_secondAmong_23 : decode cX2_secondAmong 23 = .ok (.iload_n 3, 1) := by decide +kernel
theorem dX2_secondAmong_24 : decode cX2_secondAmong 24 = .ok (.ireturn, 1) := by decide +kernel
theorem dX2_secondAmong_25 : decode cX2_secondAmong 25 = .ok (.iload_n 2, 1) := by decide +kernel
theorem dX2_secondAmong_26 : decode cX2_secondAmong 26 = .ok (.iload 4, 2) := by decide +kernel
theorem dX2_secondAmong_28 : decode cX2_secondAmong 28 = .ok (.invokestatic 38, 3) := by decide +kernel
theorem dX2_secondAmong_31 : decode cX2_secondAmong 31 = .ok (.ifCond .eq 6, 3) := by decide +kernel
theorem dX2_secondAmong_34 : decode cX2_secondAmong 34 = .ok (.iload 4, 2) := by decide +kernel
theorem dX2_secondAmong_36 : decode cX2_secondAmong 36 = .ok (.ireturn, 1) := by decide +kernel
theorem dX2_secondAmong_37 : decode cX2_secondAmong 37 = .ok (.iload_n 2, 1) := by decide +kernel
theorem dX2_secondAmong_38 : decode cX2_secondAmong 38 = .ok (.aload_n 0, 1) := by decide +kernel
theorem dX2_secondAmong_39 : decode cX2_secondAmong 39 = .ok (.getfield 18, 3) := by decide +kernel
theorem dX2_secondAmong_42 : decode cX2_secondAmong 42 = .ok (.iload_n 3, 1) := by decide +kernel
theorem dX2_secondAmong_43 : decode cX2_secondAmong 43 = .ok (.iaload, 1) := by decide +kernel
theorem dX2_secondAmong_44 : decode cX2_secondAmong 44 = .ok (.invokestatic 38, 3) := by decide +kernel
theorem dX2_secondAmong_47 : decode cX2_secondAmong 47 = .ok (.ifCond .eq 10, 3) := by decide +kernel
theorem dX2_secondAmong_50 : decode cX2_secondAmong 50 = .ok (.aload_n 0, 1) := by decide +kernel
theorem dX2_secondAmong_51 : decode cX2_secondAmong 51 = .ok (.getfield 18, 3) := by decide +kernel
theorem dX2_secondAmong_54 : decode cX2_secondAmong 54 = .ok (.iload_n 3, 1) := by decide +kernel
theorem dX2_secondAmong_55 : decode cX2_secondAmong 55 = .ok (.iaload, 1) := by decide +kernel
theorem dX2_secondAmong_56 : decode cX2_secondAmong 56 = .ok (.ireturn, 1) := by decide +kernel
theorem dX2_secondAmong_57 : decode cX2_secondAmong 57 = .ok (.iload_n 2, 1) := by decide +kernel
theorem dX2_secondAmong_58 : decode cX2_secondAmong 58 = .ok (.aload_n 0, 1) := by decide +kernel
theorem dX2_secondAmong_59 : decode cX2_secondAmong 59 = .ok (.getfield 21, 3) := by decide +kernel
theorem dX2_secondAmong_62 : decode cX2_secondAmong 62 = .ok (.iload_n 3, 1) := by decide +kernel
theorem dX2_secondAmong_63 : decode cX2_secondAmong 63 = .ok (.iaload, 1) := by decide +kernel
theorem dX2_secondAmong_64 : decode cX2_secondAmong 64 = .ok (.invokestatic 38, 3) := by decide +kernel
theorem dX2_secondAmong_67 : decode cX2_secondAmong 67 = .ok (.ifCond .eq 10, 3) := by decide +kernel
theorem dX2_secondAmong_70 : decode cX2_secondAmong 70 = .ok (.aload_n 0, 1) := by decide +kernel
theorem dX2_secondAmong_71 : decode cX2_secondAmong 71 = .ok (.getfield 21, 3) := by decide +kernel
theorem dX2_secondAmong_74 : decode cX2_secondAmong 74 = .ok (.iload_n 3, 1) := by decide +kernel
theorem dX2_secondAmong_75 : decode cX2_secondAmong 75 = .ok (.iaload, 1) := by decide +kernel
theorem dX2_secondAmong_76 : decode cX2_secondAmong 76 = .ok (.ireturn, 1) := by decide +kernel
theorem dX2_secondAmong_77 : decode cX2_secondAmong 77 = .ok (.iload_n 2, 1) := by decide +kernel
theorem dX2_secondAmong_78 : decode cX2_secondAmong 78 = .ok (.aload_n 0, 1) := by decide +kernel
theorem dX2_secondAmong_79 : decode cX2_secondAmong 79 = .ok (.getfield 18, 3) := by decide +kernel
theorem dX2_secondAmong_82 : decode cX2_secondAmong 82 = .ok (.iload 4, 2) := by decide +kernel
theorem dX2_secondAmong_84 : decode cX2_secondAmong 84 = .ok (.iaload, 1) := by decide +kernel
theorem dX2_secondAmong_85 : decode cX2_secondAmong 85 = .ok (.invokestatic 38, 3) := by decide +kernel
theorem dX2_secondAmong_88 : decode cX2_secondAmong 88 = .ok (.ifCond .eq 11, 3) := by decide +kernel
theorem dX2_secondAmong_91 : decode cX2_secondAmong 91 = .ok (.aload_n 0, 1) := by decide +kernel
theorem dX2_secondAmong_92 : decode cX2_secondAmong 92 = .ok (.getfield 18, 3) := by decide +kernel
theorem dX2_secondAmong_95 : decode cX2_secondAmong 95 = .ok (.iload 4, 2) := by decide +kernel
theorem dX2_secondAmong_97 : decode cX2_secondAmong 97 = .ok (.iaload, 1) := by decide +kernel
theorem dX2_secondAmong_98 : decode cX2_secondAmong 98 = .ok (.ireturn, 1) := by decide +kernel
theorem dX2_secondAmong_99 : decode cX2_secondAmong 99 = .ok (.iload_n 2, 1) := by decide +kernel
theorem dX2_secondAmong_100 : decode cX2_secondAmong 100 = .ok (.aload_n 0, 1) := by decide +kernel
theorem dX2_secondAmong_101 : decode cX2_secondAmong 101 = .ok (.getfield 21, 3) := by decide +kernel
theorem dX2_secondAmong_104 : decode cX2_secondAmong 104 = .ok (.iload 4, 2) := by decide +kernel
theorem dX2_secondAmong_106 : decode cX2_secondAmong 106 = .ok (.iaload, 1) := by decide +kernel
theorem dX2_secondAmong_107 : decode cX2_secondAmong 107 = .ok (.invokestatic 38, 3) := by decide +kernel
theorem dX2_secondAmong_110 : decode cX2_secondAmong 110 = .ok (.ifCond .eq 13, 3) := by decide +kernel
theorem dX2_secondAmong_113 : decode cX2_secondAmong 113 = .ok (.aload_n 0, 1) := by decide +kernel
theorem dX2_secondAmong_114 : decode cX2_secondAmong 114 = .ok (.getfield 21, 3) := by decide +kernel
theorem dX2_secondAmong_117 : decode cX2_secondAmong 117 = .ok (.iload 4, 2) := by decide +kernel
theorem dX2_secondAmong_119 : decode cX2_secondAmong 119 = .ok (.iaload, 1) := by decide +kernel
theorem dX2_secondAmong_120 : decode cX2_secondAmong 120 = .ok (.goto 5, 3) := by decide +kernel
theorem dX2_secondAmong_123 : decode cX2_secondAmong 123 = .ok (.bipush (-9), 2) := by decide +kernel
theorem dX2_secondAmong_125 : decode cX2_secondAmong 125 = .ok (.ireturn, 1) := by decide +kernel
theorem dX3_init_0 : decode cX3_init 0 = .ok (.aload_n 0, 1) := by decide +kernel
theorem dX3_init_1 : decode cX3_init 1 = .ok (.invokespecial 3, 3) := by decide +kernel
theorem dX3_init_4 : decode cX3_init 4 = .ok (.aload_n 0, 1) := by decide +kernel
theorem dX3_init_5 : decode cX3_init 5 = .ok (.bipush 8, 2) := by decide +kernel
theorem dX3_init_7 : decode cX3_init 7 = .ok (.newarray .int, 2) := by decide +kernel
theorem dX3_init_9 : decode cX3_init 9 = .ok (.putfield 9, 3) := by decide +kernel
theorem dX3_init_12 : decode cX3_init 12 = .ok (.aload_n 0, 1) := by decide +kernel
theorem dX3_init_13 : decode cX3_init 13 = .ok (.bipush 8, 2) := by decide +kernel
theorem dX3_init_15 : decode cX3_init 15 = .ok (.newarray .int, 2) := by decide +kernel
theorem dX3_init_17 : decode cX3_init 17 = .ok (.putfield 15, 3) := by decide +kernel
theorem dX3_init_20 : decode cX3_init 20 = .ok (.aload_n 0, 1) := by decide +kernel
theorem dX3_init_21 : decode cX3_init 21 = .ok (.bipush 8, 2) := by decide +kernel
theorem dX3_init_23 : decode cX3_init 23 = .ok (.newarray .boolean, 2) := by decide +kernel
theorem dX3_init_25 : decode cX3_init 25 = .ok (.putfield 18, 3) := by decide +kernel
theorem dX3_init_28 : decode cX3_init 28 = .ok (.return_, 1) := by decide +kernel
theorem dX4_init_0 : decode cX4_init 0 = .ok (.aload_n 0, 1) := by decide +kernel
theorem dX4_init_1 : decode cX4_init 1 = .ok (.invokespecial 3, 3) := by decide +kernel
theorem dX4_init_4 : decode cX4_init 4 = .ok (.aload_n 0, 1) := by decide +kernel
theorem dX4_init_5 : decode cX4_init 5 = .ok (.new 9, 3) := by decide +kernel
theorem dX4_init_8 : decode cX4_init 8 = .ok (.dup, 1) := by decide +kernel
theorem dX4_init_9 : decode cX4_init 9 = .ok (.invokespecial 11, 3) := by decide +kernel
theorem dX4_init_12 : decode cX4_init 12 = .ok (.putfield 12, 3) := by decide +kernel
theorem dX4_init_15 : decode cX4_init 15 = .ok (.aload_n 0, 1) := by decide +kernel
theorem dX4_init_16 : decode cX4_init 16 = .ok (.new 18, 3) := by decide +kernel
theorem dX4_init_19 : decode cX4_init 19 = .ok (.dup, 1) := by decide +kernel
theorem dX4_init_20 : decode cX4_init 20 = .ok (.sipush 180, 3) := by decide +kernel
theorem dX4_init_23 : decode cX4_init 23 = .ok (.invokespecial 20, 3) := by decide +kernel
theorem dX4_init_26 : decode cX4_init 26 = .ok (.putfield 23, 3) := by decide +kernel
theorem dX4_init_29 : decode cX4_init 29 = .ok (.aload_n 0, 1) := by decide +kernel
theorem dX4_init_30 : decode cX4_init 30 = .ok (.bipush 6, 2) := by decide +kernel
theorem dX4_init_32 : decode cX4_init 32 = .ok (.newarray .int, 2) := by decide +kernel
theorem dX4_init_34 : decode cX4_init 34 = .ok (.putfield 27, 3) := by decide +kernel
theorem dX4_init_37 : decode cX4_init 37 = .ok (.aload_n 0, 1) := by decide +kernel
theorem dX4_init_38 : decode cX4_init 38 = .ok (.aload_n 1, 1) := by decide +kernel
theorem dX4_init_39 : decode cX4_init 39 = .ok (.putfield 31, 3) := by decide +kernel
theorem dX4_init_42 : decode cX4_init 42 = .ok (.aload_n 0, 1) := by decide +kernel
theorem dX4_init_43 : decode cX4_init 43 = .ok (.aload_n 2, 1) := by decide +kernel
theorem dX4_init_44 : decode cX4_init 44 = .ok (.putfield 35, 3) := by decide +kernel
theorem dX4_init_47 : decode cX4_init 47 = .ok (.return_, 1) := by decide +kernel
theorem dX4_live_0 : decode cX4_live 0 = .ok (.aload_n 0, 1) := by decide +kernel
theorem dX4_live_1 : decode cX4_live 1 = .ok (.iload_n 1, 1) := by decide +kernel
theorem dX4_live_2 : decode cX4_live 2 = .ok (.iload_n 2, 1) := by decide +kernel
theorem dX4_live_3 : decode cX4_live 3 = .ok (.invokevirtual 38, 3) := by decide +kernel
theorem dX4_live_6 : decode cX4_live 6 = .ok (.iconst 0, 1) := by decide +kernel
theorem dX4_live_7 : decode cX4_live 7 = .ok (.istore 4, 2) := by decide +kernel
theorem dX4_live_9 : decode cX4_live 9 = .ok (.iload 4, 2) := by decide +kernel
theorem dX4_live_11 : decode cX4_live 11 = .ok (.iload_n 3, 1) := by decide +kernel
theorem dX4_live_12 : decode cX4_live 12 = .ok (.if_icmp .gt 15, 3) := by decide +kernel
theorem dX4_live_15 : decode cX4_live 15 = .ok (.aload_n 0, 1) := by decide +kernel
theorem dX4_live_16 : decode cX4_live 16 = .ok (.iload 4, 2) := by decide +kernel
theorem dX4_live_18 : decode cX4_live 18 = .ok (.invokevirtual 42, 3) := by decide +kernel
theorem dX4_live_21 : decode cX4_live 21 = .ok (.iinc 4 1, 3) := by decide +kernel
theorem dX4_live_24 : decode cX4_live 24 = .ok (.goto (-15), 3) := by decide +kernel
theorem dX4_live_27 : decode cX4_live 27 = .ok (.return_, 1) := by decide +kernel
theorem dX4_begin_0 : decode cX4_begin 0 = .ok (.aload_n 0, 1) := by decide +kernel
theorem dX4_begin_1 : decode cX4_begin 1 = .ok (.iload_n 1, 1) := by decide +kernel
theorem dX4_begin_2 : decode cX4_begin 2 = .ok (.putfield 45, 3) := by decide +kernel
theorem dX4_begin_5 : decode cX4_begin 5 = .ok (.aload_n 0, 1) := by decide +kernel
theorem dX4_begin_6 : decode cX4_begin 6 = .ok (.iload_n 2, 1) := by decide +kernel
theorem dX4_begin_7 : decode cX4_begin 7 = .ok (.putfield 49, 3) := by decide +kernel
theorem dX4_begin_10 : decode cX4_begin 10 = .ok (.aload_n 0, 1) := by decide +kernel
theorem dX4_begin_11 : decode cX4_begin 11 = .ok (.lconst 0, 1) := by decide +kernel
theorem dX4_begin_12 : decode cX4_begin 12 = .ok (.putfield 52, 3) := by decide +kernel
theorem dX4_begin_15 : decode cX4_begin 15 = .ok (.iconst 0, 1) := by decide +kernel
theorem dX4_begin_16 : decode cX4_begin 16 = .ok (.istore_n 3, 1) := by decide +kernel
theorem dX4_begin_17 : decode cX4_begin 17 = .ok (.iload_n 3, 1) := by decide +kernel
theorem dX4_begin_18 : decode cX4_begin 18 = .ok (.aload_n 0, 1) := by decide +kernel
theorem dX4_begin_19 : decode cX4_begin 19 = .ok (.getfield 35, 3) := by decide +kernel
theorem dX4_begin_22 : decode cX4_begin 22 = .ok (.getfield 56, 3) := by decide +kernel
theorem dX4_begin_25 : decode cX4_begin 25 = .ok (.if_icmp .ge 40, 3) := by decide +kernel
theorem dX4_begin_28 : decode cX4_begin 28 = .ok (.aload_n 0, 1) := by decide +kernel
theorem dX4_begin_29 : decode cX4_begin 29 = .ok (.getfield 45, 3) := by decide +kernel
theorem dX4_begin_32 : decode cX4_begin 32 = .ok (.iload_n 3, 1) := by decide +kernel
theorem dX4_begin_33 : decode cX4_begin 33 = .ok (.invokestatic 59, 3) := by decide +kernel
theorem dX4_begin_36 : decode cX4_begin 36 = .ok (.ifCond .eq 23, 3) := by decide +kernel
theorem dX4_begin_39 : decode cX4_begin 39 = .ok (.aload_n 0, 1) := by decide +kernel
theorem dX4_begin_40 : decode cX4_begin 40 = .ok (.dup, 1) := by decide +kernel
theorem dX4_begin_41 : decode cX4_begin 41 = .ok (.getfield 52, 3) := by decide +kernel
theorem dX4_begin_44 : decode cX4_begin 44 = .ok (.lconst 1, 1) := by decide +kernel
theorem dX4_begin_45 : decode cX4_begin 45 = .ok (.aload_n 0, 1) := by decide +kernel
theorem dX4_begin_46 : decode cX4_begin 46 = .ok (.getfield 35, 3) := by decide +kernel
theorem dX4_begin_49 : decode cX4_begin 49 = .ok (.getfield 63, 3) := by decide +kernel
theorem dX4_begin_52 : decode cX4_begin 52 = .ok (.iload_n 3, 1) := by decide +kernel
theorem dX4_begin_53 : decode cX4_begin 53 = .ok (.iaload, 1) := by decide +kernel
theorem dX4_begin_54 : decode cX4_begin 54 = .ok (.lshl, 1) := by decide +kernel
theorem dX4_begin_55 : decode cX4_begin 55 = .ok (.lor, 1) := by decide +kernel
theorem dX4_begin_56 : decode cX4_begin 56 = .ok (.putfield 52, 3) := by decide +kernel
theorem dX4_begin_59 : decode cX4_begin 59 = .ok (.iinc 3 1, 3) := by decide +kernel
theorem dX4_begin_62 : decode cX4_begin 62 = .ok (.goto (-45), 3) := by decide +kernel
theorem dX4_begin_65 : decode cX4_begin 65 = .ok (.aload_n 0, 1) := by decide +kernel
theorem dX4_begin_66 : decode cX4_begin 66 = .ok (.getfield 12, 3) := by decide +kernel
theorem dX4_begin_69 : decode cX4_begin 69 = .ok (.iconst 0, 1) := by decide +kernel
theorem dX4_begin_70 : decode cX4_begin 70 = .ok (.putfield 66, 3) := by decide +kernel
theorem dX4_begin_73 : decode cX4_begin 73 = .ok (.aload_n 0, 1) := by decide +kernel
theorem dX4_begin_74 : decode cX4_begin 74 = .ok (.getfield 23, 3) := by decide +kernel
theorem dX4_begin_77 : decode cX4_begin 77 = .ok (.iconst 0, 1) := by decide +kernel
theorem dX4_begin_78 : decode cX4_begin 78 = .ok (.putfield 56, 3) := by decide +kernel
theorem dX4_begin_81 : decode cX4_begin 81 = .ok (.aload_n 0, 1) := by decide +kernel
theorem dX4_begin_82 : decode cX4_begin 82 = .ok (.iconst 0, 1) := by decide +kernel
theorem dX4_begin_83 : decode cX4_begin 83 = .ok (.putfield 67, 3) := by decide +kernel
theorem dX4_begin_86 : decode cX4_begin 86 = .ok (.aload_n 0, 1) := by decide +kernel
theorem dX4_begin_87 : decode cX4_begin 87 = .ok (.iconst 0, 1) := by decide +kernel
theorem dX4_begin_88 : decode cX4_begin 88 = .ok (.putfield 70, 3) := by decide +kernel
theorem dX4_begin_91 : decode cX4_begin 91 = .ok (.aload_n 0, 1) := by decide +kernel
theorem dX4_begin_92 : decode cX4_begin 92 = .ok (.getfield 27, 3) := by decide +kernel
theorem dX4_begin_95 : decode cX4_begin 95 = .ok (.iconst 0, 1) := by decide +kernel
theorem dX4_begin_96 : decode cX4_begin 96 = .ok (.invokestatic 73, 3) := by decide +kernel
theorem dX4_begin_99 : decode cX4_begin 99 = .ok (.return_, 1) := by decide +kernel
theorem dX4_pass_0 : decode cX4_pass 0 = .ok (.iload_n 1, 1) := by decide +kernel
theorem dX4_pass_1 : decode cX4_pass 1 = .ok (.ifCond .le 22, 3) := by decide +kernel
theorem dX4_pass_4 : decode cX4_pass 4 = .ok (.aload_n 0, 1) := by decide +kernel
theorem dX4_pass_5 : decode cX4_pass 5 = .ok (.getfield 52, 3) := by decide +kernel
theorem dX4_pass_8 : decode cX4_pass 8 = .ok (.iload_n 1, 1) := by decide +kernel
theorem dX4_pass_9 : decode cX4_pass 9 = .ok (.iconst 1, 1) := by decide +kernel
theorem dX4_pass_10 : decode cX4_pass 10 = .ok (.isub, 1) := by decide +kernel
theorem dX4_pass_11 : decode cX4_pass 11 = .ok (.lshr, 1) := by decide +kernel
theorem dX4_pass_12 : decode cX4_pass 12 = .ok (.lconst 1, 1) := by decide +kernel
theorem dX4_pass_13 : decode cX4_pass 13 = .ok (.land, 1) := by decide +kernel
theorem dX4_pass_14 : decode cX4_pass 14 = .ok (.lconst 1, 1) := by decide +kernel
theorem dX4_pass_15 : decode cX4_pass 15 = .ok (.lcmp, 1) := by decide +kernel
theorem dX4_pass_16 : decode cX4_pass 16 = .ok (.ifCond .ne 7, 3) := by decide +kernel
theorem dX4_pass_19 : decode cX4_pass 19 = .ok (.iconst 1, 1) := by decide +kernel
theorem dX4_pass_20 : decode cX4_pass 20 = .ok (.goto 4, 3) := by decide +kernel
theorem dX4_pass_23 : decode cX4_pass 23 = .ok (.iconst 0, 1) := by decide +kernel
theorem dX4_pass_24 : decode cX4_pass 24 = .ok (.istore_n 2, 1) := by decide +kernel
theorem dX4_pass_25 : decode cX4_pass 25 = .ok (.iload_n 2, 1) := by decide +kernel
theorem dX4_pass_26 : decode cX4_pass 26 = .ok (.ifCond .ne 18, 3) := by decide +kernel
theorem dX4_pass_29 : decode cX4_pass 29 = .ok (.aload_n 0, 1) := by decide +kernel
theorem dX4_pass_30 : decode cX4_pass 30 = .ok (.getfield 67, 3) := by decide +kernel
theorem dX4_pass_33 : decode cX4_pass 33 = .ok (.aload_n 0, 1) := by decide +kernel
theorem dX4_pass_34 : decode cX4_pass 34 = .ok (.getfield 23, 3) := by decide +kernel
theorem dX4_pass_37 : decode cX4_pass 37 = .ok (.getfield 56, 3) := by decide +kernel
theorem dX4_pass_40 : decode cX4_pass 40 = .ok (.if_icmp .ne 4, 3) := by decide +kernel
theorem dX4_pass_43 : decode cX4_pass 43 = .ok (.return_, 1) := by decide +kernel
theorem dX4_pass_44 : decode cX4_pass 44 = .ok (.aload_n 0, 1) := by decide +kernel
theorem dX4_pass_45 : decode cX4_pass 45 = .ok (.getfield 23, 3) := by decide +kernel
theorem dX4_pass_48 : decode cX4_pass 48 = .ok (.getfield 56, 3) := by decide +kernel
theorem dX4_pass_51 : decode cX4_pass 51 = .ok (.istore_n 3, 1) := by decide +kernel
theorem dX4_pass_52 : decode cX4_pass 52 = .ok (.aload_n 0, 1) := by decide +kernel
theorem dX4_pass_53 : decode cX4_pass 53 = .ok (.aload_n 0, 1) := by decide +kernel
theorem dX4_pass_54 : decode cX4_pass 54 = .ok (.iload_n 1, 1) := by decide +kernel
theorem dX4_pass_55 : decode cX4_pass 55 = .ok (.invokevirtual 79, 3) := by decide +kernel
theorem dX4_pass_58 : decode cX4_pass 58 = .ok (.putfield 83, 3) := by decide +kernel
theorem dX4_pass_61 : decode cX4_pass 61 = .ok (.iconst 0, 1) := by decide +kernel
theorem dX4_pass_62 : decode cX4_pass 62 = .ok (.istore 4, 2) := by decide +kernel
theorem dX4_pass_64 : decode cX4_pass 64 = .ok (.iload 4, 2) := by decide +kernel
theorem dX4_pass_66 : decode cX4_pass 66 = .ok (.aload_n 0, 1) := by decide +kernel
theorem dX4_pass_67 : decode cX4_pass 67 = .ok (.getfield 35, 3) := by decide +kernel
theorem dX4_pass_70 : decode cX4_pass 70 = .ok (.getfield 56, 3) := by decide +kernel
theorem dX4_pass_73 : decode cX4_pass 73 = .ok (.if_icmp .ge 48, 3) := by decide +kernel
theorem dX4_pass_76 : decode cX4_pass 76 = .ok (.aload_n 0, 1) := by decide +kernel
theorem dX4_pass_77 : decode cX4_pass 77 = .ok (.getfield 45, 3) := by decide +kernel
theorem dX4_pass_80 : decode cX4_pass 80 = .ok (.iload 4, 2) := by decide +kernel
theorem dX4_pass_82 : decode cX4_pass 82 = .ok (.invokestatic 59, 3) := by decide +kernel
theorem dX4_pass_85 : decode cX4_pass 85 = .ok (.ifCond .eq 30, 3) := by decide +kernel
theorem dX4_pass_88 : decode cX4_pass 88 = .ok (.aload_n 0, 1) := by decide +kernel
theorem dX4_pass_89 : decode cX4_pass 89 = .ok (.getfield 35, 3) := by decide +kernel
theorem dX4_pass_92 : decode cX4_pass 92 = .ok (.getfield 63, 3) := by decide +kernel
theorem dX4_pass_95 : decode cX4_pass 95 = .ok (.iload 4, 2) := by decide +kernel
theorem dX4_pass_97 : decode cX4_pass 97 = .ok (.iaload, 1) := by decide +kernel
theorem dX4_pass_98 : decode cX4_pass 98 = .ok (.iload_n 1, 1) := by decide +kernel
theorem dX4_pass_99 : decode cX4_pass 99 = .ok (.iconst 1, 1) := by decide +kernel
theorem dX4_pass_100 : decode cX4_pass 100 = .ok (.isub, 1) := by decide +kernel
theorem dX4_pass_101 : decode cX4_pass 101 = .ok (.if_icmp .ne 14, 3) := by decide +kernel
theorem dX4_pass_104 : decode cX4_pass 104 = .ok (.aload_n 0, 1) := by decide +kernel
theorem dX4_pass_105 : decode cX4_pass 105 = .ok (.aload_n 0, 1) := by decide +kernel
theorem dX4_pass_106 : decode cX4_pass 106 = .ok (.getfield 35, 3) := by decide +kernel
theorem dX4_pass_109 : decode cX4_pass 109 = .ok (.iload 4, 2) := by decide +kernel
theorem dX4_pass_111 : decode cX4_pass 111 = .ok (.iload_n 1, 1) := by decide +kernel
theorem dX4_pass_112 : decode cX4_pass 112 = .ok (.invokevirtual 86, 3) := by decide +kernel
theorem dX4_pass_115 : decode cX4_pass 115 = .ok (.iinc 4 1, 3) := by decide +kernel
theorem dX4_pass_118 : decode cX4_pass 118 = .ok (.goto (-54), 3) := by decide +kernel
theorem dX4_pass_121 : decode cX4_pass 121 = .ok (.aload_n 0, 1) := by decide +kernel
theorem dX4_pass_122 : decode cX4_pass 122 = .ok (.getfield 67, 3) := by decide +kernel
theorem dX4_pass_125 : decode cX4_pass 125 = .ok (.istore 4, 2) := by decide +kernel
theorem dX4_pass_127 : decode cX4_pass 127 = .ok (.iload 4, 2) := by decide +kernel
theorem dX4_pass_129 : decode cX4_pass 129 = .ok (.iload_n 3, 1) := by decide +kernel
theorem dX4_pass_130 : decode cX4_pass 130 = .ok (.if_icmp .ge 20, 3) := by decide +kernel
theorem dX4_pass_133 : decode cX4_pass 133 = .ok (.aload_n 0, 1) := by decide +kernel
theorem dX4_pass_134 : decode cX4_pass 134 = .ok (.aload_n 0, 1) := by decide +kernel
theorem dX4_pass_135 : decode cX4_pass 135 = .ok (.getfield 23, 3) := by decide +kernel
theorem dX4_pass_138 : decode cX4_pass 138 = .ok (.iload 4, 2) := by decide +kernel
theorem dX4_pass_140 : decode cX4_pass 140 = .ok (.iload_n 1, 1) := by decide +kernel
theorem dX4_pass_141 : decode cX4_pass 141 = .ok (.invokevirtual 86, 3) := by decide +kernel
theorem dX4_pass_144 : decode cX4_pass 144 = .ok (.iinc 4 1, 3) := by decide +kernel
theorem dX4_pass_147 : decode cX4_pass 147 = .ok (.goto (-20), 3) := by decide +kernel
theorem dX4_pass_150 : decode cX4_pass 150 = .ok (.aload_n 0, 1) := by decide +kernel
theorem dX4_pass_151 : decode cX4_pass 151 = .ok (.iload_n 3, 1) := by decide +kernel
theorem dX4_pass_152 : decode cX4_pass 152 = .ok (.putfield 67, 3) := by decide +kernel
theorem dX4_pass_155 : decode cX4_pass 155 = .ok (.return_, 1) := by decide +kernel
theorem dX4_freeAhead_0 : decode cX4_freeAhead 0 = .ok (.iconst 0, 1) := by decide +kernel
theorem dX4_freeAhead_1 : decode cX4_freeAhead 1 = .ok (.istore_n 2, 1) := by decide +kernel
theorem dX4_freeAhead_2 : decode cX4_freeAhead 2 = .ok (.iconst 0, 1) := by decide +kernel
theorem dX4_freeAhead_3 : decode cX4_freeAhead 3 = .ok (.istore_n 3, 1) := by decide +kernel
theorem dX4_freeAhead_4 : decode cX4_freeAhead 4 = .ok (.iload_n 3, 1) := by decide +kernel
theorem dX4_freeAhead_5 : decode cX4_freeAhead 5 = .ok (.aload_n 0, 1) := by decide +kernel
theorem dX4_freeAhead_6 : decode cX4_freeAhead 6 = .ok (.getfield 31, 3) := by decide +kernel
theorem dX4_freeAhead_9 : decode cX4_freeAhead 9 = .ok (.getfield 90, 3) := by decide +kernel
theorem dX4_freeAhead_12 : decode cX4_freeAhead 12 = .ok (.if_icmp .ge 37, 3) := by decide +kernel
theorem dX4_freeAhead_15 : decode cX4_freeAhead 15 = .ok (.aload_n 0, 1) := by decide +kernel
theorem dX4_freeAhead_16 : decode cX4_freeAhead 16 = .ok (.getfield 49, 3) := by decide +kernel
theorem dX4_freeAhead_19 : decode cX4_freeAhead 19 = .ok (.iload_n 3, 1) := by decide +kernel
theorem dX4_freeAhead_20 : decode cX4_freeAhead 20 = .ok (.invokestatic 59, 3) := by decide +kernel
theorem dX4_freeAhead_23 : decode cX4_freeAhead 23 = .ok (.ifCond .ne 20, 3) := by decide +kernel
theorem dX4_freeAhead_26 : decode cX4_freeAhead 26 = .ok (.aload_n 0, 1) := by decide +kernel
theorem dX4_freeAhead_27 : decode cX4_freeAhead 27 = .ok (.getfield 27, 3) := by decide +kernel
theorem dX4_freeAhead_30 : decode cX4_freeAhead 30 = .ok (.iload_n 3, 1) := by decide +kernel
theorem dX4_freeAhead_31 : decode cX4_freeAhead 31 = .ok (.iaload, 1) := by decide +kernel
theorem dX4_freeAhead_32 : decode cX4_freeAhead 32 = .ok (.iload_n 1, 1) := by decide +kernel
theorem dX4_freeAhead_33 : decode cX4_freeAhead 33 = .ok (.if_icmp .gt 10, 3) := by decide +kernel
theorem dX4_freeAhead_36 : decode cX4_freeAhead 36 = .ok (.iload_n 2, 1) := by decide +kernel
theorem dX4_freeAhead_37 : decode cX4_freeAhead 37 = .ok (.iload_n 3, 1) := by decide +kernel
theorem dX4_freeAhead_38 : decode cX4_freeAhead 38 = .ok (.invokestatic 93, 3) := by decide +kernel
theorem dX4_freeAhead_41 : decode cX4_freeAhead 41 = .ok (.ior, 1) := by decide +kernel
theorem dX4_freeAhead_42 : decode cX4_freeAhead 42 = .ok (.istore_n 2, 1) := by decide +kernel
theorem dX4_freeAhead_43 : decode cX4_freeAhead 43 = .ok (.iinc 3 1, 3) := by decide +kernel
theorem dX4_freeAhead_46 : decode cX4_freeAhead 46 = .ok (.goto (-42), 3) := by decide +kernel
theorem dX4_freeAhead_49 : decode cX4_freeAhead 49 = .ok (.iload_n 2, 1) := by decide +kernel
theorem dX4_freeAhead_50 : decode cX4_freeAhead 50 = .ok (.ireturn, 1) := by decide +kernel
theorem dX4_answer_0 : decode cX4_answer 0 = .ok (.aload_n 1, 1) := by decide +kernel
theorem dX4_answer_1 : decode cX4_answer 1 = .ok (.getfield 96, 3) := by decide +kernel
theorem dX4_answer_4 : decode cX4_answer 4 = .ok (.iload_n 2, 1) := by decide +kernel
theorem dX4_answer_5 : decode cX4_answer 5 = .ok (.iaload, 1) := by decide +kernel
theorem dX4_answer_6 : decode cX4_answer 6 = .ok (.istore 4, 2) := by decide +kernel
theorem dX4_answer_8 : decode cX4_answer 8 = .ok (.aload_n 1, 1) := by decide +kernel
theorem dX4_answer_9 : decode cX4_answer 9 = .ok (.getfield 99, 3) := by decide +kernel
theorem dX4_answer_12 : decode cX4_answer 12 = .ok (.iload_n 2, 1) := by decide +kernel
theorem dX4_answer_13 : decode cX4_answer 13 = .ok (.iaload, 1) := by decide +kernel
theorem dX4_answer_14 : decode cX4_answer 14 = .ok (.istore 5, 2) := by decide +kernel
theorem dX4_answer_16 : decode cX4_answer 16 = .ok (.aload_n 1, 1) := by decide +kernel
theorem dX4_answer_17 : decode cX4_answer 17 = .ok (.getfield 102, 3) := by decide +kernel
theorem dX4_answer_20 : decode cX4_answer 20 = .ok (.iload_n 2, 1) := by decide +kernel
theorem dX4_answer_21 : decode cX4_answer 21 = .ok (.iaload, 1) := by decide +kernel
theorem dX4_answer_22 : decode cX4_answer 22 = .ok (.aload_n 0, 1) := by decide +kernel
theorem dX4_answer_23 : decode cX4_answer 23 = .ok (.getfield 31, 3) := by decide +kernel
theorem dX4_answer_26 : decode cX4_answer 26 = .ok (.iload 5, 2) := by decide +kernel
theorem dX4_answer_28 : decode cX4_answer 28 = .ok (.invokevirtual 105, 3) := by decide +kernel
theorem dX4_answer_31 : decode cX4_answer 31 = .ok (.if_icmp .ge 4, 3) := by decide +kernel
theorem dX4_answer_34 : decode cX4_answer 34 = .ok (.return_, 1) := by decide +kernel
theorem dX4_answer_35 : decode cX4_answer 35 = .ok (.aload_n 0, 1) := by decide +kernel
theorem dX4_answer_36 : decode cX4_answer 36 = .ok (.getfield 83, 3) := by decide +kernel
theorem dX4_answer_39 : decode cX4_answer 39 = .ok (.iload 4, 2) := by decide +kernel
theorem dX4_answer_41 : decode cX4_answer 41 = .ok (.invokestatic 93, 3) := by decide +kernel
theorem dX4_answer_44 : decode cX4_answer 44 = .ok (.iload 5, 2) := by decide +kernel
theorem dX4_answer_46 : decode cX4_answer 46 = .ok (.invokestatic 93, 3) := by decide +kernel
theorem dX4_answer_49 : decode cX4_answer 49 = .ok (.ior, 1) := by decide +kernel
theorem dX4_answer_50 : decode cX4_answer 50 = .ok (.iconst (-1), 1) := by decide +kernel
theorem dX4_answer_51 : decode cX4_answer 51 = .ok (.ixor, 1) := by decide +kernel
theorem dX4_answer_52 : decode cX4_answer 52 = .ok (.iand, 1) := by decide +kernel
theorem dX4_answer_53 : decode cX4_answer 53 = .ok (.istore 6, 2) := by decide +kernel
theorem dX4_answer_55 : decode cX4_answer 55 = .ok (.aload_n 0, 1) := by decide +kernel
theorem dX4_answer_56 : decode cX4_answer 56 = .ok (.getfield 31, 3) := by decide +kernel
theorem dX4_answer_59 : decode cX4_answer 59 = .ok (.iload 5, 2) := by decide +kernel
theorem dX4_answer_61 : decode cX4_answer 61 = .ok (.iload 6, 2) := by decide +kernel
theorem dX4_answer_63 : decode cX4_answer 63 = .ok (.invokevirtual 108, 3) := by decide +kernel
theorem dX4_answer_66 : decode cX4_answer 66 = .ok (.istore 7, 2) := by decide +kernel
theorem dX4_answer_68 : decode cX4_answer 68 = .ok (.iload 7, 2) := by decide +kernel
theorem dX4_answer_70 : decode cX4_answer 70 = .ok (.bipush (-9), 2) := by decide +kernel
theorem dX4_answer_72 : decode cX4_answer 72 = .ok (.if_icmp .ne 4, 3) := by decide +kernel
theorem dX4_answer_75 : decode cX4_answer 75 = .ok (.return_, 1) := by decide +kernel
theorem dX4_answer_76 : decode cX4_answer 76 = .ok (.aload_n 0, 1) := by decide +kernel
theorem dX4_answer_77 : decode cX4_answer 77 = .ok (.getfield 31, 3) := by decide +kernel
theorem dX4_answer_80 : decode cX4_answer 80 = .ok (.iload 4, 2) := by decide +kernel
theorem dX4_answer_82 : decode cX4_answer 82 = .ok (.iload 6, 2) := by decide +kernel
theorem dX4_answer_84 : decode cX4_answer 84 = .ok (.iload 7, 2) := by decide +kernel
theorem dX4_answer_86 : decode cX4_answer 86 = .ok (.invokestatic 93, 3) := by decide +kernel
theorem dX4_answer_89 : decode cX4_answer 89 = .ok (.iconst (-1), 1) := by decide +kernel
theorem dX4_answer_90 : decode cX4_answer 90 = .ok (.ixor, 1) := by decide +kernel
theorem dX4_answer_91 : decode cX4_answer 91 = .ok (.iand, 1) := by decide +kernel
theorem dX4_answer_92 : decode cX4_answer 92 = .ok (.invokevirtual 108, 3) := by decide +kernel
theorem dX4_answer_95 : decode cX4_answer 95 = .ok (.istore 8, 2) := by decide +kernel
theorem dX4_answer_97 : decode cX4_answer 97 = .ok (.iload 8, 2) := by decide +kernel
theorem dX4_answer_99 : decode cX4_answer 99 = .ok (.bipush (-9), 2) := by decide +kernel
theorem dX4_answer_101 : decode cX4_answer 101 = .ok (.if_icmp .ne 4, 3) := by decide +kernel
theorem dX4_answer_104 : decode cX4_answer 104 = .ok (.return_, 1) := by decide +kernel
theorem dX4_answer_105 : decode cX4_answer 105 = .ok (.aload_n 0, 1) := by decide +kernel
theorem dX4_answer_106 : decode cX4_answer 106 = .ok (.dup, 1) := by decide +kernel
theorem dX4_answer_107 : decode cX4_answer 107 = .ok (.getfield 83, 3) := by decide +kernel
theorem dX4_answer_110 : decode cX4_answer 110 = .ok (.iload 7, 2) := by decide +kernel
theorem dX4_answer_112 : decode cX4_answer 112 = .ok (.invokestatic 93, 3) := by decide +kernel
theorem dX4_answer_115 : decode cX4_answer 115 = .ok (.iload 8, 2) := by decide +kernel
theorem dX4_answer_117 : decode cX4_answer 117 = .ok (.invokestatic 93, 3) := by decide +kernel
theorem dX4_answer_120 : decode cX4_answer 120 = .ok (.ior, 1) := by decide +kernel
theorem dX4_answer_121 : decode cX4_answer 121 = .ok (.iconst (-1), 1) := by decide +kernel
theorem dX4_answer_122 : decode cX4_answer 122 = .ok (.ixor, 1) := by decide +kernel
theorem dX4_answer_123 : decode cX4_answer 123 = .ok (.iand, 1) := by decide +kernel
theorem dX4_answer_124 : decode cX4_answer 124 = .ok (.putfield 83, 3) := by decide +kernel
theorem dX4_answer_127 : decode cX4_answer 127 = .ok (.aload_n 0, 1) := by decide +kernel
theorem dX4_answer_128 : decode cX4_answer 128 = .ok (.iload 7, 2) := by decide +kernel
theorem dX4_answer_130 : decode cX4_answer 130 = .ok (.iload 8, 2) := by decide +kernel
theorem dX4_answer_132 : decode cX4_answer 132 = .ok (.iload_n 3, 1) := by decide +kernel
theorem dX4_answer_133 : decode cX4_answer 133 = .ok (.invokevirtual 112, 3) := by decide +kernel
theorem dX4_answer_136 : decode cX4_answer 136 = .ok (.istore 9, 2) := by decide +kernel
theorem dX4_answer_138 : decode cX4_answer 138 = .ok (.aload_n 0, 1) := by decide +kernel
theorem dX4_answer_139 : decode cX4_answer 139 = .ok (.getfield 12, 3) := by decide +kernel
theorem dX4_answer_142 : decode cX4_answer 142 = .ok (.iload_n 3, 1) := by decide +kernel
theorem dX4_answer_143 : decode cX4_answer 143 = .ok (.iload 7, 2) := by decide +kernel
theorem dX4_answer_145 : decode cX4_answer 145 = .ok (.iload 8, 2) := by decide +kernel
theorem dX4_answer_147 : decode cX4_answer 147 = .ok (.iload 5, 2) := by decide +kernel
theorem dX4_answer_149 : decode cX4_answer 149 = .ok (.iload 4, 2) := by decide +kernel
theorem dX4_answer_151 : decode cX4_answer 151 = .ok (.iload 9, 2) := by decide +kernel
theorem dX4_answer_153 : decode cX4_answer 153 = .ok (.invokevirtual 116, 3) := by decide +kernel
theorem dX4_answer_156 : decode cX4_answer 156 = .ok (.return_, 1) := by decide +kernel
theorem dX4_shoot_0 : decode cX4_shoot 0 = .ok (.aload_n 0, 1) := by decide +kernel
theorem dX4_shoot_1 : decode cX4_shoot 1 = .ok (.getfield 31, 3) := by decide +kernel
theorem dX4_shoot_4 : decode cX4_shoot 4 = .ok (.getfield 120, 3) := by decide +kernel
theorem dX4_shoot_7 : decode cX4_shoot 7 = .ok (.iload_n 1, 1) := by decide +kernel
theorem dX4_shoot_8 : decode cX4_shoot 8 = .ok (.iaload, 1) := by decide +kernel
theorem dX4_shoot_9 : decode cX4_shoot 9 = .ok (.aload_n 0, 1) := by decide +kernel
theorem dX4_shoot_10 : decode cX4_shoot 10 = .ok (.getfield 31, 3) := by decide +kernel
theorem dX4_shoot_13 : decode cX4_shoot 13 = .ok (.getfield 120, 3) := by decide +kernel
theorem dX4_shoot_16 : decode cX4_shoot 16 = .ok (.iload_n 2, 1) := by decide +kernel
theorem dX4_shoot_17 : decode cX4_shoot 17 = .ok (.iaload, 1) := by decide +kernel
theorem dX4_shoot_18 : decode cX4_shoot 18 = .ok (.isub, 1) := by decide +kernel
theorem dX4_shoot_19 : decode cX4_shoot 19 = .ok (.istore 4, 2) := by decide +kernel
theorem dX4_shoot_21 : decode cX4_shoot 21 = .ok (.iload 4, 2) := by decide +kernel
theorem dX4_shoot_23 : decode cX4_shoot 23 = .ok (.ifCond .ne 6, 3) := by decide +kernel
theorem dX4_shoot_26 : decode cX4_shoot 26 = .ok (.bipush (-9), 2) := by decide +kernel
theorem dX4_shoot_28 : decode cX4_shoot 28 = .ok (.ireturn, 1) := by decide +kernel
theorem dX4_shoot_29 : decode cX4_shoot 29 = .ok (.iload 4, 2) := by decide +kernel
theorem dX4_shoot_31 : decode cX4_shoot 31 = .ok (.ifCond .ge 7, 3) := by decide +kernel
theorem dX4_shoot_34 : decode cX4_shoot 34 = .ok (.iload_n 1, 1) := by decide +kernel
theorem dX4_shoot_35 : decode cX4_shoot 35 = .ok (.goto 4, 3) := by decide +kernel
theorem dX4_shoot_38 : decode cX4_shoot 38 = .ok (.iload_n 2, 1) := by decide +kernel
theorem dX4_shoot_39 : decode cX4_shoot 39 = .ok (.istore 5, 2) := by decide +kernel
theorem dX4_shoot_41 : decode cX4_shoot 41 = .ok (.iload 4, 2) := by decide +kernel
theorem dX4_shoot_43 : decode cX4_shoot 43 = .ok (.ifCond .ge 7, 3) := by decide +kernel
theorem dX4_shoot_46 : decode cX4_shoot 46 = .ok (.iload_n 2, 1) := by decide +kernel
theorem dX4_shoot_47 : decode cX4_shoot 47 = .ok (.goto 4, 3) := by decide +kernel
theorem dX4_shoot_50 : decode cX4_shoot 50 = .ok (.iload_n 1, 1) := by decide +kernel
theorem dX4_shoot_51 : decode cX4_shoot 51 = .ok (.istore 6, 2) := by decide +kernel
theorem dX4_shoot_53 : decode cX4_shoot 53 = .ok (.iload 4, 2) := by decide +kernel
theorem dX4_shoot_55 : decode cX4_shoot 55 = .ok (.invokestatic 123, 3) := by decide +kernel
theorem dX4_shoot_58 : decode cX4_shoot 58 = .ok (.istore 7, 2) := by decide +kernel
theorem dX4_shoot_60 : decode cX4_shoot 60 = .ok (.aload_n 0, 1) := by decide +kernel
theorem dX4_shoot_61 : decode cX4_shoot 61 = .ok (.dup, 1) := by decide +kernel
theorem dX4_shoot_62 : decode cX4_shoot 62 = .ok (.getfield 70, 3) := by decide +kernel
theorem dX4_shoot_65 : decode cX4_shoot 65 = .ok (.iload 5, 2) := by decide +kernel
theorem dX4_shoot_67 : decode cX4_shoot 67 = .ok (.invokestatic 93, 3) := by decide +kernel
theorem dX4_shoot_70 : decode cX4_shoot 70 = .ok (.ior, 1) := by decide +kernel
theorem dX4_shoot_71 : decode cX4_shoot 71 = .ok (.putfield 70, 3) := by decide +kernel
theorem dX4_shoot_74 : decode cX4_shoot 74 = .ok (.aload_n 0, 1) := by decide +kernel
theorem dX4_shoot_75 : decode cX4_shoot 75 = .ok (.getfield 27, 3) := by decide +kernel
theorem dX4_shoot_78 : decode cX4_shoot 78 = .ok (.iload 5, 2) := by decide +kernel
theorem dX4_shoot_80 : decode cX4_shoot 80 = .ok (.iload_n 3, 1) := by decide +kernel
theorem dX4_shoot_81 : decode cX4_shoot 81 = .ok (.iload 7, 2) := by decide +kernel
theorem dX4_shoot_83 : decode cX4_shoot 83 = .ok (.iadd, 1) := by decide +kernel
theorem dX4_shoot_84 : decode cX4_shoot 84 = .ok (.iconst 2, 1) := by decide +kernel
theorem dX4_shoot_85 : decode cX4_shoot 85 = .ok (.iadd, 1) := by decide +kernel
theorem dX4_shoot_86 : decode cX4_shoot 86 = .ok (.iastore, 1) := by decide +kernel
theorem dX4_shoot_87 : decode cX4_shoot 87 = .ok (.aload_n 0, 1) := by decide +kernel
theorem dX4_shoot_88 : decode cX4_shoot 88 = .ok (.getfield 31, 3) := by decide +kernel
theorem dX4_shoot_91 : decode cX4_shoot 91 = .ok (.getfield 128, 3) := by decide +kernel
theorem dX4_shoot_94 : decode cX4_shoot 94 = .ok (.iload 5, 2) := by decide +kernel
theorem dX4_shoot_96 : decode cX4_shoot 96 = .ok (.iaload, 1) := by decide +kernel
theorem dX4_shoot_97 : decode cX4_shoot 97 = .ok (.istore 8, 2) := by decide +kernel
theorem dX4_shoot_99 : decode cX4_shoot 99 = .ok (.iload 8, 2) := by decide +kernel
theorem dX4_shoot_101 : decode cX4_shoot 101 = .ok (.iload 6, 2) := by decide +kernel
theorem dX4_shoot_103 : decode cX4_shoot 103 = .ok (.if_icmp .eq 17, 3) := by decide +kernel
theorem dX4_shoot_106 : decode cX4_shoot 106 = .ok (.aload_n 0, 1) := by decide +kernel
theorem dX4_shoot_107 : decode cX4_shoot 107 = .ok (.getfield 23, 3) := by decide +kernel
theorem dX4_shoot_110 : decode cX4_shoot 110 = .ok (.iload 6, 2) := by decide +kernel
theorem dX4_shoot_112 : decode cX4_shoot 112 = .ok (.iload 8, 2) := by decide +kernel
theorem dX4_shoot_114 : decode cX4_shoot 114 = .ok (.iload_n 3, 1) := by decide +kernel
theorem dX4_shoot_115 : decode cX4_shoot 115 = .ok (.iload 7, 2) := by decide +kernel
theorem dX4_shoot_117 : decode cX4_shoot 117 = .ok (.invokevirtual 131, 3) := by decide +kernel
theorem dX4_shoot_120 : decode cX4_shoot 120 = .ok (.iload 5, 2) := by decide +kernel
theorem dX4_shoot_122 : decode cX4_shoot 122 = .ok (.ireturn, 1) := by decide +kernel
theorem dX5_init_0 : decode cX5_init 0 = .ok (.aload_n 0, 1) := by decide +kernel
theorem dX5_init_1 : decode cX5_init 1 = .ok (.invokespecial 3, 3) := by decide +kernel
theorem dX5_init_4 : decode cX5_init 4 = .ok (.aload_n 0, 1) := by decide +kernel
theorem dX5_init_5 : decode cX5_init 5 = .ok (.bipush 50, 2) := by decide +kernel
theorem dX5_init_7 : decode cX5_init 7 = .ok (.newarray .int, 2) := by decide +kernel
theorem dX5_init_9 : decode cX5_init 9 = .ok (.putfield 9, 3) := by decide +kernel
theorem dX5_init_12 : decode cX5_init 12 = .ok (.return_, 1) := by decide +kernel
theorem dX5_renew_0 : decode cX5_renew 0 = .ok (.aload_n 0, 1) := by decide +kernel
theorem dX5_renew_1 : decode cX5_renew 1 = .ok (.iconst 1, 1) := by decide +kernel
theorem dX5_renew_2 : decode cX5_renew 2 = .ok (.putfield 15, 3) := by decide +kernel
theorem dX5_renew_5 : decode cX5_renew 5 = .ok (.aload_n 0, 1) := by decide +kernel
theorem dX5_renew_6 : decode cX5_renew 6 = .ok (.iload_n 1, 1) := by decide +kernel
theorem dX5_renew_7 : decode cX5_renew 7 = .ok (.putfield 19, 3) := by decide +kernel
theorem dX5_renew_10 : decode cX5_renew 10 = .ok (.aload_n 0, 1) := by decide +kernel
theorem dX5_renew_11 : decode cX5_renew 11 = .ok (.iconst 0, 1) := by decide +kernel
theorem dX5_renew_12 : decode cX5_renew 12 = .ok (.bipush 50, 2) := by decide +kernel
theorem dX5_renew_14 : decode cX5_renew 14 = .ok (.iload_n 2, 1) := by decide +kernel
theorem dX5_renew_15 : decode cX5_renew 15 = .ok (.invokestatic 23, 3) := by decide +kernel
theorem dX5_renew_18 : decode cX5_renew 18 = .ok (.invokestatic 29, 3) := by decide +kernel
theorem dX5_renew_21 : decode cX5_renew 21 = .ok (.putfield 32, 3) := by decide +kernel
theorem dX5_renew_24 : decode cX5_renew 24 = .ok (.aload_n 0, 1) := by decide +kernel
theorem dX5_renew_25 : decode cX5_renew 25 = .ok (.getfield 9, 3) := by decide +kernel
theorem dX5_renew_28 : decode cX5_renew 28 = .ok (.iconst 0, 1) := by decide +kernel
theorem dX5_renew_29 : decode cX5_renew 29 = .ok (.invokestatic 35, 3) := by decide +kernel
theorem dX5_renew_32 : decode cX5_renew 32 = .ok (.return_, 1) := by decide +kernel
theorem dX5_holds_0 : decode cX5_holds 0 = .ok (.iload_n 1, 1) := by decide +kernel
theorem dX5_holds_1 : decode cX5_holds 1 = .ok (.ifCond .lt 29, 3) := by decide +kernel
theorem dX5_holds_4 : decode cX5_holds 4 = .ok (.iload_n 1, 1) := by decide +kernel
theorem dX5_holds_5 : decode cX5_holds 5 = .ok (.aload_n 0, 1) := by decide +kernel
theorem dX5_holds_6 : decode cX5_holds 6 = .ok (.getfield 32, 3) := by decide +kernel
theorem dX5_holds_9 : decode cX5_holds 9 = .ok (.if_icmp .gt 21, 3) := by decide +kernel
theorem dX5_holds_12 : decode cX5_holds 12 = .ok (.iload_n 2, 1) := by decide +kernel
theorem dX5_holds_13 : decode cX5_holds 13 = .ok (.ifCond .lt 17, 3) := by decide +kernel
theorem dX5_holds_16 : decode cX5_holds 16 = .ok (.iload_n 2, 1) := by decide +kernel
theorem dX5_holds_17 : decode cX5_holds 17 = .ok (.aload_n 0, 1) := by decide +kernel
theorem dX5_holds_18 : decode cX5_holds 18 = .ok (.getfield 32, 3) := by decide +kernel
theorem dX5_holds_21 : decode cX5_holds 21 = .ok (.iload_n 1, 1) := by decide +kernel
theorem dX5_holds_22 : decode cX5_holds 22 = .ok (.isub, 1) := by decide +kernel
theorem dX5_holds_23 : decode cX5_holds 23 = .ok (.if_icmp .gt 7, 3) := by decide +kernel
theorem dX5_holds_26 : decode cX5_holds 26 = .ok (.iconst 1, 1) := by decide +kernel
theorem dX5_holds_27 : decode cX5_holds 27 = .ok (.goto 4, 3) := by decide +kernel
theorem dX5_holds_30 : decode cX5_holds 30 = .ok (.iconst 0, 1) := by decide +kernel
theorem dX5_holds_31 : decode cX5_holds 31 = .ok (.ireturn, 1) := by decide +kernel
theorem dX5_at_0 : decode cX5_at 0 = .ok (.iload_n 1, 1) := by decide +kernel
theorem dX5_at_1 : decode cX5_at 1 = .ok (.ifCond .lt 20, 3) := by decide +kernel
theorem dX5_at_4 : decode cX5_at 4 = .ok (.iload_n 1, 1) := by decide +kernel
theorem dX5_at_5 : decode cX5_at 5 = .ok (.aload_n 0, 1) := by decide +kernel
theorem dX5_at_6 : decode cX5_at 6 = .ok (.getfield 32, 3) := by decide +kernel
theorem dX5_at_9 : decode cX5_at 9 = .ok (.if_icmp .ge 12, 3) := by decide +kernel
theorem dX5_at_12 : decode cX5_at 12 = .ok (.aload_n 0, 1) := by decide +kernel
theorem dX5_at_13 : decode cX5_at 13 = .ok (.getfield 9, 3) := by decide +kernel
theorem dX5_at_16 : decode cX5_at 16 = .ok (.iload_n 1, 1) := by decide +kernel
theorem dX5_at_17 : decode cX5_at 17 = .ok (.iaload, 1) := by decide +kernel
theorem dX5_at_18 : decode cX5_at 18 = .ok (.goto 4, 3) := by decide +kernel
theorem dX5_at_21 : decode cX5_at 21 = .ok (.iconst 0, 1) := by decide +kernel
theorem dX5_at_22 : decode cX5_at 22 = .ok (.ireturn, 1) := by decide +kernel
theorem dX5_faultOfTaking_0 : decode cX5_faultOfTaking 0 = .ok (.aload_n 0, 1) := by decide +kernel
theorem dX5_faultOfTaking_1 : decode cX5_faultOfTaking 1 = .ok (.getfield 15, 3) := by decide +kernel
theorem dX5_faultOfTaking_4 : decode cX5_faultOfTaking 4 = .ok (.ifCond .ne 5, 3) := by decide +kernel
theorem dX5_faultOfTaking_7 : decode cX5_faultOfTaking 7 = .ok (.iconst 1, 1) := by decide +kernel
theorem dX5_faultOfTaking_8 : decode cX5_faultOfTaking 8 = .ok (.ireturn, 1) := by decide +kernel
theorem dX5_faultOfTaking_9 : decode cX5_faultOfTaking 9 = .ok (.aload_n 0, 1) := by decide +kernel
theorem dX5_faultOfTaking_10 : decode cX5_faultOfTaking 10 = .ok (.getfield 19, 3) := by decide +kernel
theorem dX5_faultOfTaking_13 : decode cX5_faultOfTaking 13 = .ok (.iload_n 1, 1) := by decide +kernel
theorem dX5_faultOfTaking_14 : decode cX5_faultOfTaking 14 = .ok (.if_icmp .eq 5, 3) := by decide +kernel
theorem dX5_faultOfTaking_17 : decode cX5_faultOfTaking 17 = .ok (.iconst 2, 1) := by decide +kernel
theorem dX5_faultOfTaking_18 : decode cX5_faultOfTaking 18 = .ok (.ireturn, 1) := by decide +kernel
theorem dX5_faultOfTaking_19 : decode cX5_faultOfTaking 19 = .ok (.iload_n 3, 1) := by decide +kernel
theorem dX5_faultOfTaking_20 : decode cX5_faultOfTaking 20 = .ok (.ifCond .ge 5, 3) := by decide +kernel
theorem dX5_faultOfTaking_23 : decode cX5_faultOfTaking 23 = .ok (.iconst 4, 1) := by decide +kernel
theorem dX5_faultOfTaking_24 : decode cX5_faultOfTaking 24 = .ok (.ireturn, 1) := by decide +kernel
theorem dX5_faultOfTaking_25 : decode cX5_faultOfTaking 25 = .ok (.aload_n 0, 1) := by decide +kernel
theorem dX5_faultOfTaking_26 : decode cX5_faultOfTaking 26 = .ok (.iload_n 2, 1) := by decide +kernel
theorem dX5_faultOfTaking_27 : decode cX5_faultOfTaking 27 = .ok (.iload_n 3, 1) := by decide +kernel
theorem dX5_faultOfTaking_28 : decode cX5_faultOfTaking 28 = .ok (.invokevirtual 41, 3) := by decide +kernel
theorem dX5_faultOfTaking_31 : decode cX5_faultOfTaking 31 = .ok (.ifCond .eq 7, 3) := by decide +kernel
theorem dX5_faultOfTaking_34 : decode cX5_faultOfTaking 34 = .ok (.iconst 0, 1) := by decide +kernel
theorem dX5_faultOfTaking_35 : decode cX5_faultOfTaking 35 = .ok (.goto 4, 3) := by decide +kernel
theorem dX5_faultOfTaking_38 : decode cX5_faultOfTaking 38 = .ok (.iconst 3, 1) := by decide +kernel
theorem dX5_faultOfTaking_39 : decode cX5_faultOfTaking 39 = .ok (.ireturn, 1) := by decide +kernel
theorem dX6_firstFault_0 : decode cX6_firstFault 0 = .ok (.iconst 0, 1) := by decide +kernel
theorem dX6_firstFault_1 : decode cX6_firstFault 1 = .ok (.istore_n 3, 1) := by decide +kernel
theorem dX6_firstFault_2 : decode cX6_firstFault 2 = .ok (.iload_n 3, 1) := by decide +kernel
theorem dX6_firstFault_3 : decode cX6_firstFault 3 = .ok (.iload_n 2, 1) := by decide +kernel
theorem dX6_firstFault_4 : decode cX6_firstFault 4 = .ok (.if_icmp .ge 20, 3) := by decide +kernel
theorem dX6_firstFault_7 : decode cX6_firstFault 7 = .ok (.aload_n 0, 1) := by decide +kernel
theorem dX6_firstFault_8 : decode cX6_firstFault 8 = .ok (.iload_n 1, 1) := by decide +kernel
theorem dX6_firstFault_9 : decode cX6_firstFault 9 = .ok (.iload_n 3, 1) := by decide +kernel
theorem dX6_firstFault_10 : decode cX6_firstFault 10 = .ok (.invokestatic 9, 3) := by decide +kernel
theorem dX6_firstFault_13 : decode cX6_firstFault 13 = .ok (.ifCond .ne 5, 3) := by decide +kernel
theorem dX6_firstFault_16 : decode cX6_firstFault 16 = .ok (.iload_n 3, 1) := by decide +kernel
theorem dX6_firstFault_17 : decode cX6_firstFault 17 = .ok (.ireturn, 1) := by decide +kernel
theorem dX6_firstFault_18 : decode cX6_firstFault 18 = .ok (.iinc 3 1, 3) := by decide +kernel
theorem dX6_firstFault_21 : decode cX6_firstFault 21 = .ok (.goto (-19), 3) := by decide +kernel
theorem dX6_firstFault_24 : decode cX6_firstFault 24 = .ok (.iload_n 2, 1) := by decide +kernel
theorem dX6_firstFault_25 : decode cX6_firstFault 25 = .ok (.iconst 2, 1) := by decide +kernel
theorem dX6_firstFault_26 : decode cX6_firstFault 26 = .ok (.if_icmp .lt 25, 3) := by decide +kernel
theorem dX6_firstFault_29 : decode cX6_firstFault 29 = .ok (.iload_n 2, 1) := by decide +kernel
theorem dX6_firstFault_30 : decode cX6_firstFault 30 = .ok (.iconst 2, 1) := by decide +kernel
theorem dX6_firstFault_31 : decode cX6_firstFault 31 = .ok (.iconst 5, 1) := by decide +kernel
theorem dX6_firstFault_32 : decode cX6_firstFault 32 = .ok (.aload_n 0, 1) := by decide +kernel
theorem dX6_firstFault_33 : decode cX6_firstFault 33 = .ok (.iload_n 1, 1) := by decide +kernel
theorem dX6_firstFault_34 : decode cX6_firstFault 34 = .ok (.iconst 1, 1) := by decide +kernel
theorem dX6_firstFault_35 : decode cX6_firstFault 35 = .ok (.iadd, 1) := by decide +kernel
theorem dX6_firstFault_36 : decode cX6_firstFault 36 = .ok (.invokevirtual 15, 3) := by decide +kernel
theorem dX6_firstFault_39 : decode cX6_firstFault 39 = .ok (.invokestatic 21, 3) := by decide +kernel
theorem dX6_firstFault_42 : decode cX6_firstFault 42 = .ok (.imul, 1) := by decide +kernel
theorem dX6_firstFault_43 : decode cX6_firstFault 43 = .ok (.iadd, 1) := by decide +kernel
theorem dX6_firstFault_44 : decode cX6_firstFault 44 = .ok (.if_icmp .ne 7, 3) := by decide +kernel
theorem dX6_firstFault_47 : decode cX6_firstFault 47 = .ok (.iconst 1, 1) := by decide +kernel
theorem dX6_firstFault_48 : decode cX6_firstFault 48 = .ok (.goto 4, 3) := by decide +kernel
theorem dX6_firstFault_51 : decode cX6_firstFault 51 = .ok (.iconst 0, 1) := by decide +kernel
theorem dX6_firstFault_52 : decode cX6_firstFault 52 = .ok (.istore_n 3, 1) := by decide +kernel
theorem dX6_firstFault_53 : decode cX6_firstFault 53 = .ok (.iload_n 3, 1) := by decide +kernel
theorem dX6_firstFault_54 : decode cX6_firstFault 54 = .ok (.ifCond .eq 8, 3) := by decide +kernel
theorem dX6_firstFault_57 : decode cX6_firstFault 57 = .ok (.bipush (-9), 2) := by decide +kernel
theorem dX6_firstFault_59 : decode cX6_firstFault 59 = .ok (.goto 4, 3) := by decide +kernel
theorem dX6_firstFault_62 : decode cX6_firstFault 62 = .ok (.iload_n 2, 1) := by decide +kernel
theorem dX6_firstFault_63 : decode cX6_firstFault 63 = .ok (.ireturn, 1) := by decide +kernel
theorem dX6_goesOn_0 : decode cX6_goesOn 0 = .ok (.aload_n 0, 1) := by decide +kernel
theorem dX6_goesOn_1 : decode cX6_goesOn 1 = .ok (.iload_n 1, 1) := by decide +kernel
theorem dX6_goesOn_2 : decode cX6_goesOn 2 = .ok (.iload_n 2, 1) := by decide +kernel
theorem dX6_goesOn_3 : decode cX6_goesOn 3 = .ok (.iadd, 1) := by decide +kernel
theorem dX6_goesOn_4 : decode cX6_goesOn 4 = .ok (.invokevirtual 15, 3) := by decide +kernel
theorem dX6_goesOn_7 : decode cX6_goesOn 7 = .ok (.istore_n 3, 1) := by decide +kernel
theorem dX6_goesOn_8 : decode cX6_goesOn 8 = .ok (.iload_n 2, 1) := by decide +kernel
theorem dX6_goesOn_9 : decode cX6_goesOn 9 = .ok (.ifCond .ne 15, 3) := by decide +kernel
theorem dX6_goesOn_12 : decode cX6_goesOn 12 = .ok (.iload_n 3, 1) := by decide +kernel
theorem dX6_goesOn_13 : decode cX6_goesOn 13 = .ok (.bipush 100, 2) := by decide +kernel
theorem dX6_goesOn_15 : decode cX6_goesOn 15 = .ok (.if_icmp .ne 7, 3) := by decide +kernel
theorem dX6_goesOn_18 : decode cX6_goesOn 18 = .ok (.iconst 1, 1) := by decide +kernel
theorem dX6_goesOn_19 : decode cX6_goesOn 19 = .ok (.goto 4, 3) := by decide +kernel
theorem dX6_goesOn_22 : decode cX6_goesOn 22 = .ok (.iconst 0, 1) := by decide +kernel
theorem dX6_goesOn_23 : decode cX6_goesOn 23 = .ok (.ireturn, 1) := by decide +kernel
theorem dX6_goesOn_24 : decode cX6_goesOn 24 = .ok (.iload_n 2, 1) := by decide +kernel
theorem dX6_goesOn_25 : decode cX6_goesOn 25 = .ok (.iconst 1, 1) := by decide +kernel
theorem dX6_goesOn_26 : decode cX6_goesOn 26 = .ok (.if_icmp .ne 21, 3) := by decide +kernel
theorem dX6_goesOn_29 : decode cX6_goesOn 29 = .ok (.iload_n 3, 1) := by decide +kernel
theorem dX6_goesOn_30 : decode cX6_goesOn 30 = .ok (.bipush 50, 2) := by decide +kernel
theorem dX6_goesOn_32 : decode cX6_goesOn 32 = .ok (.if_icmp .lt 13, 3) := by decide +kernel
theorem dX6_goesOn_35 : decode cX6_goesOn 35 = .ok (.iload_n 3, 1) := by decide +kernel
theorem dX6_goesOn_36 : decode cX6_goesOn 36 = .ok (.bipush 54, 2) := by decide +kernel
theorem dX6_goesOn_38 : decode cX6_goesOn 38 = .ok (.if_icmp .gt 7, 3) := by decide +kernel
theorem dX6_goesOn_41 : decode cX6_goesOn 41 = .ok (.iconst 1, 1) := by decide +kernel
theorem dX6_goesOn_42 : decode cX6_goesOn 42 = .ok (.goto 4, 3) := by decide +kernel
theorem dX6_goesOn_45 : decode cX6_goesOn 45 = .ok (.iconst 0, 1) := by decide +kernel
theorem dX6_goesOn_46 : decode cX6_goesOn 46 = .ok (.ireturn, 1) := by decide +kernel
theorem dX6_goesOn_47 : decode cX6_goesOn 47 = .ok (.aload_n 0, 1) := by decide +kernel
theorem dX6_goesOn_48 : decode cX6_goesOn 48 = .ok (.iload_n 1, 1) := by decide +kernel
theorem dX6_goesOn_49 : decode cX6_goesOn 49 = .ok (.iconst 1, 1) := by decide +kernel
theorem dX6_goesOn_50 : decode cX6_goesOn 50 = .ok (.iadd, 1) := by decide +kernel
theorem dX6_goesOn_51 : decode cX6_goesOn 51 = .ok (.invokevirtual 15, 3) := by decide +kernel
theorem dX6_goesOn_54 : decode cX6_goesOn 54 = .ok (.invokestatic 21, 3) := by decide +kernel
theorem dX6_goesOn_57 : decode cX6_goesOn 57 = .ok (.istore 4, 2) := by decide +kernel
theorem dX6_goesOn_59 : decode cX6_goesOn 59 = .ok (.iload_n 2, 1) := by decide +kernel
theorem dX6_goesOn_60 : decode cX6_goesOn 60 = .ok (.iconst 2, 1) := by decide +kernel
theorem dX6_goesOn_61 : decode cX6_goesOn 61 = .ok (.isub, 1) := by decide +kernel
theorem dX6_goesOn_62 : decode cX6_goesOn 62 = .ok (.iconst 5, 1) := by decide +kernel
theorem dX6_goesOn_63 : decode cX6_goesOn 63 = .ok (.idiv, 1) := by decide +kernel
theorem dX6_goesOn_64 : decode cX6_goesOn 64 = .ok (.istore 5, 2) := by decide +kernel
theorem dX6_goesOn_66 : decode cX6_goesOn 66 = .ok (.iload 5, 2) := by decide +kernel
theorem dX6_goesOn_68 : decode cX6_goesOn 68 = .ok (.iload 4, 2) := by decide +kernel
theorem dX6_goesOn_70 : decode cX6_goesOn 70 = .ok (.if_icmp .lt 5, 3) := by decide +kernel
theorem dX6_goesOn_73 : decode cX6_goesOn 73 = .ok (.iconst 0, 1) := by decide +kernel
theorem dX6_goesOn_74 : decode cX6_goesOn 74 = .ok (.ireturn, 1) := by decide +kernel
theorem dX6_goesOn_75 : decode cX6_goesOn 75 = .ok (.iload_n 2, 1) := by decide +kernel
theorem dX6_goesOn_76 : decode cX6_goesOn 76 = .ok (.iconst 2, 1) := by decide +kernel
theorem dX6_goesOn_77 : decode cX6_goesOn 77 = .ok (.isub, 1) := by decide +kernel
theorem dX6_goesOn_78 : decode cX6_goesOn 78 = .ok (.iconst 5, 1) := by decide +kernel
theorem dX6_goesOn_79 : decode cX6_goesOn 79 = .ok (.irem, 1) := by decide +kernel
theorem dX6_goesOn_80 : decode cX6_goesOn 80 = .ok (.tableswitch 73 0 2 #[28, 40, 55], 28) := by decide +kernel
theorem dX6_goesOn_108 : decode cX6_goesOn 108 = .ok (.iload_n 3, 1) := by decide +kernel
theorem dX6_goesOn_109 : decode cX6_goesOn 109 = .ok (.bipush 59, 2) := by decide +kernel
theorem dX6_goesOn_111 : decode cX6_goesOn 111 = .ok (.if_icmp .ne 7, 3) := by decide +kernel
theorem dX6_goesOn_114 : decode cX6_goesOn 114 = .ok (.iconst 1, 1) := by decide +kernel
theorem dX6_goesOn_115 : decode cX6_goesOn 115 = .ok (.goto 4, 3) := by decide +kernel
theorem dX6_goesOn_118 : decode cX6_goesOn 118 = .ok (.iconst 0, 1) := by decide +kernel
theorem dX6_goesOn_119 : decode cX6_goesOn 119 = .ok (.ireturn, 1) := by decide +kernel
theorem dX6_goesOn_120 : decode cX6_goesOn 120 = .ok (.iload_n 3, 1) := by decide +kernel
theorem dX6_goesOn_121 : decode cX6_goesOn 121 = .ok (.invokestatic 24, 3) := by decide +kernel
theorem dX6_goesOn_124 : decode cX6_goesOn 124 = .ok (.bipush (-9), 2) := by decide +kernel
theorem dX6_goesOn_126 : decode cX6_goesOn 126 = .ok (.if_icmp .eq 7, 3) := by decide +kernel
theorem dX6_goesOn_129 : decode cX6_goesOn 129 = .ok (.iconst 1, 1) := by decide +kernel
theorem dX6_goesOn_130 : decode cX6_goesOn 130 = .ok (.goto 4, 3) := by decide +kernel
theorem dX6_goesOn_133 : decode cX6_goesOn 133 = .ok (.iconst 0, 1) := by decide +kernel
theorem dX6_goesOn_134 : decode cX6_goesOn 134 = .ok (.ireturn, 1) := by decide +kernel
theorem dX6_goesOn_135 : decode cX6_goesOn 135 = .ok (.iload_n 3, 1) := by decide +kernel
theorem dX6_goesOn_136 : decode cX6_goesOn 136 = .ok (.bipush 49, 2) := by decide +kernel
theorem dX6_goesOn_138 : decode cX6_goesOn 138 = .ok (.if_icmp .lt 13, 3) := by decide +kernel
theorem dX6_goesOn_141 : decode cX6_goesOn 141 = .ok (.iload_n 3, 1) := by decide +kernel
theorem dX6_goesOn_142 : decode cX6_goesOn 142 = .ok (.bipush 57, 2) := by decide +kernel
theorem dX6_goesOn_144 : decode cX6_goesOn 144 = .ok (.if_icmp .gt 7, 3) := by decide +kernel
theorem dX6_goesOn_147 : decode cX6_goesOn 147 = .ok (.iconst 1, 1) := by decide +kernel
theorem dX6_goesOn_148 : decode cX6_goesOn 148 = .ok (.goto 4, 3) := by decide +kernel
theorem dX6_goesOn_151 : decode cX6_goesOn 151 = .ok (.iconst 0, 1) := by decide +kernel
theorem dX6_goesOn_152 : decode cX6_goesOn 152 = .ok (.ireturn, 1) := by decide +kernel
theorem dX6_goesOn_153 : decode cX6_goesOn 153 = .ok (.iload_n 3, 1) := by decide +kernel
theorem dX6_goesOn_154 : decode cX6_goesOn 154 = .ok (.bipush 48, 2) := by decide +kernel
theorem dX6_goesOn_156 : decode cX6_goesOn 156 = .ok (.if_icmp .lt 25, 3) := by decide +kernel
theorem dX6_goesOn_159 : decode cX6_goesOn 159 = .ok (.iload_n 3, 1) := by decide +kernel
theorem dX6_goesOn_160 : decode cX6_goesOn 160 = .ok (.invokestatic 21, 3) := by decide +kernel
theorem dX6_goesOn_163 : decode cX6_goesOn 163 = .ok (.iload 4, 2) := by decide +kernel
theorem dX6_goesOn_165 : decode cX6_goesOn 165 = .ok (.if_icmp .ge 16, 3) := by decide +kernel
theorem dX6_goesOn_168 : decode cX6_goesOn 168 = .ok (.iload_n 3, 1) := by decide +kernel
theorem dX6_goesOn_169 : decode cX6_goesOn 169 = .ok (.invokestatic 21, 3) := by decide +kernel
theorem dX6_goesOn_172 : decode cX6_goesOn 172 = .ok (.iload 5, 2) := by decide +kernel
theorem dX6_goesOn_174 : decode cX6_goesOn 174 = .ok (.if_icmp .eq 7, 3) := by decide +kernel
theorem dX6_goesOn_177 : decode cX6_goesOn 177 = .ok (.iconst 1, 1) := by decide +kernel
theorem dX6_goesOn_178 : decode cX6_goesOn 178 = .ok (.goto 4, 3) := by decide +kernel
theorem dX6_goesOn_181 : decode cX6_goesOn 181 = .ok (.iconst 0, 1) := by decide +kernel
theorem dX6_goesOn_182 : decode cX6_goesOn 182 = .ok (.ireturn, 1) := by decide +kernel
theorem dX6_digit_0 : decode cX6_digit 0 = .ok (.iload_n 0, 1) := by decide +kernel
theorem dX6_digit_1 : decode cX6_digit 1 = .ok (.bipush 48, 2) := by decide +kernel
theorem dX6_digit_3 : decode cX6_digit 3 = .ok (.isub, 1) := by decide +kernel
theorem dX6_digit_4 : decode cX6_digit 4 = .ok (.ireturn, 1) := by decide +kernel
theorem dX6_kindOf_0 : decode cX6_kindOf 0 = .ok (.iload_n 0, 1) := by decide +kernel
theorem dX6_kindOf_1 : decode cX6_kindOf 1 = .ok (.lookupswitch 41 #[(103, 35), (104, 37), (111, 39)], 35) := by decide +kernel
theorem dX6_kindOf_36 : decode cX6_kindOf 36 = .ok (.iconst 0, 1) := by decide +kernel
theorem dX6_kindOf_37 : decode cX6_kindOf 37 = .ok (.ireturn, 1) := by decide +kernel
theorem dX6_kindOf_38 : decode cX6_kindOf 38 = .ok (.iconst 1, 1) := by decide +kernel
theorem dX6_kindOf_39 : decode cX6_kindOf 39 = .ok (.ireturn, 1) := by decide +kernel
theorem dX6_kindOf_40 : decode cX6_kindOf 40 = .ok (.iconst 2, 1) := by decide +kernel
theorem dX6_kindOf_41 : decode cX6_kindOf 41 = .ok (.ireturn, 1) := by decide +kernel
theorem dX6_kindOf_42 : decode cX6_kindOf 42 = .ok (.bipush (-9), 2) := by decide +kernel
theorem dX6_kindOf_44 : decode cX6_kindOf 44 = .ok (.ireturn, 1) := by decide +kernel
theorem dX6_read_0 : decode cX6_read 0 = .ok (.aload_n 2, 1) := by decide +kernel
theorem dX6_read_1 : decode cX6_read 1 = .ok (.iconst 0, 1) := by decide +kernel
theorem dX6_read_2 : decode cX6_read 2 = .ok (.bipush 6, 2) := by decide +kernel
theorem dX6_read_4 : decode cX6_read 4 = .ok (.aload_n 0, 1) := by decide +kernel
theorem dX6_read_5 : decode cX6_read 5 = .ok (.iload_n 1, 1) := by decide +kernel
theorem dX6_read_6 : decode cX6_read 6 = .ok (.iconst 1, 1) := by decide +kernel
theorem dX6_read_7 : decode cX6_read 7 = .ok (.iadd, 1) := by decide +kernel
theorem dX6_read_8 : decode cX6_read 8 = .ok (.invokevirtual 15, 3) := by decide +kernel
theorem dX6_read_11 : decode cX6_read 11 = .ok (.invokestatic 21, 3) := by decide +kernel
theorem dX6_read_14 : decode cX6_read 14 = .ok (.invokestatic 27, 3) := by decide +kernel
theorem dX6_read_17 : decode cX6_read 17 = .ok (.invokestatic 33, 3) := by decide +kernel
theorem dX6_read_20 : decode cX6_read 20 = .ok (.putfield 36, 3) := by decide +kernel
theorem dX6_read_23 : decode cX6_read 23 = .ok (.aload_n 2, 1) := by decide +kernel
theorem dX6_read_24 : decode cX6_read 24 = .ok (.iconst 0, 1) := by decide +kernel
theorem dX6_read_25 : decode cX6_read 25 = .ok (.putfield 42, 3) := by decide +kernel
theorem dX6_read_28 : decode cX6_read 28 = .ok (.iconst 0, 1) := by decide +kernel
theorem dX6_read_29 : decode cX6_read 29 = .ok (.istore_n 3, 1) := by decide +kernel
theorem dX6_read_30 : decode cX6_read 30 = .ok (.iload_n 3, 1) := by decide +kernel
theorem dX6_read_31 : decode cX6_read 31 = .ok (.aload_n 2, 1) := by decide +kernel
theorem dX6_read_32 : decode cX6_read 32 = .ok (.getfield 36, 3) := by decide +kernel
theorem dX6_read_35 : decode cX6_read 35 = .ok (.if_icmp .ge 86, 3) := by decide +kernel
theorem dX6_read_38 : decode cX6_read 38 = .ok (.iload_n 1, 1) := by decide +kernel
theorem dX6_read_39 : decode cX6_read 39 = .ok (.iconst 2, 1) := by decide +kernel
theorem dX6_read_40 : decode cX6_read 40 = .ok (.iadd, 1) := by decide +kernel
theorem dX6_read_41 : decode cX6_read 41 = .ok (.iconst 5, 1) := by decide +kernel
theorem dX6_read_42 : decode cX6_read 42 = .ok (.iload_n 3, 1) := by decide +kernel
theorem dX6_read_43 : decode cX6_read 43 = .ok (.imul, 1) := by decide +kernel
theorem dX6_read_44 : decode cX6_read 44 = .ok (.iadd, 1) := by decide +kernel
theorem dX6_read_45 : decode cX6_read 45 = .ok (.istore 4, 2) := by decide +kernel
theorem dX6_read_47 : decode cX6_read 47 = .ok (.aload_n 2, 1) := by decide +kernel
theorem dX6_read_48 : decode cX6_read 48 = .ok (.getfield 45, 3) := by decide +kernel
theorem dX6_read_51 : decode cX6_read 51 = .ok (.iload_n 3, 1) := by decide +kernel
theorem dX6_read_52 : decode cX6_read 52 = .ok (.aload_n 0, 1) := by decide +kernel
theorem dX6_read_53 : decode cX6_read 53 = .ok (.iload 4, 2) := by decide +kernel
theorem dX6_read_55 : decode cX6_read 55 = .ok (.iconst 1, 1) := by decide +kernel
theorem dX6_read_56 : decode cX6_read 56 = .ok (.iadd, 1) := by decide +kernel
theorem dX6_read_57 : decode cX6_read 57 = .ok (.invokevirtual 15, 3) := by decide +kernel
theorem dX6_read_60 : decode cX6_read 60 = .ok (.invokestatic 24, 3) := by decide +kernel
theorem dX6_read_63 : decode cX6_read 63 = .ok (.iastore, 1) := by decide +kernel
theorem dX6_read_64 : decode cX6_read 64 = .ok (.aload_n 2, 1) := by decide +kernel
theorem dX6_read_65 : decode cX6_read 65 = .ok (.getfield 49, 3) := by decide +kernel
theorem dX6_read_68 : decode cX6_read 68 = .ok (.iload_n 3, 1) := by decide +kernel
theorem dX6_read_69 : decode cX6_read 69 = .ok (.aload_n 0, 1) := by decide +kernel
theorem dX6_read_70 : decode cX6_read 70 = .ok (.iload 4, 2) := by decide +kernel
theorem dX6_read_72 : decode cX6_read 72 = .ok (.iconst 2, 1) := by decide +kernel
theorem dX6_read_73 : decode cX6_read 73 = .ok (.iadd, 1) := by decide +kernel
theorem dX6_read_74 : decode cX6_read 74 = .ok (.invokevirtual 15, 3) := by decide +kernel
theorem dX6_read_77 : decode cX6_read 77 = .ok (.invokestatic 21, 3) := by decide +kernel
theorem dX6_read_80 : decode cX6_read 80 = .ok (.iastore, 1) := by decide +kernel
theorem dX6_read_81 : decode cX6_read 81 = .ok (.aload_n 2, 1) := by decide +kernel
theorem dX6_read_82 : decode cX6_read 82 = .ok (.getfield 52, 3) := by decide +kernel
theorem dX6_read_85 : decode cX6_read 85 = .ok (.iload_n 3, 1) := by decide +kernel
theorem dX6_read_86 : decode cX6_read 86 = .ok (.aload_n 0, 1) := by decide +kernel
theorem dX6_read_87 : decode cX6_read 87 = .ok (.iload 4, 2) := by decide +kernel
theorem dX6_read_89 : decode cX6_read 89 = .ok (.iconst 3, 1) := by decide +kernel
theorem dX6_read_90 : decode cX6_read 90 = .ok (.iadd, 1) := by decide +kernel
theorem dX6_read_91 : decode cX6_read 91 = .ok (.invokevirtual 15, 3) := by decide +kernel
theorem dX6_read_94 : decode cX6_read 94 = .ok (.invokestatic 21, 3) := by decide +kernel
theorem dX6_read_97 : decode cX6_read 97 = .ok (.iastore, 1) := by decide +kernel
theorem dX6_read_98 : decode cX6_read 98 = .ok (.aload_n 2, 1) := by decide +kernel
theorem dX6_read_99 : decode cX6_read 99 = .ok (.getfield 55, 3) := by decide +kernel
theorem dX6_read_102 : decode cX6_read 102 = .ok (.iload_n 3, 1) := by decide +kernel
theorem dX6_read_103 : decode cX6_read 103 = .ok (.aload_n 0, 1) := by decide +kernel
theorem dX6_read_104 : decode cX6_read 104 = .ok (.iload 4, 2) := by decide +kernel
theorem dX6_read_106 : decode cX6_read 106 = .ok (.iconst 4, 1) := by decide +kernel
theorem dX6_read_107 : decode cX6_read 107 = .ok (.iadd, 1) := by decide +kernel
theorem dX6_read_108 : decode cX6_read 108 = .ok (.invokevirtual 15, 3) := by decide +kernel
theorem dX6_read_111 : decode cX6_read 111 = .ok (.invokestatic 21, 3) := by decide +kernel
theorem dX6_read_114 : decode cX6_read 114 = .ok (.iastore, 1) := by decide +kernel
theorem dX6_read_115 : decode cX6_read 115 = .ok (.iinc 3 1, 3) := by decide +kernel
theorem dX6_read_118 : decode cX6_read 118 = .ok (.goto (-88), 3) := by decide +kernel
theorem dX6_read_121 : decode cX6_read 121 = .ok (.return_, 1) := by decide +kernel
theorem dX7_init_0 : decode cX7_init 0 = .ok (.aload_n 0, 1) := by decide +kernel
theorem dX7_init_1 : decode cX7_init 1 = .ok (.invokespecial 5, 3) := by decide +kernel
theorem dX7_init_4 : decode cX7_init 4 = .ok (.aload_n 0, 1) := by decide +kernel
theorem dX7_init_5 : decode cX7_init 5 = .ok (.new 11, 3) := by decide +kernel
theorem dX7_init_8 : decode cX7_init 8 = .ok (.dup, 1) := by decide +kernel
theorem dX7_init_9 : decode cX7_init 9 = .ok (.invokespecial 13, 3) := by decide +kernel
theorem dX7_init_12 : decode cX7_init 12 = .ok (.putfield 14, 3) := by decide +kernel
theorem dX7_init_15 : decode cX7_init 15 = .ok (.aload_n 0, 1) := by decide +kernel
theorem dX7_init_16 : decode cX7_init 16 = .ok (.new 18, 3) := by decide +kernel
theorem dX7_init_19 : decode cX7_init 19 = .ok (.dup, 1) := by decide +kernel
theorem dX7_init_20 : decode cX7_init 20 = .ok (.bipush 9, 2) := by decide +kernel
theorem dX7_init_22 : decode cX7_init 22 = .ok (.invokespecial 20, 3) := by decide +kernel
theorem dX7_init_25 : decode cX7_init 25 = .ok (.putfield 23, 3) := by decide +kernel
theorem dX7_init_28 : decode cX7_init 28 = .ok (.aload_n 0, 1) := by decide +kernel
theorem dX7_init_29 : decode cX7_init 29 = .ok (.new 27, 3) := by decide +kernel
theorem dX7_init_32 : decode cX7_init 32 = .ok (.dup, 1) := by decide +kernel
theorem dX7_init_33 : decode cX7_init 33 = .ok (.invokespecial 29, 3) := by decide +kernel
theorem dX7_init_36 : decode cX7_init 36 = .ok (.putfield 30, 3) := by decide +kernel
theorem dX7_init_39 : decode cX7_init 39 = .ok (.aload_n 0, 1) := by decide +kernel
theorem dX7_init_40 : decode cX7_init 40 = .ok (.new 34, 3) := by decide +kernel
theorem dX7_init_43 : decode cX7_init 43 = .ok (.dup, 1) := by decide +kernel
theorem dX7_init_44 : decode cX7_init 44 = .ok (.aload_n 0, 1) := by decide +kernel
theorem dX7_init_45 : decode cX7_init 45 = .ok (.getfield 14, 3) := by decide +kernel
theorem dX7_init_48 : decode cX7_init 48 = .ok (.aload_n 0, 1) := by decide +kernel
theorem dX7_init_49 : decode cX7_init 49 = .ok (.getfield 23, 3) := by decide +kernel
theorem dX7_init_52 : decode cX7_init 52 = .ok (.invokespecial 36, 3) := by decide +kernel
theorem dX7_init_55 : decode cX7_init 55 = .ok (.putfield 39, 3) := by decide +kernel
theorem dX7_init_58 : decode cX7_init 58 = .ok (.aload_n 0, 1) := by decide +kernel
theorem dX7_init_59 : decode cX7_init 59 = .ok (.iconst 4, 1) := by decide +kernel
theorem dX7_init_60 : decode cX7_init 60 = .ok (.anewarray 43, 3) := by decide +kernel
theorem dX7_init_63 : decode cX7_init 63 = .ok (.putfield 45, 3) := by decide +kernel
theorem dX7_init_66 : decode cX7_init 66 = .ok (.iconst 0, 1) := by decide +kernel
theorem dX7_init_67 : decode cX7_init 67 = .ok (.istore_n 1, 1) := by decide +kernel
theorem dX7_init_68 : decode cX7_init 68 = .ok (.iload_n 1, 1) := by decide +kernel
theorem dX7_init_69 : decode cX7_init 69 = .ok (.iconst 4, 1) := by decide +kernel
theorem dX7_init_70 : decode cX7_init 70 = .ok (.if_icmp .ge 22, 3) := by decide +kernel
theorem dX7_init_73 : decode cX7_init 73 = .ok (.aload_n 0, 1) := by decide +kernel
theorem dX7_init_74 : decode cX7_init 74 = .ok (.getfield 45, 3) := by decide +kernel
theorem dX7_init_77 : decode cX7_init 77 = .ok (.iload_n 1, 1) := by decide +kernel
theorem dX7_init_78 : decode cX7_init 78 = .ok (.new 43, 3) := by decide +kernel
theorem dX7_init_81 : decode cX7_init 81 = .ok (.dup, 1) := by decide +kernel
theorem dX7_init_82 : decode cX7_init 82 = .ok (.invokespecial 49, 3) := by decide +kernel
theorem dX7_init_85 : decode cX7_init 85 = .ok (.aastore, 1) := by decide +kernel
theorem dX7_init_86 : decode cX7_init 86 = .ok (.iinc 1 1, 3) := by decide +kernel
theorem dX7_init_89 : decode cX7_init 89 = .ok (.goto (-21), 3) := by decide +kernel
theorem dX7_init_92 : decode cX7_init 92 = .ok (.return_, 1) := by decide +kernel
theorem dX7_coast_0 : decode cX7_coast 0 = .ok (.aload_n 0, 1) := by decide +kernel
theorem dX7_coast_1 : decode cX7_coast 1 = .ok (.iconst 0, 1) := by decide +kernel
theorem dX7_coast_2 : decode cX7_coast 2 = .ok (.putfield 50, 3) := by decide +kernel
theorem dX7_coast_5 : decode cX7_coast 5 = .ok (.aload_n 0, 1) := by decide +kernel
theorem dX7_coast_6 : decode cX7_coast 6 = .ok (.iload_n 1, 1) := by decide +kernel
theorem dX7_coast_7 : decode cX7_coast 7 = .ok (.invokevirtual 54, 3) := by decide +kernel
theorem dX7_coast_10 : decode cX7_coast 10 = .ok (.astore 5, 2) := by decide +kernel
theorem dX7_coast_12 : decode cX7_coast 12 = .ok (.aload 5, 2) := by decide +kernel
theorem dX7_coast_14 : decode cX7_coast 14 = .ok (.ifnonnull 5, 3) := by decide +kernel
theorem dX7_coast_17 : decode cX7_coast 17 = .ok (.iconst (-1), 1) := by decide +kernel
theorem dX7_coast_18 : decode cX7_coast 18 = .ok (.ireturn, 1) := by decide +kernel
theorem dX7_coast_19 : decode cX7_coast 19 = .ok (.iload_n 2, 1) := by decide +kernel
theorem dX7_coast_20 : decode cX7_coast 20 = .ok (.invokestatic 58, 3) := by decide +kernel
theorem dX7_coast_23 : decode cX7_coast 23 = .ok (.ifCond .ne 6, 3) := by decide +kernel
theorem dX7_coast_26 : decode cX7_coast 26 = .ok (.bipush (-2), 2) := by decide +kernel
theorem dX7_coast_28 : decode cX7_coast 28 = .ok (.ireturn, 1) := by decide +kernel
theorem dX7_coast_29 : decode cX7_coast 29 = .ok (.aload 5, 2) := by decide +kernel
theorem dX7_coast_31 : decode cX7_coast 31 = .ok (.iload_n 2, 1) := by decide +kernel
theorem dX7_coast_32 : decode cX7_coast 32 = .ok (.iload_n 3, 1) := by decide +kernel
theorem dX7_coast_33 : decode cX7_coast 33 = .ok (.iload 4, 2) := by decide +kernel
theorem dX7_coast_35 : decode cX7_coast 35 = .ok (.invokevirtual 62, 3) := by decide +kernel
theorem dX7_coast_38 : decode cX7_coast 38 = .ok (.istore 6, 2) := by decide +kernel
theorem dX7_coast_40 : decode cX7_coast 40 = .ok (.iload 6, 2) := by decide +kernel
theorem dX7_coast_42 : decode cX7_coast 42 = .ok (.ifCond .eq 10, 3) := by decide +kernel
theorem dX7_coast_45 : decode cX7_coast 45 = .ok (.aload_n 0, 1) := by decide +kernel
theorem dX7_coast_46 : decode cX7_coast 46 = .ok (.iload 6, 2) := by decide +kernel
theorem dX7_coast_48 : decode cX7_coast 48 = .ok (.invokevirtual 66, 3) := by decide +kernel
theorem dX7_coast_51 : decode cX7_coast 51 = .ok (.ireturn, 1) := by decide +kernel
theorem dX7_coast_52 : decode cX7_coast 52 = .ok (.aload 5, 2) := by decide +kernel
theorem dX7_coast_54 : decode cX7_coast 54 = .ok (.iload_n 3, 1) := by decide +kernel
theorem dX7_coast_55 : decode cX7_coast 55 = .ok (.iload 4, 2) := by decide +kernel
theorem dX7_coast_57 : decode cX7_coast 57 = .ok (.invokestatic 70, 3) := by decide +kernel
theorem dX7_coast_60 : decode cX7_coast 60 = .ok (.istore 7, 2) := by decide +kernel
theorem dX7_coast_62 : decode cX7_coast 62 = .ok (.iload 7, 2) := by decide +kernel
theorem dX7_coast_64 : decode cX7_coast 64 = .ok (.bipush (-9), 2) := by decide +kernel
theorem dX7_coast_66 : decode cX7_coast 66 = .ok (.if_icmp .eq 9, 3) := by decide +kernel
theorem dX7_coast_69 : decode cX7_coast 69 = .ok (.bipush (-100), 2) := by decide +kernel
theorem dX7_coast_71 : decode cX7_coast 71 = .ok (.iload 7, 2) := by decide +kernel
theorem dX7_coast_73 : decode cX7_coast 73 = .ok (.isub, 1) := by decide +kernel
theorem dX7_coast_74 : decode cX7_coast 74 = .ok (.ireturn, 1) := by decide +kernel
theorem dX7_coast_75 : decode cX7_coast 75 = .ok (.aload 5, 2) := by decide +kernel
theorem dX7_coast_77 : decode cX7_coast 77 = .ok (.iload_n 3, 1) := by decide +kernel
theorem dX7_coast_78 : decode cX7_coast 78 = .ok (.aload_n 0, 1) := by decide +kernel
theorem dX7_coast_79 : decode cX7_coast 79 = .ok (.getfield 14, 3) := by decide +kernel
theorem dX7_coast_82 : decode cX7_coast 82 = .ok (.invokestatic 76, 3) := by decide +kernel
theorem dX7_coast_85 : decode cX7_coast 85 = .ok (.aload_n 0, 1) := by decide +kernel
theorem dX7_coast_86 : decode cX7_coast 86 = .ok (.getfield 23, 3) := by decide +kernel
theorem dX7_coast_89 : decode cX7_coast 89 = .ok (.iconst 0, 1) := by decide +kernel
theorem dX7_coast_90 : decode cX7_coast 90 = .ok (.putfield 80, 3) := by decide +kernel
theorem dX7_coast_93 : decode cX7_coast 93 = .ok (.aload_n 0, 1) := by decide +kernel
theorem dX7_coast_94 : decode cX7_coast 94 = .ok (.getfield 30, 3) := by decide +kernel
theorem dX7_coast_97 : decode cX7_coast 97 = .ok (.iconst 0, 1) := by decide +kernel
theorem dX7_coast_98 : decode cX7_coast 98 = .ok (.putfield 83, 3) := by decide +kernel
theorem dX7_coast_101 : decode cX7_coast 101 = .ok (.aload_n 0, 1) := by decide +kernel
theorem dX7_coast_102 : decode cX7_coast 102 = .ok (.getfield 14, 3) := by decide +kernel
theorem dX7_coast_105 : decode cX7_coast 105 = .ok (.getfield 84, 3) := by decide +kernel
theorem dX7_coast_108 : decode cX7_coast 108 = .ok (.ireturn, 1) := by decide +kernel
theorem dX7_ofPerson_0 : decode cX7_ofPerson 0 = .ok (.aload_n 0, 1) := by decide +kernel
theorem dX7_ofPerson_1 : decode cX7_ofPerson 1 = .ok (.getfield 14, 3) := by decide +kernel
theorem dX7_ofPerson_4 : decode cX7_ofPerson 4 = .ok (.iload_n 1, 1) := by decide +kernel
theorem dX7_ofPerson_5 : decode cX7_ofPerson 5 = .ok (.invokevirtual 85, 3) := by decide +kernel
theorem dX7_ofPerson_8 : decode cX7_ofPerson 8 = .ok (.ifCond .ne 5, 3) := by decide +kernel
theorem dX7_ofPerson_11 : decode cX7_ofPerson 11 = .ok (.iconst (-1), 1) := by decide +kernel
theorem dX7_ofPerson_12 : decode cX7_ofPerson 12 = .ok (.ireturn, 1) := by decide +kernel
theorem dX7_ofPerson_13 : decode cX7_ofPerson 13 = .ok (.iload_n 2, 1) := by decide +kernel
theorem dX7_ofPerson_14 : decode cX7_ofPerson 14 = .ok (.tableswitch 107 0 5 #[38, 48, 58, 68, 78, 87], 38) := by decide +kernel
theorem dX7_ofPerson_52 : decode cX7_ofPerson 52 = .ok (.aload_n 0, 1) := by decide +kernel
theorem dX7_ofPerson_53 : decode cX7_ofPerson 53 = .ok (.getfield 14, 3) := by decide +kernel
theorem dX7_ofPerson_56 : decode cX7_ofPerson 56 = .ok (.getfield 88, 3) := by decide +kernel
theorem dX7_ofPerson_59 : decode cX7_ofPerson 59 = .ok (.iload_n 1, 1) := by decide +kernel
theorem dX7_ofPerson_60 : decode cX7_ofPerson 60 = .ok (.iaload, 1) := by decide +kernel
theorem dX7_ofPerson_61 : decode cX7_ofPerson 61 = .ok (.ireturn, 1) := by decide +kernel
theorem dX7_ofPerson_62 : decode cX7_ofPerson 62 = .ok (.aload_n 0, 1) := by decide +kernel
theorem dX7_ofPerson_63 : decode cX7_ofPerson 63 = .ok (.getfield 14, 3) := by decide +kernel
theorem dX7_ofPerson_66 : decode cX7_ofPerson 66 = .ok (.getfield 92, 3) := by decide +kernel
theorem dX7_ofPerson_69 : decode cX7_ofPerson 69 = .ok (.iload_n 1, 1) := by decide +kernel
theorem dX7_ofPerson_70 : decode cX7_ofPerson 70 = .ok (.iaload, 1) := by decide +kernel
theorem dX7_ofPerson_71 : decode cX7_ofPerson 71 = .ok (.ireturn, 1) := by decide +kernel
theorem dX7_ofPerson_72 : decode cX7_ofPerson 72 = .ok (.aload_n 0, 1) := by decide +kernel
theorem dX7_ofPerson_73 : decode cX7_ofPerson 73 = .ok (.getfield 14, 3) := by decide +kernel
theorem dX7_ofPerson_76 : decode cX7_ofPerson 76 = .ok (.getfield 95, 3) := by decide +kernel
theorem dX7_ofPerson_79 : decode cX7_ofPerson 79 = .ok (.iload_n 1, 1) := by decide +kernel
theorem dX7_ofPerson_80 : decode cX7_ofPerson 80 = .ok (.iaload, 1) := by decide +kernel
theorem dX7_ofPerson_81 : decode cX7_ofPerson 81 = .ok (.ireturn, 1) := by decide +kernel
theorem dX7_ofPerson_82 : decode cX7_ofPerson 82 = .ok (.aload_n 0, 1) := by decide +kernel
theorem dX7_ofPerson_83 : decode cX7_ofPerson 83 = .ok (.getfield 14, 3) := by decide +kernel
theorem dX7_ofPerson_86 : decode cX7_ofPerson 86 = .ok (.getfield 98, 3) := by decide +kernel
theorem dX7_ofPerson_89 : decode cX7_ofPerson 89 = .ok (.iload_n 1, 1) := by decide +kernel
theorem dX7_ofPerson_90 : decode cX7_ofPerson 90 = .ok (.iaload, 1) := by decide +kernel
theorem dX7_ofPerson_91 : decode cX7_ofPerson 91 = .ok (.ireturn, 1) := by decide +kernel
theorem dX7_ofPerson_92 : decode cX7_ofPerson 92 = .ok (.aload_n 0, 1) := by decide +kernel
theorem dX7_ofPerson_93 : decode cX7_ofPerson 93 = .ok (.getfield 14, 3) := by decide +kernel
theorem dX7_ofPerson_96 : decode cX7_ofPerson 96 = .ok (.iload_n 1, 1) := by decide +kernel
theorem dX7_ofPerson_97 : decode cX7_ofPerson 97 = .ok (.invokevirtual 101, 3) := by decide +kernel
theorem dX7_ofPerson_100 : decode cX7_ofPerson 100 = .ok (.ireturn, 1) := by decide +kernel
theorem dX7_ofPerson_101 : decode cX7_ofPerson 101 = .ok (.aload_n 0, 1) := by decide +kernel
theorem dX7_ofPerson_102 : decode cX7_ofPerson 102 = .ok (.getfield 14, 3) := by decide +kernel
theorem dX7_ofPerson_105 : decode cX7_ofPerson 105 = .ok (.getfield 104, 3) := by decide +kernel
theorem dX7_ofPerson_108 : decode cX7_ofPerson 108 = .ok (.iload_n 1, 1) := by decide +kernel
theorem dX7_ofPerson_109 : decode cX7_ofPerson 109 = .ok (.invokestatic 107, 3) := by decide +kernel
theorem dX7_ofPerson_112 : decode cX7_ofPerson 112 = .ok (.ifCond .eq 7, 3) := by decide +kernel
theorem dX7_ofPerson_115 : decode cX7_ofPerson 115 = .ok (.iconst 1, 1) := by decide +kernel
theorem dX7_ofPerson_116 : decode cX7_ofPerson 116 = .ok (.goto 4, 3) := by decide +kernel
theorem dX7_ofPerson_119 : decode cX7_ofPerson 119 = .ok (.iconst 0, 1) := by decide +kernel
theorem dX7_ofPerson_120 : decode cX7_ofPerson 120 = .ok (.ireturn, 1) := by decide +kernel
theorem dX7_ofPerson_121 : decode cX7_ofPerson 121 = .ok (.bipush (-2), 2) := by decide +kernel
theorem dX7_ofPerson_123 : decode cX7_ofPerson 123 = .ok (.ireturn, 1) := by decide +kernel
theorem dX7_insult_0 : decode cX7_insult 0 = .ok (.aload_n 0, 1) := by decide +kernel
theorem dX7_insult_1 : decode cX7_insult 1 = .ok (.getfield 14, 3) := by decide +kernel
theorem dX7_insult_4 : decode cX7_insult 4 = .ok (.iload_n 1, 1) := by decide +kernel
theorem dX7_insult_5 : decode cX7_insult 5 = .ok (.iload_n 2, 1) := by decide +kernel
theorem dX7_insult_6 : decode cX7_insult 6 = .ok (.invokevirtual 111, 3) := by decide +kernel
theorem dX7_insult_9 : decode cX7_insult 9 = .ok (.ifCond .ne 5, 3) := by decide +kernel
theorem dX7_insult_12 : decode cX7_insult 12 = .ok (.iconst (-1), 1) := by decide +kernel
theorem dX7_insult_13 : decode cX7_insult 13 = .ok (.ireturn, 1) := by decide +kernel
theorem dX7_insult_14 : decode cX7_insult 14 = .ok (.iload_n 3, 1) := by decide +kernel
theorem dX7_insult_15 : decode cX7_insult 15 = .ok (.invokestatic 114, 3) := by decide +kernel
theorem dX7_insult_18 : decode cX7_insult 18 = .ok (.ifCond .eq 16, 3) := by decide +kernel
theorem dX7_insult_21 : decode cX7_insult 21 = .ok (.iload 4, 2) := by decide +kernel
theorem dX7_insult_23 : decode cX7_insult 23 = .ok (.iconst 1, 1) := by decide +kernel
theorem dX7_insult_24 : decode cX7_insult 24 = .ok (.if_icmp .lt 10, 3) := by decide +kernel
theorem dX7_insult_27 : decode cX7_insult 27 = .ok (.iload 4, 2) := by decide +kernel
theorem dX7_insult_29 : decode cX7_insult 29 = .ok (.bipush 9, 2) := by decide +kernel
theorem dX7_insult_31 : decode cX7_insult 31 = .ok (.if_icmp .le 6, 3) := by decide +kernel
theorem dX7_insult_34 : decode cX7_insult 34 = .ok (.bipush (-2), 2) := by decide +kernel
theorem dX7_insult_36 : decode cX7_insult 36 = .ok (.ireturn, 1) := by decide +kernel
theorem dX7_insult_37 : decode cX7_insult 37 = .ok (.aload_n 0, 1) := by decide +kernel
theorem dX7_insult_38 : decode cX7_insult 38 = .ok (.getfield 23, 3) := by decide +kernel
theorem dX7_insult_41 : decode cX7_insult 41 = .ok (.getfield 80, 3) := by decide +kernel
theorem dX7_insult_44 : decode cX7_insult 44 = .ok (.bipush 8, 2) := by decide +kernel
theorem dX7_insult_46 : decode cX7_insult 46 = .ok (.if_icmp .lt 6, 3) := by decide +kernel
theorem dX7_insult_49 : decode cX7_insult 49 = .ok (.bipush (-4), 2) := by decide +kernel
theorem dX7_insult_51 : decode cX7_insult 51 = .ok (.ireturn, 1) := by decide +kernel
theorem dX7_insult_52 : decode cX7_insult 52 = .ok (.aload_n 0, 1) := by decide +kernel
theorem dX7_insult_53 : decode cX7_insult 53 = .ok (.getfield 23, 3) := by decide +kernel
theorem dX7_insult_56 : decode cX7_insult 56 = .ok (.iload_n 1, 1) := by decide +kernel
theorem dX7_insult_57 : decode cX7_insult 57 = .ok (.iload_n 2, 1) := by decide +kernel
theorem dX7_insult_58 : decode cX7_insult 58 = .ok (.iload_n 3, 1) := by decide +kernel
theorem dX7_insult_59 : decode cX7_insult 59 = .ok (.iload 4, 2) := by decide +kernel
theorem dX7_insult_61 : decode cX7_insult 61 = .ok (.invokevirtual 117, 3) := by decide +kernel
theorem dX7_insult_64 : decode cX7_insult 64 = .ok (.aload_n 0, 1) := by decide +kernel
theorem dX7_insult_65 : decode cX7_insult 65 = .ok (.getfield 23, 3) := by decide +kernel
theorem dX7_insult_68 : decode cX7_insult 68 = .ok (.getfield 80, 3) := by decide +kernel
theorem dX7_insult_71 : decode cX7_insult 71 = .ok (.iconst 1, 1) := by decide +kernel
theorem dX7_insult_72 : decode cX7_insult 72 = .ok (.isub, 1) := by decide +kernel
theorem dX7_insult_73 : decode cX7_insult 73 = .ok (.ireturn, 1) := by decide +kernel
theorem dX7_sorry_0 : decode cX7_sorry 0 = .ok (.iload_n 1, 1) := by decide +kernel
theorem dX7_sorry_1 : decode cX7_sorry 1 = .ok (.ifCond .lt 14, 3) := by decide +kernel
theorem dX7_sorry_4 : decode cX7_sorry 4 = .ok (.iload_n 1, 1) := by decide +kernel
theorem dX7_sorry_5 : decode cX7_sorry 5 = .ok (.aload_n 0, 1) := by decide +kernel
theorem dX7_sorry_6 : decode cX7_sorry 6 = .ok (.getfield 23, 3) := by decide +kernel
theorem dX7_sorry_9 : decode cX7_sorry 9 = .ok (.getfield 80, 3) := by decide +kernel
theorem dX7_sorry_12 : decode cX7_sorry 12 = .ok (.if_icmp .le 6, 3) := by decide +kernel
theorem dX7_sorry_15 : decode cX7_sorry 15 = .ok (.bipush (-2), 2) := by decide +kernel
theorem dX7_sorry_17 : decode cX7_sorry 17 = .ok (.ireturn, 1) := by decide +kernel
theorem dX7_sorry_18 : decode cX7_sorry 18 = .ok (.aload_n 0, 1) := by decide +kernel
theorem dX7_sorry_19 : decode cX7_sorry 19 = .ok (.getfield 23, 3) := by decide +kernel
theorem dX7_sorry_22 : decode cX7_sorry 22 = .ok (.dup, 1) := by decide +kernel
theorem dX7_sorry_23 : decode cX7_sorry 23 = .ok (.getfield 80, 3) := by decide +kernel
theorem dX7_sorry_26 : decode cX7_sorry 26 = .ok (.iload_n 1, 1) := by decide +kernel
theorem dX7_sorry_27 : decode cX7_sorry 27 = .ok (.isub, 1) := by decide +kernel
theorem dX7_sorry_28 : decode cX7_sorry 28 = .ok (.putfield 80, 3) := by decide +kernel
theorem dX7_sorry_31 : decode cX7_sorry 31 = .ok (.aload_n 0, 1) := by decide +kernel
theorem dX7_sorry_32 : decode cX7_sorry 32 = .ok (.getfield 23, 3) := by decide +kernel
theorem dX7_sorry_35 : decode cX7_sorry 35 = .ok (.getfield 80, 3) := by decide +kernel
theorem dX7_sorry_38 : decode cX7_sorry 38 = .ok (.ireturn, 1) := by decide +kernel
theorem dX7_arrest_0 : decode cX7_arrest 0 = .ok (.aload_n 0, 1) := by decide +kernel
theorem dX7_arrest_1 : decode cX7_arrest 1 = .ok (.getfield 14, 3) := by decide +kernel
theorem dX7_arrest_4 : decode cX7_arrest 4 = .ok (.iload_n 1, 1) := by decide +kernel
theorem dX7_arrest_5 : decode cX7_arrest 5 = .ok (.invokevirtual 85, 3) := by decide +kernel
theorem dX7_arrest_8 : decode cX7_arrest 8 = .ok (.ifCond .ne 5, 3) := by decide +kernel
theorem dX7_arrest_11 : decode cX7_arrest 11 = .ok (.iconst (-1), 1) := by decide +kernel
theorem dX7_arrest_12 : decode cX7_arrest 12 = .ok (.ireturn, 1) := by decide +kernel
theorem dX7_arrest_13 : decode cX7_arrest 13 = .ok (.aload_n 0, 1) := by decide +kernel
theorem dX7_arrest_14 : decode cX7_arrest 14 = .ok (.getfield 14, 3) := by decide +kernel
theorem dX7_arrest_17 : decode cX7_arrest 17 = .ok (.getfield 104, 3) := by decide +kernel
theorem dX7_arrest_20 : decode cX7_arrest 20 = .ok (.iload_n 1, 1) := by decide +kernel
theorem dX7_arrest_21 : decode cX7_arrest 21 = .ok (.invokestatic 107, 3) := by decide +kernel
theorem dX7_arrest_24 : decode cX7_arrest 24 = .ok (.iload_n 2, 1) := by decide +kernel
theorem dX7_arrest_25 : decode cX7_arrest 25 = .ok (.if_icmp .ne 5, 3) := by decide +kernel
theorem dX7_arrest_28 : decode cX7_arrest 28 = .ok (.iconst 0, 1) := by decide +kernel
theorem dX7_arrest_29 : decode cX7_arrest 29 = .ok (.ireturn, 1) := by decide +kernel
theorem dX7_arrest_30 : decode cX7_arrest 30 = .ok (.aload_n 0, 1) := by decide +kernel
theorem dX7_arrest_31 : decode cX7_arrest 31 = .ok (.getfield 14, 3) := by decide +kernel
theorem dX7_arrest_34 : decode cX7_arrest 34 = .ok (.dup, 1) := by decide +kernel
theorem dX7_arrest_35 : decode cX7_arrest 35 = .ok (.getfield 104, 3) := by decide +kernel
theorem dX7_arrest_38 : decode cX7_arrest 38 = .ok (.iload_n 1, 1) := by decide +kernel
theorem dX7_arrest_39 : decode cX7_arrest 39 = .ok (.invokestatic 121, 3) := by decide +kernel
theorem dX7_arrest_42 : decode cX7_arrest 42 = .ok (.ixor, 1) := by decide +kernel
theorem dX7_arrest_43 : decode cX7_arrest 43 = .ok (.putfield 104, 3) := by decide +kernel
theorem dX7_arrest_46 : decode cX7_arrest 46 = .ok (.iconst 1, 1) := by decide +kernel
theorem dX7_arrest_47 : decode cX7_arrest 47 = .ok (.ireturn, 1) := by decide +kernel
theorem dX7_meetings_0 : decode cX7_meetings 0 = .ok (.iload_n 1, 1) := by decide +kernel
theorem dX7_meetings_1 : decode cX7_meetings 1 = .ok (.invokestatic 124, 3) := by decide +kernel
theorem dX7_meetings_4 : decode cX7_meetings 4 = .ok (.ifCond .ne 6, 3) := by decide +kernel
theorem dX7_meetings_7 : decode cX7_meetings 7 = .ok (.bipush (-2), 2) := by decide +kernel
theorem dX7_meetings_9 : decode cX7_meetings 9 = .ok (.ireturn, 1) := by decide +kernel
theorem dX7_meetings_10 : decode cX7_meetings 10 = .ok (.aload_n 0, 1) := by decide +kernel
theorem dX7_meetings_11 : decode cX7_meetings 11 = .ok (.invokevirtual 127, 3) := by decide +kernel
theorem dX7_meetings_14 : decode cX7_meetings 14 = .ok (.ifCond .eq 6, 3) := by decide +kernel
theorem dX7_meetings_17 : decode cX7_meetings 17 = .ok (.bipush (-3), 2) := by decide +kernel
theorem dX7_meetings_19 : decode cX7_meetings 19 = .ok (.ireturn, 1) := by decide +kernel
theorem dX7_meetings_20 : decode cX7_meetings 20 = .ok (.aload_n 0, 1) := by decide +kernel
theorem dX7_meetings_21 : decode cX7_meetings 21 = .ok (.getfield 39, 3) := by decide +kernel
theorem dX7_meetings_24 : decode cX7_meetings 24 = .ok (.iconst (-1), 1) := by decide +kernel
theorem dX7_meetings_25 : decode cX7_meetings 25 = .ok (.aload_n 0, 1) := by decide +kernel
theorem dX7_meetings_26 : decode cX7_meetings 26 = .ok (.getfield 14, 3) := by decide +kernel
theorem dX7_meetings_29 : decode cX7_meetings 29 = .ok (.getfield 104, 3) := by decide +kernel
theorem dX7_meetings_32 : decode cX7_meetings 32 = .ok (.iload_n 1, 1) := by decide +kernel
theorem dX7_meetings_33 : decode cX7_meetings 33 = .ok (.invokevirtual 131, 3) := by decide +kernel
theorem dX7_meetings_36 : decode cX7_meetings 36 = .ok (.aload_n 0, 1) := by decide +kernel
theorem dX7_meetings_37 : decode cX7_meetings 37 = .ok (.getfield 39, 3) := by decide +kernel
theorem dX7_meetings_40 : decode cX7_meetings 40 = .ok (.getfield 135, 3) := by decide +kernel
theorem dX7_meetings_43 : decode cX7_meetings 43 = .ok (.getfield 139, 3) := by decide +kernel
theorem dX7_meetings_46 : decode cX7_meetings 46 = .ok (.ireturn, 1) := by decide +kernel
theorem dX7_met_0 : decode cX7_met 0 = .ok (.aload_n 0, 1) := by decide +kernel
theorem dX7_met_1 : decode cX7_met 1 = .ok (.getfield 39, 3) := by decide +kernel
theorem dX7_met_4 : decode cX7_met 4 = .ok (.iconst (-1), 1) := by decide +kernel
theorem dX7_met_5 : decode cX7_met 5 = .ok (.aload_n 0, 1) := by decide +kernel
theorem dX7_met_6 : decode cX7_met 6 = .ok (.getfield 14, 3) := by decide +kernel
theorem dX7_met_9 : decode cX7_met 9 = .ok (.getfield 104, 3) := by decide +kernel
theorem dX7_met_12 : decode cX7_met 12 = .ok (.bipush 59, 2) := by decide +kernel
theorem dX7_met_14 : decode cX7_met 14 = .ok (.invokevirtual 131, 3) := by decide +kernel
theorem dX7_met_17 : decode cX7_met 17 = .ok (.iload_n 1, 1) := by decide +kernel
theorem dX7_met_18 : decode cX7_met 18 = .ok (.ifCond .lt 17, 3) := by decide +kernel
theorem dX7_met_21 : decode cX7_met 21 = .ok (.iload_n 1, 1) := by decide +kernel
theorem dX7_met_22 : decode cX7_met 22 = .ok (.aload_n 0, 1) := by decide +kernel
theorem dX7_met_23 : decode cX7_met 23 = .ok (.getfield 39, 3) := by decide +kernel
theorem dX7_met_26 : decode cX7_met 26 = .ok (.getfield 135, 3) := by decide +kernel
theorem dX7_met_29 : decode cX7_met 29 = .ok (.getfield 139, 3) := by decide +kernel
theorem dX7_met_32 : decode cX7_met 32 = .ok (.if_icmp .lt 5, 3) := by decide +kernel
theorem dX7_met_35 : decode cX7_met 35 = .ok (.iconst (-1), 1) := by decide +kernel
theorem dX7_met_36 : decode cX7_met 36 = .ok (.ireturn, 1) := by decide +kernel
theorem dX7_met_37 : decode cX7_met 37 = .ok (.iload_n 2, 1) := by decide +kernel
theorem dX7_met_38 : decode cX7_met 38 = .ok (.ifCond .lt 9, 3) := by decide +kernel
theorem dX7_met_41 : decode cX7_met 41 = .ok (.iload_n 2, 1) := by decide +kernel
theorem dX7_met_42 : decode cX7_met 42 = .ok (.bipush 6, 2) := by decide +kernel
theorem dX7_met_44 : decode cX7_met 44 = .ok (.if_icmp .lt 6, 3) := by decide +kernel
theorem dX7_met_47 : decode cX7_met 47 = .ok (.bipush (-2), 2) := by decide +kernel
theorem dX7_met_49 : decode cX7_met 49 = .ok (.ireturn, 1) := by decide +kernel
theorem dX7_met_50 : decode cX7_met 50 = .ok (.aload_n 0, 1) := by decide +kernel
theorem dX7_met_51 : decode cX7_met 51 = .ok (.getfield 39, 3) := by decide +kernel
theorem dX7_met_54 : decode cX7_met 54 = .ok (.getfield 135, 3) := by decide +kernel
theorem dX7_met_57 : decode cX7_met 57 = .ok (.getfield 142, 3) := by decide +kernel
theorem dX7_met_60 : decode cX7_met 60 = .ok (.iload_n 2, 1) := by decide +kernel
theorem dX7_met_61 : decode cX7_met 61 = .ok (.aaload, 1) := by decide +kernel
theorem dX7_met_62 : decode cX7_met 62 = .ok (.iload_n 1, 1) := by decide +kernel
theorem dX7_met_63 : decode cX7_met 63 = .ok (.iaload, 1) := by decide +kernel
theorem dX7_met_64 : decode cX7_met 64 = .ok (.ireturn, 1) := by decide +kernel
theorem dX7_free_0 : decode cX7_free 0 = .ok (.aload_n 0, 1) := by decide +kernel
theorem dX7_free_1 : decode cX7_free 1 = .ok (.getfield 14, 3) := by decide +kernel
theorem dX7_free_4 : decode cX7_free 4 = .ok (.iload_n 1, 1) := by decide +kernel
theorem dX7_free_5 : decode cX7_free 5 = .ok (.invokevirtual 85, 3) := by decide +kernel
theorem dX7_free_8 : decode cX7_free 8 = .ok (.ifCond .ne 5, 3) := by decide +kernel
theorem dX7_free_11 : decode cX7_free 11 = .ok (.iconst (-1), 1) := by decide +kernel
theorem dX7_free_12 : decode cX7_free 12 = .ok (.ireturn, 1) := by decide +kernel
theorem dX7_free_13 : decode cX7_free 13 = .ok (.iload_n 2, 1) := by decide +kernel
theorem dX7_free_14 : decode cX7_free 14 = .ok (.invokestatic 124, 3) := by decide +kernel
theorem dX7_free_17 : decode cX7_free 17 = .ok (.ifCond .ne 6, 3) := by decide +kernel
theorem dX7_free_20 : decode cX7_free 20 = .ok (.bipush (-2), 2) := by decide +kernel
theorem dX7_free_22 : decode cX7_free 22 = .ok (.ireturn, 1) := by decide +kernel
theorem dX7_free_23 : decode cX7_free 23 = .ok (.aload_n 0, 1) := by decide +kernel
theorem dX7_free_24 : decode cX7_free 24 = .ok (.getfield 39, 3) := by decide +kernel
theorem dX7_free_27 : decode cX7_free 27 = .ok (.iconst (-1), 1) := by decide +kernel
theorem dX7_free_28 : decode cX7_free 28 = .ok (.aload_n 0, 1) := by decide +kernel
theorem dX7_free_29 : decode cX7_free 29 = .ok (.getfield 14, 3) := by decide +kernel
theorem dX7_free_32 : decode cX7_free 32 = .ok (.getfield 104, 3) := by decide +kernel
theorem dX7_free_35 : decode cX7_free 35 = .ok (.iload_n 2, 1) := by decide +kernel
theorem dX7_free_36 : decode cX7_free 36 = .ok (.iconst 1, 1) := by decide +kernel
theorem dX7_free_37 : decode cX7_free 37 = .ok (.isub, 1) := by decide +kernel
theorem dX7_free_38 : decode cX7_free 38 = .ok (.invokevirtual 131, 3) := by decide +kernel
theorem dX7_free_41 : decode cX7_free 41 = .ok (.aload_n 0, 1) := by decide +kernel
theorem dX7_free_42 : decode cX7_free 42 = .ok (.getfield 39, 3) := by decide +kernel
theorem dX7_free_45 : decode cX7_free 45 = .ok (.iload_n 2, 1) := by decide +kernel
theorem dX7_free_46 : decode cX7_free 46 = .ok (.invokevirtual 146, 3) := by decide +kernel
theorem dX7_free_49 : decode cX7_free 49 = .ok (.iload_n 1, 1) := by decide +kernel
theorem dX7_free_50 : decode cX7_free 50 = .ok (.invokestatic 107, 3) := by decide +kernel
theorem dX7_free_53 : decode cX7_free 53 = .ok (.ifCond .eq 7, 3) := by decide +kernel
theorem dX7_free_56 : decode cX7_free 56 = .ok (.iconst 1, 1) := by decide +kernel
theorem dX7_free_57 : decode cX7_free 57 = .ok (.goto 4, 3) := by decide +kernel
theorem dX7_free_60 : decode cX7_free 60 = .ok (.iconst 0, 1) := by decide +kernel
theorem dX7_free_61 : decode cX7_free 61 = .ok (.ireturn, 1) := by decide +kernel
theorem dX7_second_0 : decode cX7_second 0 = .ok (.aload_n 0, 1) := by decide +kernel
theorem dX7_second_1 : decode cX7_second 1 = .ok (.getfield 14, 3) := by decide +kernel
theorem dX7_second_4 : decode cX7_second 4 = .ok (.iload_n 1, 1) := by decide +kernel
theorem dX7_second_5 : decode cX7_second 5 = .ok (.iload_n 2, 1) := by decide +kernel
theorem dX7_second_6 : decode cX7_second 6 = .ok (.invokevirtual 111, 3) := by decide +kernel
theorem dX7_second_9 : decode cX7_second 9 = .ok (.ifCond .ne 5, 3) := by decide +kernel
theorem dX7_second_12 : decode cX7_second 12 = .ok (.iconst (-1), 1) := by decide +kernel
theorem dX7_second_13 : decode cX7_second 13 = .ok (.ireturn, 1) := by decide +kernel
theorem dX7_second_14 : decode cX7_second 14 = .ok (.iload_n 3, 1) := by decide +kernel
theorem dX7_second_15 : decode cX7_second 15 = .ok (.invokestatic 124, 3) := by decide +kernel
theorem dX7_second_18 : decode cX7_second 18 = .ok (.ifCond .ne 6, 3) := by decide +kernel
theorem dX7_second_21 : decode cX7_second 21 = .ok (.bipush (-2), 2) := by decide +kernel
theorem dX7_second_23 : decode cX7_second 23 = .ok (.ireturn, 1) := by decide +kernel
theorem dX7_second_24 : decode cX7_second 24 = .ok (.aload_n 0, 1) := by decide +kernel
theorem dX7_second_25 : decode cX7_second 25 = .ok (.getfield 39, 3) := by decide +kernel
theorem dX7_second_28 : decode cX7_second 28 = .ok (.iconst (-1), 1) := by decide +kernel
theorem dX7_second_29 : decode cX7_second 29 = .ok (.aload_n 0, 1) := by decide +kernel
theorem dX7_second_30 : decode cX7_second 30 = .ok (.getfield 14, 3) := by decide +kernel
theorem dX7_second_33 : decode cX7_second 33 = .ok (.getfield 104, 3) := by decide +kernel
theorem dX7_second_36 : decode cX7_second 36 = .ok (.iload_n 3, 1) := by decide +kernel
theorem dX7_second_37 : decode cX7_second 37 = .ok (.iconst 1, 1) := by decide +kernel
theorem dX7_second_38 : decode cX7_second 38 = .ok (.isub, 1) := by decide +kernel
theorem dX7_second_39 : decode cX7_second 39 = .ok (.invokevirtual 131, 3) := by decide +kernel
theorem dX7_second_42 : decode cX7_second 42 = .ok (.aload_n 0, 1) := by decide +kernel
theorem dX7_second_43 : decode cX7_second 43 = .ok (.getfield 14, 3) := by decide +kernel
theorem dX7_second_46 : decode cX7_second 46 = .ok (.iload_n 1, 1) := by decide +kernel
theorem dX7_second_47 : decode cX7_second 47 = .ok (.aload_n 0, 1) := by decide +kernel
theorem dX7_second_48 : decode cX7_second 48 = .ok (.getfield 39, 3) := by decide +kernel
theorem dX7_second_51 : decode cX7_second 51 = .ok (.iload_n 3, 1) := by decide +kernel
theorem dX7_second_52 : decode cX7_second 52 = .ok (.invokevirtual 146, 3) := by decide +kernel
theorem dX7_second_55 : decode cX7_second 55 = .ok (.iload_n 1, 1) := by decide +kernel
theorem dX7_second_56 : decode cX7_second 56 = .ok (.invokestatic 121, 3) := by decide +kernel
theorem dX7_second_59 : decode cX7_second 59 = .ok (.iload_n 2, 1) := by decide +kernel
theorem dX7_second_60 : decode cX7_second 60 = .ok (.invokestatic 121, 3) := by decide +kernel
theorem dX7_second_63 : decode cX7_second 63 = .ok (.ior, 1) := by decide +kernel
theorem dX7_second_64 : decode cX7_second 64 = .ok (.iconst (-1), 1) := by decide +kernel
theorem dX7_second_65 : decode cX7_second 65 = .ok (.ixor, 1) := by decide +kernel
theorem dX7_second_66 : decode cX7_second 66 = .ok (.iand, 1) := by decide +kernel
theorem dX7_second_67 : decode cX7_second 67 = .ok (.invokevirtual 149, 3) := by decide +kernel
theorem dX7_second_70 : decode cX7_second 70 = .ok (.ireturn, 1) := by decide +kernel
theorem dX7_worth_0 : decode cX7_worth 0 = .ok (.iload_n 1, 1) := by decide +kernel
theorem dX7_worth_1 : decode cX7_worth 1 = .ok (.ifCond .lt 14, 3) := by decide +kernel
theorem dX7_worth_4 : decode cX7_worth 4 = .ok (.iload_n 1, 1) := by decide +kernel
theorem dX7_worth_5 : decode cX7_worth 5 = .ok (.aload_n 0, 1) := by decide +kernel
theorem dX7_worth_6 : decode cX7_worth 6 = .ok (.getfield 23, 3) := by decide +kernel
theorem dX7_worth_9 : decode cX7_worth 9 = .ok (.getfield 80, 3) := by decide +kernel
theorem dX7_worth_12 : decode cX7_worth 12 = .ok (.if_icmp .lt 5, 3) := by decide +kernel
theorem dX7_worth_15 : decode cX7_worth 15 = .ok (.iconst (-1), 1) := by decide +kernel
theorem dX7_worth_16 : decode cX7_worth 16 = .ok (.ireturn, 1) := by decide +kernel
theorem dX7_worth_17 : decode cX7_worth 17 = .ok (.aload_n 0, 1) := by decide +kernel
theorem dX7_worth_18 : decode cX7_worth 18 = .ok (.getfield 39, 3) := by decide +kernel
theorem dX7_worth_21 : decode cX7_worth 21 = .ok (.iconst (-1), 1) := by decide +kernel
theorem dX7_worth_22 : decode cX7_worth 22 = .ok (.aload_n 0, 1) := by decide +kernel
theorem dX7_worth_23 : decode cX7_worth 23 = .ok (.getfield 14, 3) := by decide +kernel
theorem dX7_worth_26 : decode cX7_worth 26 = .ok (.getfield 104, 3) := by decide +kernel
theorem dX7_worth_29 : decode cX7_worth 29 = .ok (.bipush 59, 2) := by decide +kernel
theorem dX7_worth_31 : decode cX7_worth 31 = .ok (.invokevirtual 131, 3) := by decide +kernel
theorem dX7_worth_34 : decode cX7_worth 34 = .ok (.aload_n 0, 1) := by decide +kernel
theorem dX7_worth_35 : decode cX7_worth 35 = .ok (.getfield 39, 3) := by decide +kernel
theorem dX7_worth_38 : decode cX7_worth 38 = .ok (.getfield 135, 3) := by decide +kernel
theorem dX7_worth_41 : decode cX7_worth 41 = .ok (.getfield 139, 3) := by decide +kernel
theorem dX7_worth_44 : decode cX7_worth 44 = .ok (.istore_n 2, 1) := by decide +kernel
theorem dX7_worth_45 : decode cX7_worth 45 = .ok (.aload_n 0, 1) := by decide +kernel
theorem dX7_worth_46 : decode cX7_worth 46 = .ok (.getfield 39, 3) := by decide +kernel
theorem dX7_worth_49 : decode cX7_worth 49 = .ok (.iload_n 1, 1) := by decide +kernel
theorem dX7_worth_50 : decode cX7_worth 50 = .ok (.invokestatic 121, 3) := by decide +kernel
theorem dX7_worth_53 : decode cX7_worth 53 = .ok (.iconst (-1), 1) := by decide +kernel
theorem dX7_worth_54 : decode cX7_worth 54 = .ok (.ixor, 1) := by decide +kernel
theorem dX7_worth_55 : decode cX7_worth 55 = .ok (.aload_n 0, 1) := by decide +kernel
theorem dX7_worth_56 : decode cX7_worth 56 = .ok (.getfield 14, 3) := by decide +kernel
theorem dX7_worth_59 : decode cX7_worth 59 = .ok (.getfield 104, 3) := by decide +kernel
theorem dX7_worth_62 : decode cX7_worth 62 = .ok (.bipush 59, 2) := by decide +kernel
theorem dX7_worth_64 : decode cX7_worth 64 = .ok (.invokevirtual 131, 3) := by decide +kernel
theorem dX7_worth_67 : decode cX7_worth 67 = .ok (.iload_n 2, 1) := by decide +kernel
theorem dX7_worth_68 : decode cX7_worth 68 = .ok (.aload_n 0, 1) := by decide +kernel
theorem dX7_worth_69 : decode cX7_worth 69 = .ok (.getfield 39, 3) := by decide +kernel
theorem dX7_worth_72 : decode cX7_worth 72 = .ok (.getfield 135, 3) := by decide +kernel
theorem dX7_worth_75 : decode cX7_worth 75 = .ok (.getfield 139, 3) := by decide +kernel
theorem dX7_worth_78 : decode cX7_worth 78 = .ok (.isub, 1) := by decide +kernel
theorem dX7_worth_79 : decode cX7_worth 79 = .ok (.sipush 1000, 3) := by decide +kernel
theorem dX7_worth_82 : decode cX7_worth 82 = .ok (.iadd, 1) := by decide +kernel
theorem dX7_worth_83 : decode cX7_worth 83 = .ok (.ireturn, 1) := by decide +kernel
theorem dX7_row_0 : decode cX7_row 0 = .ok (.aload_n 0, 1) := by decide +kernel
theorem dX7_row_1 : decode cX7_row 1 = .ok (.iconst 0, 1) := by decide +kernel
theorem dX7_row_2 : decode cX7_row 2 = .ok (.putfield 50, 3) := by decide +kernel
theorem dX7_row_5 : decode cX7_row 5 = .ok (.aload_n 0, 1) := by decide +kernel
theorem dX7_row_6 : decode cX7_row 6 = .ok (.iload_n 1, 1) := by decide +kernel
theorem dX7_row_7 : decode cX7_row 7 = .ok (.invokevirtual 54, 3) := by decide +kernel
theorem dX7_row_10 : decode cX7_row 10 = .ok (.astore 5, 2) := by decide +kernel
theorem dX7_row_12 : decode cX7_row 12 = .ok (.aload 5, 2) := by decide +kernel
theorem dX7_row_14 : decode cX7_row 14 = .ok (.ifnonnull 5, 3) := by decide +kernel
theorem dX7_row_17 : decode cX7_row 17 = .ok (.iconst (-1), 1) := by decide +kernel
theorem dX7_row_18 : decode cX7_row 18 = .ok (.ireturn, 1) := by decide +kernel
theorem dX7_row_19 : decode cX7_row 19 = .ok (.iload_n 2, 1) := by decide +kernel
theorem dX7_row_20 : decode cX7_row 20 = .ok (.invokestatic 58, 3) := by decide +kernel
theorem dX7_row_23 : decode cX7_row 23 = .ok (.ifCond .ne 6, 3) := by decide +kernel
theorem dX7_row_26 : decode cX7_row 26 = .ok (.bipush (-2), 2) := by decide +kernel
theorem dX7_row_28 : decode cX7_row 28 = .ok (.ireturn, 1) := by decide +kernel
theorem dX7_row_29 : decode cX7_row 29 = .ok (.aload 5, 2) := by decide +kernel
theorem dX7_row_31 : decode cX7_row 31 = .ok (.iload_n 2, 1) := by decide +kernel
theorem dX7_row_32 : decode cX7_row 32 = .ok (.iload_n 3, 1) := by decide +kernel
theorem dX7_row_33 : decode cX7_row 33 = .ok (.iload 4, 2) := by decide +kernel
theorem dX7_row_35 : decode cX7_row 35 = .ok (.invokevirtual 62, 3) := by decide +kernel
theorem dX7_row_38 : decode cX7_row 38 = .ok (.istore 6, 2) := by decide +kernel
theorem dX7_row_40 : decode cX7_row 40 = .ok (.iload 6, 2) := by decide +kernel
theorem dX7_row_42 : decode cX7_row 42 = .ok (.ifCond .eq 10, 3) := by decide +kernel
theorem dX7_row_45 : decode cX7_row 45 = .ok (.aload_n 0, 1) := by decide +kernel
theorem dX7_row_46 : decode cX7_row 46 = .ok (.iload 6, 2) := by decide +kernel
theorem dX7_row_48 : decode cX7_row 48 = .ok (.invokevirtual 66, 3) := by decide +kernel
theorem dX7_row_51 : decode cX7_row 51 = .ok (.ireturn, 1) := by decide +kernel
theorem dX7_row_52 : decode cX7_row 52 = .ok (.aload_n 0, 1) := by decide +kernel
theorem dX7_row_53 : decode cX7_row 53 = .ok (.invokevirtual 127, 3) := by decide +kernel
theorem dX7_row_56 : decode cX7_row 56 = .ok (.ifCond .eq 6, 3) := by decide +kernel
theorem dX7_row_59 : decode cX7_row 59 = .ok (.bipush (-3), 2) := by decide +kernel
theorem dX7_row_61 : decode cX7_row 61 = .ok (.ireturn, 1) := by decide +kernel
theorem dX7_row_62 : decode cX7_row 62 = .ok (.iconst 0, 1) := by decide +kernel
theorem dX7_row_63 : decode cX7_row 63 = .ok (.istore 7, 2) := by decide +kernel
theorem dX7_row_65 : decode cX7_row 65 = .ok (.iload 7, 2) := by decide +kernel
theorem dX7_row_67 : decode cX7_row 67 = .ok (.iload 4, 2) := by decide +kernel
theorem dX7_row_69 : decode cX7_row 69 = .ok (.if_icmp .ge 30, 3) := by decide +kernel
theorem dX7_row_72 : decode cX7_row 72 = .ok (.aload_n 0, 1) := by decide +kernel
theorem dX7_row_73 : decode cX7_row 73 = .ok (.getfield 14, 3) := by decide +kernel
theorem dX7_row_76 : decode cX7_row 76 = .ok (.aload 5, 2) := by decide +kernel
theorem dX7_row_78 : decode cX7_row 78 = .ok (.iload_n 3, 1) := by decide +kernel
theorem dX7_row_79 : decode cX7_row 79 = .ok (.iload 7, 2) := by decide +kernel
theorem dX7_row_81 : decode cX7_row 81 = .ok (.iadd, 1) := by decide +kernel
theorem dX7_row_82 : decode cX7_row 82 = .ok (.invokevirtual 177, 3) := by decide +kernel
theorem dX7_row_85 : decode cX7_row 85 = .ok (.invokevirtual 85, 3) := by decide +kernel
theorem dX7_row_88 : decode cX7_row 88 = .ok (.ifCond .ne 5, 3) := by decide +kernel
theorem dX7_row_91 : decode cX7_row 91 = .ok (.iconst (-1), 1) := by decide +kernel
theorem dX7_row_92 : decode cX7_row 92 = .ok (.ireturn, 1) := by decide +kernel
theorem dX7_row_93 : decode cX7_row 93 = .ok (.iinc 7 1, 3) := by decide +kernel
theorem dX7_row_96 : decode cX7_row 96 = .ok (.goto (-31), 3) := by decide +kernel
theorem dX7_row_99 : decode cX7_row 99 = .ok (.aload_n 0, 1) := by decide +kernel
theorem dX7_row_100 : decode cX7_row 100 = .ok (.aload 5, 2) := by decide +kernel
theorem dX7_row_102 : decode cX7_row 102 = .ok (.iload_n 3, 1) := by decide +kernel
theorem dX7_row_103 : decode cX7_row 103 = .ok (.iload 4, 2) := by decide +kernel
theorem dX7_row_105 : decode cX7_row 105 = .ok (.invokevirtual 180, 3) := by decide +kernel
theorem dX7_row_108 : decode cX7_row 108 = .ok (.ireturn, 1) := by decide +kernel
theorem dX7_freeInTurn_0 : decode cX7_freeInTurn 0 = .ok (.aload_n 0, 1) := by decide +kernel
theorem dX7_freeInTurn_1 : decode cX7_freeInTurn 1 = .ok (.getfield 39, 3) := by decide +kernel
theorem dX7_freeInTurn_4 : decode cX7_freeInTurn 4 = .ok (.iconst (-1), 1) := by decide +kernel
theorem dX7_freeInTurn_5 : decode cX7_freeInTurn 5 = .ok (.aload_n 0, 1) := by decide +kernel
theorem dX7_freeInTurn_6 : decode cX7_freeInTurn 6 = .ok (.getfield 14, 3) := by decide +kernel
theorem dX7_freeInTurn_9 : decode cX7_freeInTurn 9 = .ok (.getfield 104, 3) := by decide +kernel
theorem dX7_freeInTurn_12 : decode cX7_freeInTurn 12 = .ok (.invokevirtual 183, 3) := by decide +kernel
theorem dX7_freeInTurn_15 : decode cX7_freeInTurn 15 = .ok (.iconst 0, 1) := by decide +kernel
theorem dX7_freeInTurn_16 : decode cX7_freeInTurn 16 = .ok (.istore 4, 2) := by decide +kernel
theorem dX7_freeInTurn_18 : decode cX7_freeInTurn 18 = .ok (.iload 4, 2) := by decide +kernel
theorem dX7_freeInTurn_20 : decode cX7_freeInTurn 20 = .ok (.iload_n 3, 1) := by decide +kernel
theorem dX7_freeInTurn_21 : decode cX7_freeInTurn 21 = .ok (.if_icmp .ge 44, 3) := by decide +kernel
theorem dX7_freeInTurn_24 : decode cX7_freeInTurn 24 = .ok (.aload_n 0, 1) := by decide +kernel
theorem dX7_freeInTurn_25 : decode cX7_freeInTurn 25 = .ok (.getfield 39, 3) := by decide +kernel
theorem dX7_freeInTurn_28 : decode cX7_freeInTurn 28 = .ok (.iload 4, 2) := by decide +kernel
theorem dX7_freeInTurn_30 : decode cX7_freeInTurn 30 = .ok (.invokevirtual 146, 3) := by decide +kernel
theorem dX7_freeInTurn_33 : decode cX7_freeInTurn 33 = .ok (.aload_n 1, 1) := by decide +kernel
theorem dX7_freeInTurn_34 : decode cX7_freeInTurn 34 = .ok (.iload_n 2, 1) := by decide +kernel
theorem dX7_freeInTurn_35 : decode cX7_freeInTurn 35 = .ok (.iload 4, 2) := by decide +kernel
theorem dX7_freeInTurn_37 : decode cX7_freeInTurn 37 = .ok (.iadd, 1) := by decide +kernel
theorem dX7_freeInTurn_38 : decode cX7_freeInTurn 38 = .ok (.invokevirtual 177, 3) := by decide +kernel
theorem dX7_freeInTurn_41 : decode cX7_freeInTurn 41 = .ok (.invokestatic 107, 3) := by decide +kernel
theorem dX7_freeInTurn_44 : decode cX7_freeInTurn 44 = .ok (.ifCond .ne 6, 3) := by decide +kernel
theorem dX7_freeInTurn_47 : decode cX7_freeInTurn 47 = .ok (.iload 4, 2) := by decide +kernel
theorem dX7_freeInTurn_49 : decode cX7_freeInTurn 49 = .ok (.ireturn, 1) := by decide +kernel
theorem dX7_freeInTurn_50 : decode cX7_freeInTurn 50 = .ok (.aload_n 0, 1) := by decide +kernel
theorem dX7_freeInTurn_51 : decode cX7_freeInTurn 51 = .ok (.getfield 39, 3) := by decide +kernel
theorem dX7_freeInTurn_54 : decode cX7_freeInTurn 54 = .ok (.iload 4, 2) := by decide +kernel
theorem dX7_freeInTurn_56 : decode cX7_freeInTurn 56 = .ok (.invokevirtual 187, 3) := by decide +kernel
theorem dX7_freeInTurn_59 : decode cX7_freeInTurn 59 = .ok (.iinc 4 1, 3) := by decide +kernel
theorem dX7_freeInTurn_62 : decode cX7_freeInTurn 62 = .ok (.goto (-44), 3) := by decide +kernel
theorem dX7_freeInTurn_65 : decode cX7_freeInTurn 65 = .ok (.iload_n 3, 1) := by decide +kernel
theorem dX7_freeInTurn_66 : decode cX7_freeInTurn 66 = .ok (.ireturn, 1) := by decide +kernel
theorem dX7_sheet_0 : decode cX7_sheet 0 = .ok (.aload_n 0, 1) := by decide +kernel
theorem dX7_sheet_1 : decode cX7_sheet 1 = .ok (.iconst 0, 1) := by decide +kernel
theorem dX7_sheet_2 : decode cX7_sheet 2 = .ok (.putfield 50, 3) := by decide +kernel
theorem dX7_sheet_5 : decode cX7_sheet 5 = .ok (.aload_n 0, 1) := by decide +kernel
theorem dX7_sheet_6 : decode cX7_sheet 6 = .ok (.iload_n 1, 1) := by decide +kernel
theorem dX7_sheet_7 : decode cX7_sheet 7 = .ok (.invokevirtual 54, 3) := by decide +kernel
theorem dX7_sheet_10 : decode cX7_sheet 10 = .ok (.astore 4, 2) := by decide +kernel
theorem dX7_sheet_12 : decode cX7_sheet 12 = .ok (.aload 4, 2) := by decide +kernel
theorem dX7_sheet_14 : decode cX7_sheet 14 = .ok (.ifnonnull 5, 3) := by decide +kernel
theorem dX7_sheet_17 : decode cX7_sheet 17 = .ok (.iconst (-1), 1) := by decide +kernel
theorem dX7_sheet_18 : decode cX7_sheet 18 = .ok (.ireturn, 1) := by decide +kernel
theorem dX7_sheet_19 : decode cX7_sheet 19 = .ok (.iload_n 2, 1) := by decide +kernel
theorem dX7_sheet_20 : decode cX7_sheet 20 = .ok (.invokestatic 58, 3) := by decide +kernel
theorem dX7_sheet_23 : decode cX7_sheet 23 = .ok (.ifCond .eq 9, 3) := by decide +kernel
theorem dX7_sheet_26 : decode cX7_sheet 26 = .ok (.iload_n 3, 1) := by decide +kernel
theorem dX7_sheet_27 : decode cX7_sheet 27 = .ok (.bipush 50, 2) := by decide +kernel
theorem dX7_sheet_29 : decode cX7_sheet 29 = .ok (.if_icmp .le 6, 3) := by decide +kernel
theorem dX7_sheet_32 : decode cX7_sheet 32 = .ok (.bipush (-2), 2) := by decide +kernel
theorem dX7_sheet_34 : decode cX7_sheet 34 = .ok (.ireturn, 1) := by decide +kernel
theorem dX7_sheet_35 : decode cX7_sheet 35 = .ok (.iload_n 3, 1) := by decide +kernel
theorem dX7_sheet_36 : decode cX7_sheet 36 = .ok (.ifCond .ge 9, 3) := by decide +kernel
theorem dX7_sheet_39 : decode cX7_sheet 39 = .ok (.aload_n 0, 1) := by decide +kernel
theorem dX7_sheet_40 : decode cX7_sheet 40 = .ok (.iconst 4, 1) := by decide +kernel
theorem dX7_sheet_41 : decode cX7_sheet 41 = .ok (.invokevirtual 66, 3) := by decide +kernel
theorem dX7_sheet_44 : decode cX7_sheet 44 = .ok (.ireturn, 1) := by decide +kernel
theorem dX7_sheet_45 : decode cX7_sheet 45 = .ok (.aload 4, 2) := by decide +kernel
theorem dX7_sheet_47 : decode cX7_sheet 47 = .ok (.iload_n 2, 1) := by decide +kernel
theorem dX7_sheet_48 : decode cX7_sheet 48 = .ok (.iload_n 3, 1) := by decide +kernel
theorem dX7_sheet_49 : decode cX7_sheet 49 = .ok (.invokevirtual 190, 3) := by decide +kernel
theorem dX7_sheet_52 : decode cX7_sheet 52 = .ok (.iconst 1, 1) := by decide +kernel
theorem dX7_sheet_53 : decode cX7_sheet 53 = .ok (.ireturn, 1) := by decide +kernel
theorem dX7_put_0 : decode cX7_put 0 = .ok (.aload_n 0, 1) := by decide +kernel
theorem dX7_put_1 : decode cX7_put 1 = .ok (.iconst 0, 1) := by decide +kernel
theorem dX7_put_2 : decode cX7_put 2 = .ok (.putfield 50, 3) := by decide +kernel
theorem dX7_put_5 : decode cX7_put 5 = .ok (.aload_n 0, 1) := by decide +kernel
theorem dX7_put_6 : decode cX7_put 6 = .ok (.iload_n 1, 1) := by decide +kernel
theorem dX7_put_7 : decode cX7_put 7 = .ok (.invokevirtual 54, 3) := by decide +kernel
theorem dX7_put_10 : decode cX7_put 10 = .ok (.astore 4, 2) := by decide +kernel
theorem dX7_put_12 : decode cX7_put 12 = .ok (.aload 4, 2) := by decide +kernel
theorem dX7_put_14 : decode cX7_put 14 = .ok (.ifnonnull 5, 3) := by decide +kernel
theorem dX7_put_17 : decode cX7_put 17 = .ok (.iconst (-1), 1) := by decide +kernel
theorem dX7_put_18 : decode cX7_put 18 = .ok (.ireturn, 1) := by decide +kernel
theorem dX7_put_19 : decode cX7_put 19 = .ok (.aload 4, 2) := by decide +kernel
theorem dX7_put_21 : decode cX7_put 21 = .ok (.getfield 193, 3) := by decide +kernel
theorem dX7_put_24 : decode cX7_put 24 = .ok (.ifCond .ne 9, 3) := by decide +kernel
theorem dX7_put_27 : decode cX7_put 27 = .ok (.aload_n 0, 1) := by decide +kernel
theorem dX7_put_28 : decode cX7_put 28 = .ok (.iconst 1, 1) := by decide +kernel
theorem dX7_put_29 : decode cX7_put 29 = .ok (.invokevirtual 66, 3) := by decide +kernel
theorem dX7_put_32 : decode cX7_put 32 = .ok (.ireturn, 1) := by decide +kernel
theorem dX7_put_33 : decode cX7_put 33 = .ok (.aload 4, 2) := by decide +kernel
theorem dX7_put_35 : decode cX7_put 35 = .ok (.iload_n 2, 1) := by decide +kernel
theorem dX7_put_36 : decode cX7_put 36 = .ok (.iconst 1, 1) := by decide +kernel
theorem dX7_put_37 : decode cX7_put 37 = .ok (.invokevirtual 197, 3) := by decide +kernel
theorem dX7_put_40 : decode cX7_put 40 = .ok (.ifCond .ne 9, 3) := by decide +kernel
theorem dX7_put_43 : decode cX7_put 43 = .ok (.aload_n 0, 1) := by decide +kernel
theorem dX7_put_44 : decode cX7_put 44 = .ok (.iconst 3, 1) := by decide +kernel
theorem dX7_put_45 : decode cX7_put 45 = .ok (.invokevirtual 66, 3) := by decide +kernel
theorem dX7_put_48 : decode cX7_put 48 = .ok (.ireturn, 1) := by decide +kernel
theorem dX7_put_49 : decode cX7_put 49 = .ok (.aload 4, 2) := by decide +kernel
theorem dX7_put_51 : decode cX7_put 51 = .ok (.getfield 200, 3) := by decide +kernel
theorem dX7_put_54 : decode cX7_put 54 = .ok (.iload_n 2, 1) := by decide +kernel
theorem dX7_put_55 : decode cX7_put 55 = .ok (.iload_n 3, 1) := by decide +kernel
theorem dX7_put_56 : decode cX7_put 56 = .ok (.aload 4, 2) := by decide +kernel
theorem dX7_put_58 : decode cX7_put 58 = .ok (.getfield 203, 3) := by decide +kernel
theorem dX7_put_61 : decode cX7_put 61 = .ok (.invokestatic 206, 3) := by decide +kernel
theorem dX7_put_64 : decode cX7_put 64 = .ok (.iastore, 1) := by decide +kernel
theorem dX7_put_65 : decode cX7_put 65 = .ok (.iconst 1, 1) := by decide +kernel
theorem dX7_put_66 : decode cX7_put 66 = .ok (.ireturn, 1) := by decide +kernel
theorem dX7_many_0 : decode cX7_many 0 = .ok (.iload_n 1, 1) := by decide +kernel
theorem dX7_many_1 : decode cX7_many 1 = .ok (.tableswitch 83 0 3 #[31, 39, 47, 55], 31) := by decide +kernel
theorem dX7_many_32 : decode cX7_many 32 = .ok (.aload_n 0, 1) := by decide +kernel
theorem dX7_many_33 : decode cX7_many 33 = .ok (.getfield 14, 3) := by decide +kernel
theorem dX7_many_36 : decode cX7_many 36 = .ok (.getfield 84, 3) := by decide +kernel
theorem dX7_many_39 : decode cX7_many 39 = .ok (.ireturn, 1) := by decide +kernel
theorem dX7_many_40 : decode cX7_many 40 = .ok (.aload_n 0, 1) := by decide +kernel
theorem dX7_many_41 : decode cX7_many 41 = .ok (.getfield 23, 3) := by decide +kernel
theorem dX7_many_44 : decode cX7_many 44 = .ok (.getfield 80, 3) := by decide +kernel
theorem dX7_many_47 : decode cX7_many 47 = .ok (.ireturn, 1) := by decide +kernel
theorem dX7_many_48 : decode cX7_many 48 = .ok (.aload_n 0, 1) := by decide +kernel
theorem dX7_many_49 : decode cX7_many 49 = .ok (.getfield 30, 3) := by decide +kernel
theorem dX7_many_52 : decode cX7_many 52 = .ok (.getfield 83, 3) := by decide +kernel
theorem dX7_many_55 : decode cX7_many 55 = .ok (.ireturn, 1) := by decide +kernel
theorem dX7_many_56 : decode cX7_many 56 = .ok (.aload_n 0, 1) := by decide +kernel
theorem dX7_many_57 : decode cX7_many 57 = .ok (.getfield 39, 3) := by decide +kernel
theorem dX7_many_60 : decode cX7_many 60 = .ok (.iconst (-1), 1) := by decide +kernel
theorem dX7_many_61 : decode cX7_many 61 = .ok (.aload_n 0, 1) := by decide +kernel
theorem dX7_many_62 : decode cX7_many 62 = .ok (.getfield 14, 3) := by decide +kernel
theorem dX7_many_65 : decode cX7_many 65 = .ok (.getfield 104, 3) := by decide +kernel
theorem dX7_many_68 : decode cX7_many 68 = .ok (.bipush 59, 2) := by decide +kernel
theorem dX7_many_70 : decode cX7_many 70 = .ok (.invokevirtual 131, 3) := by decide +kernel
theorem dX7_many_73 : decode cX7_many 73 = .ok (.aload_n 0, 1) := by decide +kernel
theorem dX7_many_74 : decode cX7_many 74 = .ok (.getfield 39, 3) := by decide +kernel
theorem dX7_many_77 : decode cX7_many 77 = .ok (.getfield 135, 3) := by decide +kernel
theorem dX7_many_80 : decode cX7_many 80 = .ok (.getfield 139, 3) := by decide +kernel
theorem dX7_many_83 : decode cX7_many 83 = .ok (.ireturn, 1) := by decide +kernel
theorem dX7_many_84 : decode cX7_many 84 = .ok (.bipush (-2), 2) := by decide +kernel
theorem dX7_many_86 : decode cX7_many 86 = .ok (.ireturn, 1) := by decide +kernel
theorem dX7_isEmpty_0 : decode cX7_isEmpty 0 = .ok (.aload_n 0, 1) := by decide +kernel
theorem dX7_isEmpty_1 : decode cX7_isEmpty 1 = .ok (.getfield 14, 3) := by decide +kernel
theorem dX7_isEmpty_4 : decode cX7_isEmpty 4 = .ok (.getfield 84, 3) := by decide +kernel
theorem dX7_isEmpty_7 : decode cX7_isEmpty 7 = .ok (.ifCond .ne 7, 3) := by decide +kernel
theorem dX7_isEmpty_10 : decode cX7_isEmpty 10 = .ok (.iconst 1, 1) := by decide +kernel
theorem dX7_isEmpty_11 : decode cX7_isEmpty 11 = .ok (.goto 4, 3) := by decide +kernel
theorem dX7_isEmpty_14 : decode cX7_isEmpty 14 = .ok (.iconst 0, 1) := by decide +kernel
theorem dX7_isEmpty_15 : decode cX7_isEmpty 15 = .ok (.ireturn, 1) := by decide +kernel
theorem dX7_sheetOf_0 : decode cX7_sheetOf 0 = .ok (.iload_n 1, 1) := by decide +kernel
theorem dX7_sheetOf_1 : decode cX7_sheetOf 1 = .ok (.ifCond .lt 17, 3) := by decide +kernel
theorem dX7_sheetOf_4 : decode cX7_sheetOf 4 = .ok (.iload_n 1, 1) := by decide +kernel
theorem dX7_sheetOf_5 : decode cX7_sheetOf 5 = .ok (.iconst 4, 1) := by decide +kernel
theorem dX7_sheetOf_6 : decode cX7_sheetOf 6 = .ok (.if_icmp .ge 12, 3) := by decide +kernel
theorem dX7_sheetOf_9 : decode cX7_sheetOf 9 = .ok (.aload_n 0, 1) := by decide +kernel
theorem dX7_sheetOf_10 : decode cX7_sheetOf 10 = .ok (.getfield 45, 3) := by decide +kernel
theorem dX7_sheetOf_13 : decode cX7_sheetOf 13 = .ok (.iload_n 1, 1) := by decide +kernel
theorem dX7_sheetOf_14 : decode cX7_sheetOf 14 = .ok (.aaload, 1) := by decide +kernel
theorem dX7_sheetOf_15 : decode cX7_sheetOf 15 = .ok (.goto 4, 3) := by decide +kernel
theorem dX7_sheetOf_18 : decode cX7_sheetOf 18 = .ok (.aconst_null, 1) := by decide +kernel
theorem dX7_sheetOf_19 : decode cX7_sheetOf 19 = .ok (.areturn, 1) := by decide +kernel
theorem dX7_faulted_0 : decode cX7_faulted 0 = .ok (.aload_n 0, 1) := by decide +kernel
theorem dX7_faulted_1 : decode cX7_faulted 1 = .ok (.iload_n 1, 1) := by decide +kernel
theorem dX7_faulted_2 : decode cX7_faulted 2 = .ok (.putfield 50, 3) := by decide +kernel
theorem dX7_faulted_5 : decode cX7_faulted 5 = .ok (.bipush (-10), 2) := by decide +kernel
theorem dX7_faulted_7 : decode cX7_faulted 7 = .ok (.iload_n 1, 1) := by decide +kernel
theorem dX7_faulted_8 : decode cX7_faulted 8 = .ok (.isub, 1) := by decide +kernel
theorem dX7_faulted_9 : decode cX7_faulted 9 = .ok (.ireturn, 1) := by decide +kernel
theorem dX7_isLane_0 : decode cX7_isLane 0 = .ok (.iload_n 0, 1) := by decide +kernel
theorem dX7_isLane_1 : decode cX7_isLane 1 = .ok (.ifCond .lt 12, 3) := by decide +kernel
theorem dX7_isLane_4 : decode cX7_isLane 4 = .ok (.iload_n 0, 1) := by decide +kernel
theorem dX7_isLane_5 : decode cX7_isLane 5 = .ok (.iconst 3, 1) := by decide +kernel
theorem dX7_isLane_6 : decode cX7_isLane 6 = .ok (.if_icmp .ge 7, 3) := by decide +kernel
theorem dX7_isLane_9 : decode cX7_isLane 9 = .ok (.iconst 1, 1) := by decide +kernel
theorem dX7_isLane_10 : decode cX7_isLane 10 = .ok (.goto 4, 3) := by decide +kernel
theorem dX7_isLane_13 : decode cX7_isLane 13 = .ok (.iconst 0, 1) := by decide +kernel
theorem dX7_isLane_14 : decode cX7_isLane 14 = .ok (.ireturn, 1) := by decide +kernel
theorem dX7_isDay_0 : decode cX7_isDay 0 = .ok (.iload_n 0, 1) := by decide +kernel
theorem dX7_isDay_1 : decode cX7_isDay 1 = .ok (.ifCond .lt 13, 3) := by decide +kernel
theorem dX7_isDay_4 : decode cX7_isDay 4 = .ok (.iload_n 0, 1) := by decide +kernel
theorem dX7_isDay_5 : decode cX7_isDay 5 = .ok (.bipush 30, 2) := by decide +kernel
theorem dX7_isDay_7 : decode cX7_isDay 7 = .ok (.if_icmp .ge 7, 3) := by decide +kernel
theorem dX7_isDay_10 : decode cX7_isDay 10 = .ok (.iconst 1, 1) := by decide +kernel
theorem dX7_isDay_11 : decode cX7_isDay 11 = .ok (.goto 4, 3) := by decide +kernel
theorem dX7_isDay_14 : decode cX7_isDay 14 = .ok (.iconst 0, 1) := by decide +kernel
theorem dX7_isDay_15 : decode cX7_isDay 15 = .ok (.ireturn, 1) := by decide +kernel
theorem dX7_isDawn_0 : decode cX7_isDawn 0 = .ok (.iload_n 0, 1) := by decide +kernel
theorem dX7_isDawn_1 : decode cX7_isDawn 1 = .ok (.ifCond .lt 13, 3) := by decide +kernel
theorem dX7_isDawn_4 : decode cX7_isDawn 4 = .ok (.iload_n 0, 1) := by decide +kernel
theorem dX7_isDawn_5 : decode cX7_isDawn 5 = .ok (.bipush 60, 2) := by decide +kernel
theorem dX7_isDawn_7 : decode cX7_isDawn 7 = .ok (.if_icmp .ge 7, 3) := by decide +kernel
theorem dX7_isDawn_10 : decode cX7_isDawn 10 = .ok (.iconst 1, 1) := by decide +kernel
theorem dX7_isDawn_11 : decode cX7_isDawn 11 = .ok (.goto 4, 3) := by decide +kernel
theorem dX7_isDawn_14 : decode cX7_isDawn 14 = .ok (.iconst 0, 1) := by decide +kernel
theorem dX7_isDawn_15 : decode cX7_isDawn 15 = .ok (.ireturn, 1) := by decide +kernel
theorem dX7_bit_0 : decode cX7_bit 0 = .ok (.iconst 1, 1) := by decide +kernel
theorem dX7_bit_1 : decode cX7_bit 1 = .ok (.iload_n 0, 1) := by decide +kernel
theorem dX7_bit_2 : decode cX7_bit 2 = .ok (.ishl, 1) := by decide +kernel
theorem dX7_bit_3 : decode cX7_bit 3 = .ok (.ireturn, 1) := by decide +kernel
theorem dX7_in_0 : decode cX7_in 0 = .ok (.iload_n 0, 1) := by decide +kernel
theorem dX7_in_1 : decode cX7_in 1 = .ok (.iload_n 1, 1) := by decide +kernel
theorem dX7_in_2 : decode cX7_in 2 = .ok (.ishr, 1) := by decide +kernel
theorem dX7_in_3 : decode cX7_in 3 = .ok (.iconst 1, 1) := by decide +kernel
theorem dX7_in_4 : decode cX7_in 4 = .ok (.iand, 1) := by decide +kernel
theorem dX7_in_5 : decode cX7_in 5 = .ok (.iconst 1, 1) := by decide +kernel
theorem dX7_in_6 : decode cX7_in 6 = .ok (.if_icmp .ne 7, 3) := by decide +kernel
theorem dX7_in_9 : decode cX7_in 9 = .ok (.iconst 1, 1) := by decide +kernel
theorem dX7_in_10 : decode cX7_in 10 = .ok (.goto 4, 3) := by decide +kernel
theorem dX7_in_13 : decode cX7_in 13 = .ok (.iconst 0, 1) := by decide +kernel
theorem dX7_in_14 : decode cX7_in 14 = .ok (.ireturn, 1) := by decide +kernel
theorem dX7_cut_0 : decode cX7_cut 0 = .ok (.iload_n 1, 1) := by decide +kernel
theorem dX7_cut_1 : decode cX7_cut 1 = .ok (.lookupswitch 33 #[(0, 27), (1, 30)], 27) := by decide +kernel
theorem dX7_cut_28 : decode cX7_cut 28 = .ok (.iload_n 0, 1) := by decide +kernel
theorem dX7_cut_29 : decode cX7_cut 29 = .ok (.i2b, 1) := by decide +kernel
theorem dX7_cut_30 : decode cX7_cut 30 = .ok (.ireturn, 1) := by decide +kernel
theorem dX7_cut_31 : decode cX7_cut 31 = .ok (.iload_n 0, 1) := by decide +kernel
theorem dX7_cut_32 : decode cX7_cut 32 = .ok (.i2s, 1) := by decide +kernel
theorem dX7_cut_33 : decode cX7_cut 33 = .ok (.ireturn, 1) := by decide +kernel
theorem dX7_cut_34 : decode cX7_cut 34 = .ok (.iload_n 0, 1) := by decide +kernel
theorem dX7_cut_35 : decode cX7_cut 35 = .ok (.ireturn, 1) := by decide +kernel
theorem dJ9_abs_0f7a4_0 : decode cJ9_abs_0f7a4 0 = .ok (.iload_n 0, 1) := by decide +kernel
theorem dJ9_abs_0f7a4_1 : decode cJ9_abs_0f7a4 1 = .ok (.ifCond .ge 8, 3) := by decide +kernel
theorem dJ9_abs_0f7a4_4 : decode cJ9_abs_0f7a4 4 = .ok (.iload_n 0, 1) := by decide +kernel
theorem dJ9_abs_0f7a4_5 : decode cJ9_abs_0f7a4 5 = .ok (.ineg, 1) := by decide +kernel
theorem dJ9_abs_0f7a4_6 : decode cJ9_abs_0f7a4 6 = .ok (.goto 4, 3) := by decide +kernel
theorem dJ9_abs_0f7a4_9 : decode cJ9_abs_0f7a4 9 = .ok (.iload_n 0, 1) := by decide +kernel
theorem dJ9_abs_0f7a4_10 : decode cJ9_abs_0f7a4 10 = .ok (.ireturn, 1) := by decide +kernel
theorem dJ9_max_7cf53_0 : decode cJ9_max_7cf53 0 = .ok (.iload_n 0, 1) := by decide +kernel
theorem dJ9_max_7cf53_1 : decode cJ9_max_7cf53 1 = .ok (.iload_n 1, 1) := by decide +kernel
theorem dJ9_max_7cf53_2 : decode cJ9_max_7cf53 2 = .ok (.if_icmp .lt 7, 3) := by decide +kernel
theorem dJ9_max_7cf53_5 : decode cJ9_max_7cf53 5 = .ok (.iload_n 0, 1) := by decide +kernel
theorem dJ9_max_7cf53_6 : decode cJ9_max_7cf53 6 = .ok (.goto 4, 3) := by decide +kernel
theorem dJ9_max_7cf53_9 : decode cJ9_max_7cf53 9 = .ok (.iload_n 1, 1) := by decide +kernel
theorem dJ9_max_7cf53_10 : decode cJ9_max_7cf53 10 = .ok (.ireturn, 1) := by decide +kernel
theorem dJ9_min_7cf53_0 : decode cJ9_min_7cf53 0 = .ok (.iload_n 0, 1) := by decide +kernel
theorem dJ9_min_7cf53_1 : decode cJ9_min_7cf53 1 = .ok (.iload_n 1, 1) := by decide +kernel
theorem dJ9_min_7cf53_2 : decode cJ9_min_7cf53 2 = .ok (.if_icmp .gt 7, 3) := by decide +kernel
theorem dJ9_min_7cf53_5 : decode cJ9_min_7cf53 5 = .ok (.iload_n 0, 1) := by decide +kernel
theorem dJ9_min_7cf53_6 : decode cJ9_min_7cf53 6 = .ok (.goto 4, 3) := by decide +kernel
theorem dJ9_min_7cf53_9 : decode cJ9_min_7cf53 9 = .ok (.iload_n 1, 1) := by decide +kernel
theorem dJ9_min_7cf53_10 : decode cJ9_min_7cf53 10 = .ok (.ireturn, 1) := by decide +kernel
theorem dJ7_fill_53178_0 : decode cJ7_fill_53178 0 = .ok (.iconst 0, 1) := by decide +kernel
theorem dJ7_fill_53178_1 : decode cJ7_fill_53178 1 = .ok (.istore_n 2, 1) := by decide +kernel
theorem dJ7_fill_53178_2 : decode cJ7_fill_53178 2 = .ok (.aload_n 0, 1) := by decide +kernel
theorem dJ7_fill_53178_3 : decode cJ7_fill_53178 3 = .ok (.arraylength, 1) := by decide +kernel
theorem dJ7_fill_53178_4 : decode cJ7_fill_53178 4 = .ok (.istore_n 3, 1) := by decide +kernel
theorem dJ7_fill_53178_5 : decode cJ7_fill_53178 5 = .ok (.iload_n 2, 1) := by decide +kernel
theorem dJ7_fill_53178_6 : decode cJ7_fill_53178 6 = .ok (.iload_n 3, 1) := by decide +kernel
theorem dJ7_fill_53178_7 : decode cJ7_fill_53178 7 = .ok (.if_icmp .ge 13, 3) := by decide +kernel
theorem dJ7_fill_53178_10 : decode cJ7_fill_53178 10 = .ok (.aload_n 0, 1) := by decide +kernel
theorem dJ7_fill_53178_11 : decode cJ7_fill_53178 11 = .ok (.iload_n 2, 1) := by decide +kernel
theorem dJ7_fill_53178_12 : decode cJ7_fill_53178 12 = .ok (.iload_n 1, 1) := by decide +kernel
theorem dJ7_fill_53178_13 : decode cJ7_fill_53178 13 = .ok (.iastore, 1) := by decide +kernel
theorem dJ7_fill_53178_14 : decode cJ7_fill_53178 14 = .ok (.iinc 2 1, 3) := by decide +kernel
theorem dJ7_fill_53178_17 : decode cJ7_fill_53178 17 = .ok (.goto (-12), 3) := by decide +kernel
theorem dJ7_fill_53178_20 : decode cJ7_fill_53178 20 = .ok (.return_, 1) := by decide +kernel
