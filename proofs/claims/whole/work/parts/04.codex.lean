theorem dX0_init_0 : decode cX0_init 0 = .ok (.aload_n 0, 1) := by decide +kernel
theorem dX0_init_1 : decode cX0_init 1 = .ok (.invokespecial 3, 3) := by decide +kernel
theorem dX0_init_4 : decode cX0_init 4 = .ok (.aload_n 0, 1) := by decide +kernel
theorem dX0_init_5 : decode cX0_init 5 = .ok (.bipush 7, 2) := by decide +kernel
theorem dX0_init_7 : decode cX0_init 7 = .ok (.sipush 401, 3) := by decide +kernel
theorem dX0_init_10 : decode cX0_init 10 = .ok (.multianewarray 9 2, 4) := by decide +kernel
theorem dX0_init_14 : decode cX0_init 14 = .ok (.putfield 11, 3) := by decide +kernel
theorem dX0_init_17 : decode cX0_init 17 = .ok (.aload_n 0, 1) := by decide +kernel
theorem dX0_init_18 : decode cX0_init 18 = .ok (.bipush 6, 2) := by decide +kernel
theorem dX0_init_20 : decode cX0_init 20 = .ok (.newarray .int, 2) := by decide +kernel
theorem dX0_init_22 : decode cX0_init 22 = .ok (.putfield 16, 3) := by decide +kernel
theorem dX0_init_25 : decode cX0_init 25 = .ok (.aload_n 0, 1) := by decide +kernel
theorem dX0_init_26 : decode cX0_init 26 = .ok (.iconst 4, 1) := by decide +kernel
theorem dX0_init_27 : decode cX0_init 27 = .ok (.newarray .int, 2) := by decide +kernel
theorem dX0_init_29 : decode cX0_init 29 = .ok (.putfield 20, 3) := by decide +kernel
theorem dX0_init_32 : decode cX0_init 32 = .ok (.aload_n 0, 1) := by decide +kernel
theorem dX0_init_33 : decode cX0_init 33 = .ok (.iconst 0, 1) := by decide +kernel
theorem dX0_init_34 : decode cX0_init 34 = .ok (.putfield 23, 3) := by decide +kernel
theorem dX0_init_37 : decode cX0_init 37 = .ok (.return_, 1) := by decide +kernel
theorem dX0_choose_0 : decode cX0_choose 0 = .ok (.aload_n 0, 1) := by decide +kernel
theorem dX0_choose_1 : decode cX0_choose 1 = .ok (.iconst 0, 1) := by decide +kernel
theorem dX0_choose_2 : decode cX0_choose 2 = .ok (.putfield 23, 3) := by decide +kernel
theorem dX0_choose_5 : decode cX0_choose 5 = .ok (.aload_n 0, 1) := by decide +kernel
theorem dX0_choose_6 : decode cX0_choose 6 = .ok (.getfield 11, 3) := by decide +kernel
theorem dX0_choose_9 : decode cX0_choose 9 = .ok (.aload_n 1, 1) := by decide +kernel
theorem dX0_choose_10 : decode cX0_choose 10 = .ok (.getfield 27, 3) := by decide +kernel
theorem dX0_choose_13 : decode cX0_choose 13 = .ok (.aaload, 1) := by decide +kernel
theorem dX0_choose_14 : decode cX0_choose 14 = .ok (.iconst 0, 1) := by decide +kernel
theorem dX0_choose_15 : decode cX0_choose 15 = .ok (.invokestatic 32, 3) := by decide +kernel
theorem dX0_choose_18 : decode cX0_choose 18 = .ok (.iconst 0, 1) := by decide +kernel
theorem dX0_choose_19 : decode cX0_choose 19 = .ok (.istore 5, 2) := by decide +kernel
theorem dX0_choose_21 : decode cX0_choose 21 = .ok (.iload 5, 2) := by decide +kernel
theorem dX0_choose_23 : decode cX0_choose 23 = .ok (.aload_n 1, 1) := by decide +kernel
theorem dX0_choose_24 : decode cX0_choose 24 = .ok (.getfield 38, 3) := by decide +kernel
theorem dX0_choose_27 : decode cX0_choose 27 = .ok (.if_icmp .ge 83, 3) := by decide +kernel
theorem dX0_choose_30 : decode cX0_choose 30 = .ok (.aload_n 2, 1) := by decide +kernel
theorem dX0_choose_31 : decode cX0_choose 31 = .ok (.getfield 41, 3) := by decide +kernel
theorem dX0_choose_34 : decode cX0_choose 34 = .ok (.iload_n 3, 1) := by decide +kernel
theorem dX0_choose_35 : decode cX0_choose 35 = .ok (.iload 5, 2) := by decide +kernel
theorem dX0_choose_37 : decode cX0_choose 37 = .ok (.invokestatic 46, 3) := by decide +kernel
theorem dX0_choose_40 : decode cX0_choose 40 = .ok (.invokestatic 50, 3) := by decide +kernel
theorem dX0_choose_43 : decode cX0_choose 43 = .ok (.sipush 400, 3) := by decide +kernel
theorem dX0_choose_46 : decode cX0_choose 46 = .ok (.invokestatic 56, 3) := by decide +kernel
theorem dX0_choose_49 : decode cX0_choose 49 = .ok (.istore 6, 2) := by decide +kernel
theorem dX0_choose_51 : decode cX0_choose 51 = .ok (.aload_n 0, 1) := by decide +kernel
theorem dX0_choose_52 : decode cX0_choose 52 = .ok (.aload_n 1, 1) := by decide +kernel
theorem dX0_choose_53 : decode cX0_choose 53 = .ok (.aload_n 2, 1) := by decide +kernel
theorem dX0_choose_54 : decode cX0_choose 54 = .ok (.iload 4, 2) := by decide +kernel
theorem dX0_choose_56 : decode cX0_choose 56 = .ok (.iload 5, 2) := by decide +kernel
theorem dX0_choose_58 : decode cX0_choose 58 = .ok (.iload 6, 2) := by decide +kernel
theorem dX0_choose_60 : decode cX0_choose 60 = .ok (.invokevirtual 61, 3) := by decide +kernel
theorem dX0_choose_63 : decode cX0_choose 63 = .ok (.aload_n 0, 1) := by decide +kernel
theorem dX0_choose_64 : decode cX0_choose 64 = .ok (.dup, 1) := by decide +kernel
theorem dX0_choose_65 : decode cX0_choose 65 = .ok (.getfield 23, 3) := by decide +kernel
theorem dX0_choose_68 : decode cX0_choose 68 = .ok (.aload_n 0, 1) := by decide +kernel
theorem dX0_choose_69 : decode cX0_choose 69 = .ok (.getfield 11, 3) := by decide +kernel
theorem dX0_choose_72 : decode cX0_choose 72 = .ok (.iconst 0, 1) := by decide +kernel
theorem dX0_choose_73 : decode cX0_choose 73 = .ok (.aaload, 1) := by decide +kernel
theorem dX0_choose_74 : decode cX0_choose 74 = .ok (.iload 6, 2) := by decide +kernel
theorem dX0_choose_76 : decode cX0_choose 76 = .ok (.iaload, 1) := by decide +kernel
theorem dX0_choose_77 : decode cX0_choose 77 = .ok (.iadd, 1) := by decide +kernel
theorem dX0_choose_78 : decode cX0_choose 78 = .ok (.putfield 23, 3) := by decide +kernel
theorem dX0_choose_81 : decode cX0_choose 81 = .ok (.aload_n 0, 1) := by decide +kernel
theorem dX0_choose_82 : decode cX0_choose 82 = .ok (.getfield 20, 3) := by decide +kernel
theorem dX0_choose_85 : decode cX0_choose 85 = .ok (.iload 5, 2) := by decide +kernel
theorem dX0_choose_87 : decode cX0_choose 87 = .ok (.aload_n 0, 1) := by decide +kernel
theorem dX0_choose_88 : decode cX0_choose 88 = .ok (.iload 6, 2) := by decide +kernel
theorem dX0_choose_90 : decode cX0_choose 90 = .ok (.invokevirtual 65, 3) := by decide +kernel
theorem dX0_choose_93 : decode cX0_choose 93 = .ok (.iastore, 1) := by decide +kernel
theorem dX0_choose_94 : decode cX0_choose 94 = .ok (.aload_n 0, 1) := by decide +kernel
theorem dX0_choose_95 : decode cX0_choose 95 = .ok (.aload_n 1, 1) := by decide +kernel
theorem dX0_choose_96 : decode cX0_choose 96 = .ok (.aload_n 2, 1) := by decide +kernel
theorem dX0_choose_97 : decode cX0_choose 97 = .ok (.iload 4, 2) := by decide +kernel
theorem dX0_choose_99 : decode cX0_choose 99 = .ok (.iload 5, 2) := by decide +kernel
theorem dX0_choose_101 : decode cX0_choose 101 = .ok (.invokevirtual 69, 3) := by decide +kernel
theorem dX0_choose_104 : decode cX0_choose 104 = .ok (.iinc 5 1, 3) := by decide +kernel
theorem dX0_choose_107 : decode cX0_choose 107 = .ok (.goto (-86), 3) := by decide +kernel
theorem dX0_choose_110 : decode cX0_choose 110 = .ok (.return_, 1) := by decide +kernel
theorem dX0_weigh_0 : decode cX0_weigh 0 = .ok (.aload_n 1, 1) := by decide +kernel
theorem dX0_weigh_1 : decode cX0_weigh 1 = .ok (.getfield 27, 3) := by decide +kernel
theorem dX0_weigh_4 : decode cX0_weigh 4 = .ok (.iconst 1, 1) := by decide +kernel
theorem dX0_weigh_5 : decode cX0_weigh 5 = .ok (.isub, 1) := by decide +kernel
theorem dX0_weigh_6 : decode cX0_weigh 6 = .ok (.istore 6, 2) := by decide +kernel
theorem dX0_weigh_8 : decode cX0_weigh 8 = .ok (.iload 6, 2) := by decide +kernel
theorem dX0_weigh_10 : decode cX0_weigh 10 = .ok (.ifCond .lt 98, 3) := by decide +kernel
theorem dX0_weigh_13 : decode cX0_weigh 13 = .ok (.aload_n 0, 1) := by decide +kernel
theorem dX0_weigh_14 : decode cX0_weigh 14 = .ok (.getfield 11, 3) := by decide +kernel
theorem dX0_weigh_17 : decode cX0_weigh 17 = .ok (.iload 6, 2) := by decide +kernel
theorem dX0_weigh_19 : decode cX0_weigh 19 = .ok (.iconst 1, 1) := by decide +kernel
theorem dX0_weigh_20 : decode cX0_weigh 20 = .ok (.iadd, 1) := by decide +kernel
theorem dX0_weigh_21 : decode cX0_weigh 21 = .ok (.aaload, 1) := by decide +kernel
theorem dX0_weigh_22 : decode cX0_weigh 22 = .ok (.iconst 0, 1) := by decide +kernel
theorem dX0_weigh_23 : decode cX0_weigh 23 = .ok (.aload_n 0, 1) := by decide +kernel
theorem dX0_weigh_24 : decode cX0_weigh 24 = .ok (.getfield 11, 3) := by decide +kernel
theorem dX0_weigh_27 : decode cX0_weigh 27 = .ok (.iload 6, 2) := by decide +kernel
theorem dX0_weigh_29 : decode cX0_weigh 29 = .ok (.aaload, 1) := by decide +kernel
theorem dX0_weigh_30 : decode cX0_weigh 30 = .ok (.iconst 0, 1) := by decide +kernel
theorem dX0_weigh_31 : decode cX0_weigh 31 = .ok (.iload 5, 2) := by decide +kernel
theorem dX0_weigh_33 : decode cX0_weigh 33 = .ok (.iconst 1, 1) := by decide +kernel
theorem dX0_weigh_34 : decode cX0_weigh 34 = .ok (.iadd, 1) := by decide +kernel
theorem dX0_weigh_35 : decode cX0_weigh 35 = .ok (.invokestatic 72, 3) := by decide +kernel
theorem dX0_weigh_38 : decode cX0_weigh 38 = .ok (.aload_n 1, 1) := by decide +kernel
theorem dX0_weigh_39 : decode cX0_weigh 39 = .ok (.getfield 78, 3) := by decide +kernel
theorem dX0_weigh_42 : decode cX0_weigh 42 = .ok (.iload 6, 2) := by decide +kernel
theorem dX0_weigh_44 : decode cX0_weigh 44 = .ok (.iaload, 1) := by decide +kernel
theorem dX0_weigh_45 : decode cX0_weigh 45 = .ok (.iload 4, 2) := by decide +kernel
theorem dX0_weigh_47 : decode cX0_weigh 47 = .ok (.if_icmp .ne 55, 3) := by decide +kernel
theorem dX0_weigh_50 : decode cX0_weigh 50 = .ok (.aload_n 2, 1) := by decide +kernel
theorem dX0_weigh_51 : decode cX0_weigh 51 = .ok (.getfield 81, 3) := by decide +kernel
theorem dX0_weigh_54 : decode cX0_weigh 54 = .ok (.iload_n 3, 1) := by decide +kernel
theorem dX0_weigh_55 : decode cX0_weigh 55 = .ok (.iload 6, 2) := by decide +kernel
theorem dX0_weigh_57 : decode cX0_weigh 57 = .ok (.invokestatic 84, 3) := by decide +kernel
theorem dX0_weigh_60 : decode cX0_weigh 60 = .ok (.iaload, 1) := by decide +kernel
theorem dX0_weigh_61 : decode cX0_weigh 61 = .ok (.iload 5, 2) := by decide +kernel
theorem dX0_weigh_63 : decode cX0_weigh 63 = .ok (.aload_n 1, 1) := by decide +kernel
theorem dX0_weigh_64 : decode cX0_weigh 64 = .ok (.getfield 87, 3) := by decide +kernel
theorem dX0_weigh_67 : decode cX0_weigh 67 = .ok (.iload 6, 2) := by decide +kernel
theorem dX0_weigh_69 : decode cX0_weigh 69 = .ok (.iaload, 1) := by decide +kernel
theorem dX0_weigh_70 : decode cX0_weigh 70 = .ok (.invokestatic 90, 3) := by decide +kernel
theorem dX0_weigh_73 : decode cX0_weigh 73 = .ok (.invokestatic 56, 3) := by decide +kernel
theorem dX0_weigh_76 : decode cX0_weigh 76 = .ok (.istore 7, 2) := by decide +kernel
theorem dX0_weigh_78 : decode cX0_weigh 78 = .ok (.aload_n 0, 1) := by decide +kernel
theorem dX0_weigh_79 : decode cX0_weigh 79 = .ok (.iload 6, 2) := by decide +kernel
theorem dX0_weigh_81 : decode cX0_weigh 81 = .ok (.iload 7, 2) := by decide +kernel
theorem dX0_weigh_83 : decode cX0_weigh 83 = .ok (.aload_n 1, 1) := by decide +kernel
theorem dX0_weigh_84 : decode cX0_weigh 84 = .ok (.getfield 87, 3) := by decide +kernel
theorem dX0_weigh_87 : decode cX0_weigh 87 = .ok (.iload 6, 2) := by decide +kernel
theorem dX0_weigh_89 : decode cX0_weigh 89 = .ok (.iaload, 1) := by decide +kernel
theorem dX0_weigh_90 : decode cX0_weigh 90 = .ok (.aload_n 1, 1) := by decide +kernel
theorem dX0_weigh_91 : decode cX0_weigh 91 = .ok (.getfield 93, 3) := by decide +kernel
theorem dX0_weigh_94 : decode cX0_weigh 94 = .ok (.iload 6, 2) := by decide +kernel
theorem dX0_weigh_96 : decode cX0_weigh 96 = .ok (.iaload, 1) := by decide +kernel
theorem dX0_weigh_97 : decode cX0_weigh 97 = .ok (.iload 5, 2) := by decide +kernel
theorem dX0_weigh_99 : decode cX0_weigh 99 = .ok (.invokevirtual 95, 3) := by decide +kernel
theorem dX0_weigh_102 : decode cX0_weigh 102 = .ok (.iinc 6 (-1), 3) := by decide +kernel
theorem dX0_weigh_105 : decode cX0_weigh 105 = .ok (.goto (-97), 3) := by decide +kernel
theorem dX0_weigh_108 : decode cX0_weigh 108 = .ok (.return_, 1) := by decide +kernel
theorem dX0_addUnits_0 : decode cX0_addUnits 0 = .ok (.iload_n 2, 1) := by decide +kernel
theorem dX0_addUnits_1 : decode cX0_addUnits 1 = .ok (.istore 6, 2) := by decide +kernel
theorem dX0_addUnits_3 : decode cX0_addUnits 3 = .ok (.iconst 1, 1) := by decide +kernel
theorem dX0_addUnits_4 : decode cX0_addUnits 4 = .ok (.istore 7, 2) := by decide +kernel
theorem dX0_addUnits_6 : decode cX0_addUnits 6 = .ok (.iload 7, 2) := by decide +kernel
theorem dX0_addUnits_8 : decode cX0_addUnits 8 = .ok (.iload_n 2, 1) := by decide +kernel
theorem dX0_addUnits_9 : decode cX0_addUnits 9 = .ok (.if_icmp .gt 56, 3) := by decide +kernel
theorem dX0_addUnits_12 : decode cX0_addUnits 12 = .ok (.iload 7, 2) := by decide +kernel
theorem dX0_addUnits_14 : decode cX0_addUnits 14 = .ok (.sipush 400, 3) := by decide +kernel
theorem dX0_addUnits_17 : decode cX0_addUnits 17 = .ok (.if_icmp .gt 48, 3) := by decide +kernel
theorem dX0_addUnits_20 : decode cX0_addUnits 20 = .ok (.iload 7, 2) := by decide +kernel
theorem dX0_addUnits_22 : decode cX0_addUnits 22 = .ok (.iload 6, 2) := by decide +kernel
theorem dX0_addUnits_24 : decode cX0_addUnits 24 = .ok (.invokestatic 56, 3) := by decide +kernel
theorem dX0_addUnits_27 : decode cX0_addUnits 27 = .ok (.istore 8, 2) := by decide +kernel
theorem dX0_addUnits_29 : decode cX0_addUnits 29 = .ok (.aload_n 0, 1) := by decide +kernel
theorem dX0_addUnits_30 : decode cX0_addUnits 30 = .ok (.getfield 11, 3) := by decide +kernel
theorem dX0_addUnits_33 : decode cX0_addUnits 33 = .ok (.iload_n 1, 1) := by decide +kernel
theorem dX0_addUnits_34 : decode cX0_addUnits 34 = .ok (.aaload, 1) := by decide +kernel
theorem dX0_addUnits_35 : decode cX0_addUnits 35 = .ok (.iload 8, 2) := by decide +kernel
theorem dX0_addUnits_37 : decode cX0_addUnits 37 = .ok (.iload_n 3, 1) := by decide +kernel
theorem dX0_addUnits_38 : decode cX0_addUnits 38 = .ok (.imul, 1) := by decide +kernel
theorem dX0_addUnits_39 : decode cX0_addUnits 39 = .ok (.iload 8, 2) := by decide +kernel
theorem dX0_addUnits_41 : decode cX0_addUnits 41 = .ok (.iload 4, 2) := by decide +kernel
theorem dX0_addUnits_43 : decode cX0_addUnits 43 = .ok (.imul, 1) := by decide +kernel
theorem dX0_addUnits_44 : decode cX0_addUnits 44 = .ok (.iload 5, 2) := by decide +kernel
theorem dX0_addUnits_46 : decode cX0_addUnits 46 = .ok (.invokestatic 99, 3) := by decide +kernel
theorem dX0_addUnits_49 : decode cX0_addUnits 49 = .ok (.iload 6, 2) := by decide +kernel
theorem dX0_addUnits_51 : decode cX0_addUnits 51 = .ok (.iload 8, 2) := by decide +kernel
theorem dX0_addUnits_53 : decode cX0_addUnits 53 = .ok (.isub, 1) := by decide +kernel
theorem dX0_addUnits_54 : decode cX0_addUnits 54 = .ok (.istore 6, 2) := by decide +kernel
theorem dX0_addUnits_56 : decode cX0_addUnits 56 = .ok (.iload 7, 2) := by decide +kernel
theorem dX0_addUnits_58 : decode cX0_addUnits 58 = .ok (.iconst 2, 1) := by decide +kernel
theorem dX0_addUnits_59 : decode cX0_addUnits 59 = .ok (.imul, 1) := by decide +kernel
theorem dX0_addUnits_60 : decode cX0_addUnits 60 = .ok (.istore 7, 2) := by decide +kernel
theorem dX0_addUnits_62 : decode cX0_addUnits 62 = .ok (.goto (-56), 3) := by decide +kernel
theorem dX0_addUnits_65 : decode cX0_addUnits 65 = .ok (.return_, 1) := by decide +kernel
theorem dX0_addLot_0 : decode cX0_addLot 0 = .ok (.iload_n 3, 1) := by decide +kernel
theorem dX0_addLot_1 : decode cX0_addLot 1 = .ok (.istore 4, 2) := by decide +kernel
theorem dX0_addLot_3 : decode cX0_addLot 3 = .ok (.iload 4, 2) := by decide +kernel
theorem dX0_addLot_5 : decode cX0_addLot 5 = .ok (.iload_n 1, 1) := by decide +kernel
theorem dX0_addLot_6 : decode cX0_addLot 6 = .ok (.if_icmp .lt 28, 3) := by decide +kernel
theorem dX0_addLot_9 : decode cX0_addLot 9 = .ok (.aload_n 0, 1) := by decide +kernel
theorem dX0_addLot_10 : decode cX0_addLot 10 = .ok (.iload 4, 2) := by decide +kernel
theorem dX0_addLot_12 : decode cX0_addLot 12 = .ok (.aload_n 0, 1) := by decide +kernel
theorem dX0_addLot_13 : decode cX0_addLot 13 = .ok (.iload 4, 2) := by decide +kernel
theorem dX0_addLot_15 : decode cX0_addLot 15 = .ok (.iaload, 1) := by decide +kernel
theorem dX0_addLot_16 : decode cX0_addLot 16 = .ok (.aload_n 0, 1) := by decide +kernel
theorem dX0_addLot_17 : decode cX0_addLot 17 = .ok (.iload 4, 2) := by decide +kernel
theorem dX0_addLot_19 : decode cX0_addLot 19 = .ok (.iload_n 1, 1) := by decide +kernel
theorem dX0_addLot_20 : decode cX0_addLot 20 = .ok (.isub, 1) := by decide +kernel
theorem dX0_addLot_21 : decode cX0_addLot 21 = .ok (.iaload, 1) := by decide +kernel
theorem dX0_addLot_22 : decode cX0_addLot 22 = .ok (.iload_n 2, 1) := by decide +kernel
theorem dX0_addLot_23 : decode cX0_addLot 23 = .ok (.iadd, 1) := by decide +kernel
theorem dX0_addLot_24 : decode cX0_addLot 24 = .ok (.invokestatic 103, 3) := by decide +kernel
theorem dX0_addLot_27 : decode cX0_addLot 27 = .ok (.iastore, 1) := by decide +kernel
theorem dX0_addLot_28 : decode cX0_addLot 28 = .ok (.iinc 4 (-1), 3) := by decide +kernel
theorem dX0_addLot_31 : decode cX0_addLot 31 = .ok (.goto (-28), 3) := by decide +kernel
theorem dX0_addLot_34 : decode cX0_addLot 34 = .ok (.return_, 1) := by decide +kernel
theorem dX0_cheapest_0 : decode cX0_cheapest 0 = .ok (.iconst 0, 1) := by decide +kernel
theorem dX0_cheapest_1 : decode cX0_cheapest 1 = .ok (.istore_n 2, 1) := by decide +kernel
theorem dX0_cheapest_2 : decode cX0_cheapest 2 = .ok (.iload_n 2, 1) := by decide +kernel
theorem dX0_cheapest_3 : decode cX0_cheapest 3 = .ok (.iload_n 1, 1) := by decide +kernel
theorem dX0_cheapest_4 : decode cX0_cheapest 4 = .ok (.if_icmp .ge 30, 3) := by decide +kernel
theorem dX0_cheapest_7 : decode cX0_cheapest 7 = .ok (.aload_n 0, 1) := by decide +kernel
theorem dX0_cheapest_8 : decode cX0_cheapest 8 = .ok (.getfield 11, 3) := by decide +kernel
theorem dX0_cheapest_11 : decode cX0_cheapest 11 = .ok (.iconst 0, 1) := by decide +kernel
theorem dX0_cheapest_12 : decode cX0_cheapest 12 = .ok (.aaload, 1) := by decide +kernel
theorem dX0_cheapest_13 : decode cX0_cheapest 13 = .ok (.iload_n 2, 1) := by decide +kernel
theorem dX0_cheapest_14 : decode cX0_cheapest 14 = .ok (.iaload, 1) := by decide +kernel
theorem dX0_cheapest_15 : decode cX0_cheapest 15 = .ok (.aload_n 0, 1) := by decide +kernel
theorem dX0_cheapest_16 : decode cX0_cheapest 16 = .ok (.getfield 11, 3) := by decide +kernel
theorem dX0_cheapest_19 : decode cX0_cheapest 19 = .ok (.iconst 0, 1) := by decide +kernel
theorem dX0_cheapest_20 : decode cX0_cheapest 20 = .ok (.aaload, 1) := by decide +kernel
theorem dX0_cheapest_21 : decode cX0_cheapest 21 = .ok (.iload_n 1, 1) := by decide +kernel
theorem dX0_cheapest_22 : decode cX0_cheapest 22 = .ok (.iaload, 1) := by decide +kernel
theorem dX0_cheapest_23 : decode cX0_cheapest 23 = .ok (.if_icmp .ne 5, 3) := by decide +kernel
theorem dX0_cheapest_26 : decode cX0_cheapest 26 = .ok (.iload_n 2, 1) := by decide +kernel
theorem dX0_cheapest_27 : decode cX0_cheapest 27 = .ok (.ireturn, 1) := by decide +kernel
theorem dX0_cheapest_28 : decode cX0_cheapest 28 = .ok (.iinc 2 1, 3) := by decide +kernel
theorem dX0_cheapest_31 : decode cX0_cheapest 31 = .ok (.goto (-29), 3) := by decide +kernel
theorem dX0_cheapest_34 : decode cX0_cheapest 34 = .ok (.iload_n 1, 1) := by decide +kernel
theorem dX0_cheapest_35 : decode cX0_cheapest 35 = .ok (.ireturn, 1) := by decide +kernel
theorem dX0_fill_0 : decode cX0_fill 0 = .ok (.aload_n 0, 1) := by decide +kernel
theorem dX0_fill_1 : decode cX0_fill 1 = .ok (.getfield 20, 3) := by decide +kernel
theorem dX0_fill_4 : decode cX0_fill 4 = .ok (.iload 4, 2) := by decide +kernel
theorem dX0_fill_6 : decode cX0_fill 6 = .ok (.iaload, 1) := by decide +kernel
theorem dX0_fill_7 : decode cX0_fill 7 = .ok (.istore 5, 2) := by decide +kernel
theorem dX0_fill_9 : decode cX0_fill 9 = .ok (.iconst 0, 1) := by decide +kernel
theorem dX0_fill_10 : decode cX0_fill 10 = .ok (.istore 6, 2) := by decide +kernel
theorem dX0_fill_12 : decode cX0_fill 12 = .ok (.iload 6, 2) := by decide +kernel
theorem dX0_fill_14 : decode cX0_fill 14 = .ok (.aload_n 1, 1) := by decide +kernel
theorem dX0_fill_15 : decode cX0_fill 15 = .ok (.getfield 27, 3) := by decide +kernel
theorem dX0_fill_18 : decode cX0_fill 18 = .ok (.if_icmp .ge 100, 3) := by decide +kernel
theorem dX0_fill_21 : decode cX0_fill 21 = .ok (.aload_n 1, 1) := by decide +kernel
theorem dX0_fill_22 : decode cX0_fill 22 = .ok (.getfield 78, 3) := by decide +kernel
theorem dX0_fill_25 : decode cX0_fill 25 = .ok (.iload 6, 2) := by decide +kernel
theorem dX0_fill_27 : decode cX0_fill 27 = .ok (.iaload, 1) := by decide +kernel
theorem dX0_fill_28 : decode cX0_fill 28 = .ok (.iload 4, 2) := by decide +kernel
theorem dX0_fill_30 : decode cX0_fill 30 = .ok (.if_icmp .ne 82, 3) := by decide +kernel
theorem dX0_fill_33 : decode cX0_fill 33 = .ok (.aload_n 2, 1) := by decide +kernel
theorem dX0_fill_34 : decode cX0_fill 34 = .ok (.getfield 81, 3) := by decide +kernel
theorem dX0_fill_37 : decode cX0_fill 37 = .ok (.iload_n 3, 1) := by decide +kernel
theorem dX0_fill_38 : decode cX0_fill 38 = .ok (.iload 6, 2) := by decide +kernel
theorem dX0_fill_40 : decode cX0_fill 40 = .ok (.invokestatic 84, 3) := by decide +kernel
theorem dX0_fill_43 : decode cX0_fill 43 = .ok (.iaload, 1) := by decide +kernel
theorem dX0_fill_44 : decode cX0_fill 44 = .ok (.iload 5, 2) := by decide +kernel
theorem dX0_fill_46 : decode cX0_fill 46 = .ok (.aload_n 1, 1) := by decide +kernel
theorem dX0_fill_47 : decode cX0_fill 47 = .ok (.getfield 87, 3) := by decide +kernel
theorem dX0_fill_50 : decode cX0_fill 50 = .ok (.iload 6, 2) := by decide +kernel
theorem dX0_fill_52 : decode cX0_fill 52 = .ok (.iaload, 1) := by decide +kernel
theorem dX0_fill_53 : decode cX0_fill 53 = .ok (.invokestatic 90, 3) := by decide +kernel
theorem dX0_fill_56 : decode cX0_fill 56 = .ok (.invokestatic 56, 3) := by decide +kernel
theorem dX0_fill_59 : decode cX0_fill 59 = .ok (.istore 7, 2) := by decide +kernel
theorem dX0_fill_61 : decode cX0_fill 61 = .ok (.aload_n 0, 1) := by decide +kernel
theorem dX0_fill_62 : decode cX0_fill 62 = .ok (.getfield 16, 3) := by decide +kernel
theorem dX0_fill_65 : decode cX0_fill 65 = .ok (.iload 6, 2) := by decide +kernel
theorem dX0_fill_67 : decode cX0_fill 67 = .ok (.aload_n 0, 1) := by decide +kernel
theorem dX0_fill_68 : decode cX0_fill 68 = .ok (.iload 6, 2) := by decide +kernel
theorem dX0_fill_70 : decode cX0_fill 70 = .ok (.iload 7, 2) := by decide +kernel
theorem dX0_fill_72 : decode cX0_fill 72 = .ok (.aload_n 1, 1) := by decide +kernel
theorem dX0_fill_73 : decode cX0_fill 73 = .ok (.getfield 87, 3) := by decide +kernel
theorem dX0_fill_76 : decode cX0_fill 76 = .ok (.iload 6, 2) := by decide +kernel
theorem dX0_fill_78 : decode cX0_fill 78 = .ok (.iaload, 1) := by decide +kernel
theorem dX0_fill_79 : decode cX0_fill 79 = .ok (.aload_n 1, 1) := by decide +kernel
theorem dX0_fill_80 : decode cX0_fill 80 = .ok (.getfield 93, 3) := by decide +kernel
theorem dX0_fill_83 : decode cX0_fill 83 = .ok (.iload 6, 2) := by decide +kernel
theorem dX0_fill_85 : decode cX0_fill 85 = .ok (.iaload, 1) := by decide +kernel
theorem dX0_fill_86 : decode cX0_fill 86 = .ok (.iload 5, 2) := by decide +kernel
theorem dX0_fill_88 : decode cX0_fill 88 = .ok (.invokevirtual 106, 3) := by decide +kernel
theorem dX0_fill_91 : decode cX0_fill 91 = .ok (.iastore, 1) := by decide +kernel
theorem dX0_fill_92 : decode cX0_fill 92 = .ok (.iload 5, 2) := by decide +kernel
theorem dX0_fill_94 : decode cX0_fill 94 = .ok (.aload_n 0, 1) := by decide +kernel
theorem dX0_fill_95 : decode cX0_fill 95 = .ok (.getfield 16, 3) := by decide +kernel
theorem dX0_fill_98 : decode cX0_fill 98 = .ok (.iload 6, 2) := by decide +kernel
theorem dX0_fill_100 : decode cX0_fill 100 = .ok (.iaload, 1) := by decide +kernel
theorem dX0_fill_101 : decode cX0_fill 101 = .ok (.aload_n 1, 1) := by decide +kernel
theorem dX0_fill_102 : decode cX0_fill 102 = .ok (.getfield 87, 3) := by decide +kernel
theorem dX0_fill_105 : decode cX0_fill 105 = .ok (.iload 6, 2) := by decide +kernel
theorem dX0_fill_107 : decode cX0_fill 107 = .ok (.iaload, 1) := by decide +kernel
theorem dX0_fill_108 : decode cX0_fill 108 = .ok (.imul, 1) := by decide +kernel
theorem dX0_fill_109 : decode cX0_fill 109 = .ok (.isub, 1) := by decide +kernel
theorem dX0_fill_110 : decode cX0_fill 110 = .ok (.istore 5, 2) := by decide +kernel
theorem dX0_fill_112 : decode cX0_fill 112 = .ok (.iinc 6 1, 3) := by decide +kernel
theorem dX0_fill_115 : decode cX0_fill 115 = .ok (.goto (-103), 3) := by decide +kernel
theorem dX0_fill_118 : decode cX0_fill 118 = .ok (.return_, 1) := by decide +kernel
theorem dX0_mostWithoutLoss_0 : decode cX0_mostWithoutLoss 0 = .ok (.iload_n 2, 1) := by decide +kernel
theorem dX0_mostWithoutLoss_1 : decode cX0_mostWithoutLoss 1 = .ok (.istore 6, 2) := by decide +kernel
theorem dX0_mostWithoutLoss_3 : decode cX0_mostWithoutLoss 3 = .ok (.iload 6, 2) := by decide +kernel
theorem dX0_mostWithoutLoss_5 : decode cX0_mostWithoutLoss 5 = .ok (.ifCond .le 46, 3) := by decide +kernel
theorem dX0_mostWithoutLoss_8 : decode cX0_mostWithoutLoss 8 = .ok (.aload_n 0, 1) := by decide +kernel
theorem dX0_mostWithoutLoss_9 : decode cX0_mostWithoutLoss 9 = .ok (.getfield 11, 3) := by decide +kernel
theorem dX0_mostWithoutLoss_12 : decode cX0_mostWithoutLoss 12 = .ok (.iload_n 1, 1) := by decide +kernel
theorem dX0_mostWithoutLoss_13 : decode cX0_mostWithoutLoss 13 = .ok (.iconst 1, 1) := by decide +kernel
theorem dX0_mostWithoutLoss_14 : decode cX0_mostWithoutLoss 14 = .ok (.iadd, 1) := by decide +kernel
theorem dX0_mostWithoutLoss_15 : decode cX0_mostWithoutLoss 15 = .ok (.aaload, 1) := by decide +kernel
theorem dX0_mostWithoutLoss_16 : decode cX0_mostWithoutLoss 16 = .ok (.iload 5, 2) := by decide +kernel
theorem dX0_mostWithoutLoss_18 : decode cX0_mostWithoutLoss 18 = .ok (.iload 6, 2) := by decide +kernel
theorem dX0_mostWithoutLoss_20 : decode cX0_mostWithoutLoss 20 = .ok (.iload_n 3, 1) := by decide +kernel
theorem dX0_mostWithoutLoss_21 : decode cX0_mostWithoutLoss 21 = .ok (.imul, 1) := by decide +kernel
theorem dX0_mostWithoutLoss_22 : decode cX0_mostWithoutLoss 22 = .ok (.isub, 1) := by decide +kernel
theorem dX0_mostWithoutLoss_23 : decode cX0_mostWithoutLoss 23 = .ok (.iaload, 1) := by decide +kernel
theorem dX0_mostWithoutLoss_24 : decode cX0_mostWithoutLoss 24 = .ok (.iload 6, 2) := by decide +kernel
theorem dX0_mostWithoutLoss_26 : decode cX0_mostWithoutLoss 26 = .ok (.iload 4, 2) := by decide +kernel
theorem dX0_mostWithoutLoss_28 : decode cX0_mostWithoutLoss 28 = .ok (.imul, 1) := by decide +kernel
theorem dX0_mostWithoutLoss_29 : decode cX0_mostWithoutLoss 29 = .ok (.iadd, 1) := by decide +kernel
theorem dX0_mostWithoutLoss_30 : decode cX0_mostWithoutLoss 30 = .ok (.aload_n 0, 1) := by decide +kernel
theorem dX0_mostWithoutLoss_31 : decode cX0_mostWithoutLoss 31 = .ok (.getfield 11, 3) := by decide +kernel
theorem dX0_mostWithoutLoss_34 : decode cX0_mostWithoutLoss 34 = .ok (.iload_n 1, 1) := by decide +kernel
theorem dX0_mostWithoutLoss_35 : decode cX0_mostWithoutLoss 35 = .ok (.aaload, 1) := by decide +kernel
theorem dX0_mostWithoutLoss_36 : decode cX0_mostWithoutLoss 36 = .ok (.iload 5, 2) := by decide +kernel
theorem dX0_mostWithoutLoss_38 : decode cX0_mostWithoutLoss 38 = .ok (.iaload, 1) := by decide +kernel
theorem dX0_mostWithoutLoss_39 : decode cX0_mostWithoutLoss 39 = .ok (.if_icmp .ne 6, 3) := by decide +kernel
theorem dX0_mostWithoutLoss_42 : decode cX0_mostWithoutLoss 42 = .ok (.iload 6, 2) := by decide +kernel
theorem dX0_mostWithoutLoss_44 : decode cX0_mostWithoutLoss 44 = .ok (.ireturn, 1) := by decide +kernel
theorem dX0_mostWithoutLoss_45 : decode cX0_mostWithoutLoss 45 = .ok (.iinc 6 (-1), 3) := by decide +kernel
theorem dX0_mostWithoutLoss_48 : decode cX0_mostWithoutLoss 48 = .ok (.goto (-45), 3) := by decide +kernel
theorem dX0_mostWithoutLoss_51 : decode cX0_mostWithoutLoss 51 = .ok (.iconst 0, 1) := by decide +kernel
theorem dX0_mostWithoutLoss_52 : decode cX0_mostWithoutLoss 52 = .ok (.ireturn, 1) := by decide +kernel
theorem dX1_init_0 : decode cX1_init 0 = .ok (.aload_n 0, 1) := by decide +kernel
theorem dX1_init_1 : decode cX1_init 1 = .ok (.invokespecial 3, 3) := by decide +kernel
theorem dX1_init_4 : decode cX1_init 4 = .ok (.aload_n 0, 1) := by decide +kernel
theorem dX1_init_5 : decode cX1_init 5 = .ok (.bipush 10, 2) := by decide +kernel
theorem dX1_init_7 : decode cX1_init 7 = .ok (.anewarray 9, 3) := by decide +kernel
theorem dX1_init_10 : decode cX1_init 10 = .ok (.putfield 11, 3) := by decide +kernel
theorem dX1_init_13 : decode cX1_init 13 = .ok (.aload_n 0, 1) := by decide +kernel
theorem dX1_init_14 : decode cX1_init 14 = .ok (.iconst 0, 1) := by decide +kernel
theorem dX1_init_15 : decode cX1_init 15 = .ok (.putfield 17, 3) := by decide +kernel
theorem dX1_init_18 : decode cX1_init 18 = .ok (.aload_n 0, 1) := by decide +kernel
theorem dX1_init_19 : decode cX1_init 19 = .ok (.iconst 0, 1) := by decide +kernel
theorem dX1_init_20 : decode cX1_init 20 = .ok (.putfield 21, 3) := by decide +kernel
theorem dX1_init_23 : decode cX1_init 23 = .ok (.iconst 0, 1) := by decide +kernel
theorem dX1_init_24 : decode cX1_init 24 = .ok (.istore_n 1, 1) := by decide +kernel
theorem dX1_init_25 : decode cX1_init 25 = .ok (.iload_n 1, 1) := by decide +kernel
theorem dX1_init_26 : decode cX1_init 26 = .ok (.bipush 10, 2) := by decide +kernel
theorem dX1_init_28 : decode cX1_init 28 = .ok (.if_icmp .ge 22, 3) := by decide +kernel
theorem dX1_init_31 : decode cX1_init 31 = .ok (.aload_n 0, 1) := by decide +kernel
theorem dX1_init_32 : decode cX1_init 32 = .ok (.getfield 11, 3) := by decide +kernel
theorem dX1_init_35 : decode cX1_init 35 = .ok (.iload_n 1, 1) := by decide +kernel
theorem dX1_init_36 : decode cX1_init 36 = .ok (.new 9, 3) := by decide +kernel
theorem dX1_init_39 : decode cX1_init 39 = .ok (.dup, 1) := by decide +kernel
theorem dX1_init_40 : decode cX1_init 40 = .ok (.invokespecial 24, 3) := by decide +kernel
theorem dX1_init_43 : decode cX1_init 43 = .ok (.aastore, 1) := by decide +kernel
theorem dX1_init_44 : decode cX1_init 44 = .ok (.iinc 1 1, 3) := by decide +kernel
theorem dX1_init_47 : decode cX1_init 47 = .ok (.goto (-22), 3) := by decide +kernel
theorem dX1_init_50 : decode cX1_init 50 = .ok (.return_, 1) := by decide +kernel
theorem dX1_forget_0 : decode cX1_forget 0 = .ok (.aload_n 0, 1) := by decide +kernel
theorem dX1_forget_1 : decode cX1_forget 1 = .ok (.iconst 0, 1) := by decide +kernel
theorem dX1_forget_2 : decode cX1_forget 2 = .ok (.putfield 21, 3) := by decide +kernel
theorem dX1_forget_5 : decode cX1_forget 5 = .ok (.return_, 1) := by decide +kernel
theorem dX1_keep_0 : decode cX1_keep 0 = .ok (.aload_n 0, 1) := by decide +kernel
theorem dX1_keep_1 : decode cX1_keep 1 = .ok (.getfield 11, 3) := by decide +kernel
theorem dX1_keep_4 : decode cX1_keep 4 = .ok (.aload_n 0, 1) := by decide +kernel
theorem dX1_keep_5 : decode cX1_keep 5 = .ok (.getfield 17, 3) := by decide +kernel
theorem dX1_keep_8 : decode cX1_keep 8 = .ok (.aaload, 1) := by decide +kernel
theorem dX1_keep_9 : decode cX1_keep 9 = .ok (.aload_n 1, 1) := by decide +kernel
theorem dX1_keep_10 : decode cX1_keep 10 = .ok (.invokevirtual 25, 3) := by decide +kernel
theorem dX1_keep_13 : decode cX1_keep 13 = .ok (.aload_n 0, 1) := by decide +kernel
theorem dX1_keep_14 : decode cX1_keep 14 = .ok (.aload_n 0, 1) := by decide +kernel
theorem dX1_keep_15 : decode cX1_keep 15 = .ok (.getfield 17, 3) := by decide +kernel
theorem dX1_keep_18 : decode cX1_keep 18 = .ok (.iconst 1, 1) := by decide +kernel
theorem dX1_keep_19 : decode cX1_keep 19 = .ok (.iadd, 1) := by decide +kernel
theorem dX1_keep_20 : decode cX1_keep 20 = .ok (.bipush 10, 2) := by decide +kernel
theorem dX1_keep_22 : decode cX1_keep 22 = .ok (.irem, 1) := by decide +kernel
theorem dX1_keep_23 : decode cX1_keep 23 = .ok (.putfield 17, 3) := by decide +kernel
theorem dX1_keep_26 : decode cX1_keep 26 = .ok (.aload_n 0, 1) := by decide +kernel
theorem dX1_keep_27 : decode cX1_keep 27 = .ok (.aload_n 0, 1) := by decide +kernel
theorem dX1_keep_28 : decode cX1_keep 28 = .ok (.getfield 21, 3) := by decide +kernel
theorem dX1_keep_31 : decode cX1_keep 31 = .ok (.iconst 1, 1) := by decide +kernel
theorem dX1_keep_32 : decode cX1_keep 32 = .ok (.iadd, 1) := by decide +kernel
theorem dX1_keep_33 : decode cX1_keep 33 = .ok (.bipush 10, 2) := by decide +kernel
theorem dX1_keep_35 : decode cX1_keep 35 = .ok (.invokestatic 29, 3) := by decide +kernel
theorem dX1_keep_38 : decode cX1_keep 38 = .ok (.putfield 21, 3) := by decide +kernel
theorem dX1_keep_41 : decode cX1_keep 41 = .ok (.return_, 1) := by decide +kernel
theorem dX1_bringBack_0 : decode cX1_bringBack 0 = .ok (.aload_n 0, 1) := by decide +kernel
theorem dX1_bringBack_1 : decode cX1_bringBack 1 = .ok (.aload_n 0, 1) := by decide +kernel
theorem dX1_bringBack_2 : decode cX1_bringBack 2 = .ok (.getfield 17, 3) := by decide +kernel
theorem dX1_bringBack_5 : decode cX1_bringBack 5 = .ok (.bipush 10, 2) := by decide +kernel
theorem dX1_bringBack_7 : decode cX1_bringBack 7 = .ok (.iadd, 1) := by decide +kernel
theorem dX1_bringBack_8 : decode cX1_bringBack 8 = .ok (.iconst 1, 1) := by decide +kernel
theorem dX1_bringBack_9 : decode cX1_bringBack 9 = .ok (.isub, 1) := by decide +kernel
theorem dX1_bringBack_10 : decode cX1_bringBack 10 = .ok (.bipush 10, 2) := by decide +kernel
theorem dX1_bringBack_12 : decode cX1_bringBack 12 = .ok (.irem, 1) := by decide +kernel
theorem dX1_bringBack_13 : decode cX1_bringBack 13 = .ok (.putfield 17, 3) := by decide +kernel
theorem dX1_bringBack_16 : decode cX1_bringBack 16 = .ok (.aload_n 1, 1) := by decide +kernel
theorem dX1_bringBack_17 : decode cX1_bringBack 17 = .ok (.aload_n 0, 1) := by decide +kernel
theorem dX1_bringBack_18 : decode cX1_bringBack 18 = .ok (.getfield 11, 3) := by decide +kernel
theorem dX1_bringBack_21 : decode cX1_bringBack 21 = .ok (.aload_n 0, 1) := by decide +kernel
theorem dX1_bringBack_22 : decode cX1_bringBack 22 = .ok (.getfield 17, 3) := by decide +kernel
theorem dX1_bringBack_25 : decode cX1_bringBack 25 = .ok (.aaload, 1) := by decide +kernel
theorem dX1_bringBack_26 : decode cX1_bringBack 26 = .ok (.invokevirtual 25, 3) := by decide +kernel
theorem dX1_bringBack_29 : decode cX1_bringBack 29 = .ok (.aload_n 0, 1) := by decide +kernel
theorem dX1_bringBack_30 : decode cX1_bringBack 30 = .ok (.aload_n 0, 1) := by decide +kernel
theorem dX1_bringBack_31 : decode cX1_bringBack 31 = .ok (.getfield 21, 3) := by decide +kernel
theorem dX1_bringBack_34 : decode cX1_bringBack 34 = .ok (.iconst 1, 1) := by decide +kernel
theorem dX1_bringBack_35 : decode cX1_bringBack 35 = .ok (.isub, 1) := by decide +kernel
theorem dX1_bringBack_36 : decode cX1_bringBack 36 = .ok (.iconst 0, 1) := by decide +kernel
theorem dX1_bringBack_37 : decode cX1_bringBack 37 = .ok (.invokestatic 35, 3) := by decide +kernel
theorem dX1_bringBack_40 : decode cX1_bringBack 40 = .ok (.putfield 21, 3) := by decide +kernel
theorem dX1_bringBack_43 : decode cX1_bringBack 43 = .ok (.return_, 1) := by decide +kernel
theorem dX2_init_0 : decode cX2_init 0 = .ok (.aload_n 0, 1) := by decide +kernel
theorem dX2_init_1 : decode cX2_init 1 = .ok (.invokespecial 3, 3) := by decide +kernel
theorem dX2_init_4 : decode cX2_init 4 = .ok (.aload_n 0, 1) := by decide +kernel
theorem dX2_init_5 : decode cX2_init 5 = .ok (.new 9, 3) := by decide +kernel
theorem dX2_init_8 : decode cX2_init 8 = .ok (.dup, 1) := by decide +kernel
theorem dX2_init_9 : decode cX2_init 9 = .ok (.invokespecial 11, 3) := by decide +kernel
theorem dX2_init_12 : decode cX2_init 12 = .ok (.putfield 12, 3) := by decide +kernel
theorem dX2_init_15 : decode cX2_init 15 = .ok (.aload_n 0, 1) := by decide +kernel
theorem dX2_init_16 : decode cX2_init 16 = .ok (.iconst 0, 1) := by decide +kernel
theorem dX2_init_17 : decode cX2_init 17 = .ok (.putfield 18, 3) := by decide +kernel
theorem dX2_init_20 : decode cX2_init 20 = .ok (.aload_n 0, 1) := by decide +kernel
theorem dX2_init_21 : decode cX2_init 21 = .ok (.new 22, 3) := by decide +kernel
theorem dX2_init_24 : decode cX2_init 24 = .ok (.dup, 1) := by decide +kernel
theorem dX2_init_25 : decode cX2_init 25 = .ok (.invokespecial 24, 3) := by decide +kernel
theorem dX2_init_28 : decode cX2_init 28 = .ok (.putfield 25, 3) := by decide +kernel
theorem dX2_init_31 : decode cX2_init 31 = .ok (.aload_n 0, 1) := by decide +kernel
theorem dX2_init_32 : decode cX2_init 32 = .ok (.new 29, 3) := by decide +kernel
theorem dX2_init_35 : decode cX2_init 35 = .ok (.dup, 1) := by decide +kernel
theorem dX2_init_36 : decode cX2_init 36 = .ok (.invokespecial 31, 3) := by decide +kernel
theorem dX2_init_39 : decode cX2_init 39 = .ok (.putfield 32, 3) := by decide +kernel
theorem dX2_init_42 : decode cX2_init 42 = .ok (.aload_n 0, 1) := by decide +kernel
theorem dX2_init_43 : decode cX2_init 43 = .ok (.iconst 0, 1) := by decide +kernel
theorem dX2_init_44 : decode cX2_init 44 = .ok (.putfield 36, 3) := by decide +kernel
theorem dX2_init_47 : decode cX2_init 47 = .ok (.aload_n 0, 1) := by decide +kernel
theorem dX2_init_48 : decode cX2_init 48 = .ok (.iconst (-1), 1) := by decide +kernel
theorem dX2_init_49 : decode cX2_init 49 = .ok (.putfield 39, 3) := by decide +kernel
theorem dX2_init_52 : decode cX2_init 52 = .ok (.return_, 1) := by decide +kernel
theorem dX2_read_0 : decode cX2_read 0 = .ok (.aload_n 0, 1) := by decide +kernel
theorem dX2_read_1 : decode cX2_read 1 = .ok (.getfield 25, 3) := by decide +kernel
theorem dX2_read_4 : decode cX2_read 4 = .ok (.invokevirtual 42, 3) := by decide +kernel
theorem dX2_read_7 : decode cX2_read 7 = .ok (.aload_n 0, 1) := by decide +kernel
theorem dX2_read_8 : decode cX2_read 8 = .ok (.getfield 32, 3) := by decide +kernel
theorem dX2_read_11 : decode cX2_read 11 = .ok (.invokevirtual 45, 3) := by decide +kernel
theorem dX2_read_14 : decode cX2_read 14 = .ok (.aload_n 0, 1) := by decide +kernel
theorem dX2_read_15 : decode cX2_read 15 = .ok (.iconst 0, 1) := by decide +kernel
theorem dX2_read_16 : decode cX2_read 16 = .ok (.putfield 18, 3) := by decide +kernel
theorem dX2_read_19 : decode cX2_read 19 = .ok (.aload_n 0, 1) := by decide +kernel
theorem dX2_read_20 : decode cX2_read 20 = .ok (.iconst 0, 1) := by decide +kernel
theorem dX2_read_21 : decode cX2_read 21 = .ok (.putfield 36, 3) := by decide +kernel
theorem dX2_read_24 : decode cX2_read 24 = .ok (.aload_n 0, 1) := by decide +kernel
theorem dX2_read_25 : decode cX2_read 25 = .ok (.iconst (-1), 1) := by decide +kernel
theorem dX2_read_26 : decode cX2_read 26 = .ok (.putfield 39, 3) := by decide +kernel
theorem dX2_read_29 : decode cX2_read 29 = .ok (.aload_n 0, 1) := by decide +kernel
theorem dX2_read_30 : decode cX2_read 30 = .ok (.getfield 12, 3) := by decide +kernel
theorem dX2_read_33 : decode cX2_read 33 = .ok (.aload_n 1, 1) := by decide +kernel
theorem dX2_read_34 : decode cX2_read 34 = .ok (.iload_n 2, 1) := by decide +kernel
theorem dX2_read_35 : decode cX2_read 35 = .ok (.invokevirtual 46, 3) := by decide +kernel
theorem dX2_read_38 : decode cX2_read 38 = .ok (.iconst 0, 1) := by decide +kernel
theorem dX2_read_39 : decode cX2_read 39 = .ok (.istore_n 3, 1) := by decide +kernel
theorem dX2_read_40 : decode cX2_read 40 = .ok (.iload_n 3, 1) := by decide +kernel
theorem dX2_read_41 : decode cX2_read 41 = .ok (.sipush 800, 3) := by decide +kernel
theorem dX2_read_44 : decode cX2_read 44 = .ok (.if_icmp .ge 34, 3) := by decide +kernel
theorem dX2_read_47 : decode cX2_read 47 = .ok (.aload_n 0, 1) := by decide +kernel
theorem dX2_read_48 : decode cX2_read 48 = .ok (.getfield 36, 3) := by decide +kernel
theorem dX2_read_51 : decode cX2_read 51 = .ok (.ifCond .ne 27, 3) := by decide +kernel
theorem dX2_read_54 : decode cX2_read 54 = .ok (.aload_n 0, 1) := by decide +kernel
theorem dX2_read_55 : decode cX2_read 55 = .ok (.getfield 12, 3) := by decide +kernel
theorem dX2_read_58 : decode cX2_read 58 = .ok (.getfield 50, 3) := by decide +kernel
theorem dX2_read_61 : decode cX2_read 61 = .ok (.ifCond .eq 17, 3) := by decide +kernel
theorem dX2_read_64 : decode cX2_read 64 = .ok (.aload_n 0, 1) := by decide +kernel
theorem dX2_read_65 : decode cX2_read 65 = .ok (.invokevirtual 53, 3) := by decide +kernel
theorem dX2_read_68 : decode cX2_read 68 = .ok (.aload_n 0, 1) := by decide +kernel
theorem dX2_read_69 : decode cX2_read 69 = .ok (.invokevirtual 56, 3) := by decide +kernel
theorem dX2_read_72 : decode cX2_read 72 = .ok (.iinc 3 1, 3) := by decide +kernel
theorem dX2_read_75 : decode cX2_read 75 = .ok (.goto (-35), 3) := by decide +kernel
theorem dX2_read_78 : decode cX2_read 78 = .ok (.iload_n 3, 1) := by decide +kernel
theorem dX2_read_79 : decode cX2_read 79 = .ok (.ireturn, 1) := by decide +kernel
theorem dX2_fail_0 : decode cX2_fail 0 = .ok (.aload_n 0, 1) := by decide +kernel
theorem dX2_fail_1 : decode cX2_fail 1 = .ok (.getfield 36, 3) := by decide +kernel
theorem dX2_fail_4 : decode cX2_fail 4 = .ok (.ifCond .ne 19, 3) := by decide +kernel
theorem dX2_fail_7 : decode cX2_fail 7 = .ok (.aload_n 0, 1) := by decide +kernel
theorem dX2_fail_8 : decode cX2_fail 8 = .ok (.iload_n 1, 1) := by decide +kernel
theorem dX2_fail_9 : decode cX2_fail 9 = .ok (.putfield 36, 3) := by decide +kernel
theorem dX2_fail_12 : decode cX2_fail 12 = .ok (.aload_n 0, 1) := by decide +kernel
theorem dX2_fail_13 : decode cX2_fail 13 = .ok (.aload_n 0, 1) := by decide +kernel
theorem dX2_fail_14 : decode cX2_fail 14 = .ok (.getfield 12, 3) := by decide +kernel
theorem dX2_fail_17 : decode cX2_fail 17 = .ok (.getfield 59, 3) := by decide +kernel
theorem dX2_fail_20 : decode cX2_fail 20 = .ok (.putfield 39, 3) := by decide +kernel
theorem dX2_fail_23 : decode cX2_fail 23 = .ok (.return_, 1) := by decide +kernel
theorem dX2_readStatement_0 : decode cX2_readStatement 0 = .ok (.aload_n 0, 1) := by decide +kernel
theorem dX2_readStatement_1 : decode cX2_readStatement 1 = .ok (.getfield 12, 3) := by decide +kernel
theorem dX2_readStatement_4 : decode cX2_readStatement 4 = .ok (.ldc 62, 2) := by decide +kernel
theorem dX2_readStatement_6 : decode cX2_readStatement 6 = .ok (.invokevirtual 64, 3) := by decide +kernel
theorem dX2_readStatement_9 : decode cX2_readStatement 9 = .ok (.ifCond .eq 10, 3) := by decide +kernel
theorem dX2_readStatement_12 : decode cX2_readStatement 12 = .ok (.aload_n 0, 1) := by decide +kernel
theorem dX2_readStatement_13 : decode cX2_readStatement 13 = .ok (.invokevirtual 68, 3) := by decide +kernel
theorem dX2_readStatement_16 : decode cX2_readStatement 16 = .ok (.goto 104, 3) := by decide +kernel
theorem dX2_readStatement_19 : decode cX2_readStatement 19 = .ok (.aload_n 0, 1) := by decide +kernel
theorem dX2_readStatement_20 : decode cX2_readStatement 20 = .ok (.getfield 12, 3) := by decide +kernel
theorem dX2_readStatement_23 : decode cX2_readStatement 23 = .ok (.ldc 71, 2) := by decide +kernel
theorem dX2_readStatement_25 : decode cX2_readStatement 25 = .ok (.invokevirtual 64, 3) := by decide +kernel
theorem dX2_readStatement_28 : decode cX2_readStatement 28 = .ok (.ifCond .eq 10, 3) := by decide +kernel
theorem dX2_readStatement_31 : decode cX2_readStatement 31 = .ok (.aload_n 0, 1) := by decide +kernel
theorem dX2_readStatement_32 : decode cX2_readStatement 32 = .ok (.invokevirtual 73, 3) := by decide +kernel
theorem dX2_readStatement_35 : decode cX2_readStatement 35 = .ok (.goto 85, 3) := by decide +kernel
theorem dX2_readStatement_38 : decode cX2_readStatement 38 = .ok (.aload_n 0, 1) := by decide +kernel
theorem dX2_readStatement_39 : decode cX2_readStatement 39 = .ok (.getfield 12, 3) := by decide +kernel
theorem dX2_readStatement_42 : decode cX2_readStatement 42 = .ok (.ldc 76, 2) := by decide +kernel
theorem dX2_readStatement_44 : decode cX2_readStatement 44 = .ok (.invokevirtual 64, 3) := by decide +kernel
theorem dX2_readStatement_47 : decode cX2_readStatement 47 = .ok (.ifCond .eq 10, 3) := by decide +kernel
theorem dX2_readStatement_50 : decode cX2_readStatement 50 = .ok (.aload_n 0, 1) := by decide +kernel
theorem dX2_readStatement_51 : decode cX2_readStatement 51 = .ok (.invokevirtual 78, 3) := by decide +kernel
theorem dX2_readStatement_54 : decode cX2_readStatement 54 = .ok (.goto 66, 3) := by decide +kernel
theorem dX2_readStatement_57 : decode cX2_readStatement 57 = .ok (.aload_n 0, 1) := by decide +kernel
theorem dX2_readStatement_58 : decode cX2_readStatement 58 = .ok (.getfield 12, 3) := by decide +kernel
theorem dX2_readStatement_61 : decode cX2_readStatement 61 = .ok (.ldc 81, 2) := by decide +kernel
theorem dX2_readStatement_63 : decode cX2_readStatement 63 = .ok (.invokevirtual 64, 3) := by decide +kernel
theorem dX2_readStatement_66 : decode cX2_readStatement 66 = .ok (.ifCond .eq 10, 3) := by decide +kernel
theorem dX2_readStatement_69 : decode cX2_readStatement 69 = .ok (.aload_n 0, 1) := by decide +kernel
theorem dX2_readStatement_70 : decode cX2_readStatement 70 = .ok (.invokevirtual 83, 3) := by decide +kernel
theorem dX2_readStatement_73 : decode cX2_readStatement 73 = .ok (.goto 47, 3) := by decide +kernel
theorem dX2_readStatement_76 : decode cX2_readStatement 76 = .ok (.aload_n 0, 1) := by decide +kernel
theorem dX2_readStatement_77 : decode cX2_readStatement 77 = .ok (.getfield 12, 3) := by decide +kernel
theorem dX2_readStatement_80 : decode cX2_readStatement 80 = .ok (.ldc 86, 2) := by decide +kernel
theorem dX2_readStatement_82 : decode cX2_readStatement 82 = .ok (.invokevirtual 64, 3) := by decide +kernel
theorem dX2_readStatement_85 : decode cX2_readStatement 85 = .ok (.ifCond .eq 10, 3) := by decide +kernel
theorem dX2_readStatement_88 : decode cX2_readStatement 88 = .ok (.aload_n 0, 1) := by decide +kernel
theorem dX2_readStatement_89 : decode cX2_readStatement 89 = .ok (.invokevirtual 88, 3) := by decide +kernel
theorem dX2_readStatement_92 : decode cX2_readStatement 92 = .ok (.goto 28, 3) := by decide +kernel
theorem dX2_readStatement_95 : decode cX2_readStatement 95 = .ok (.aload_n 0, 1) := by decide +kernel
theorem dX2_readStatement_96 : decode cX2_readStatement 96 = .ok (.getfield 12, 3) := by decide +kernel
theorem dX2_readStatement_99 : decode cX2_readStatement 99 = .ok (.ldc 91, 2) := by decide +kernel
theorem dX2_readStatement_101 : decode cX2_readStatement 101 = .ok (.invokevirtual 64, 3) := by decide +kernel
theorem dX2_readStatement_104 : decode cX2_readStatement 104 = .ok (.ifCond .eq 10, 3) := by decide +kernel
theorem dX2_readStatement_107 : decode cX2_readStatement 107 = .ok (.aload_n 0, 1) := by decide +kernel
theorem dX2_readStatement_108 : decode cX2_readStatement 108 = .ok (.invokevirtual 93, 3) := by decide +kernel
theorem dX2_readStatement_111 : decode cX2_readStatement 111 = .ok (.goto 9, 3) := by decide +kernel
theorem dX2_readStatement_114 : decode cX2_readStatement 114 = .ok (.aload_n 0, 1) := by decide +kernel
theorem dX2_readStatement_115 : decode cX2_readStatement 115 = .ok (.bipush (-11), 2) := by decide +kernel
theorem dX2_readStatement_117 : decode cX2_readStatement 117 = .ok (.invokevirtual 96, 3) := by decide +kernel
theorem dX2_readStatement_120 : decode cX2_readStatement 120 = .ok (.return_, 1) := by decide +kernel
theorem dX2_readSemicolon_0 : decode cX2_readSemicolon 0 = .ok (.aload_n 0, 1) := by decide +kernel
theorem dX2_readSemicolon_1 : decode cX2_readSemicolon 1 = .ok (.getfield 12, 3) := by decide +kernel
theorem dX2_readSemicolon_4 : decode cX2_readSemicolon 4 = .ok (.getfield 50, 3) := by decide +kernel
theorem dX2_readSemicolon_7 : decode cX2_readSemicolon 7 = .ok (.iconst 3, 1) := by decide +kernel
theorem dX2_readSemicolon_8 : decode cX2_readSemicolon 8 = .ok (.if_icmp .eq 9, 3) := by decide +kernel
theorem dX2_readSemicolon_11 : decode cX2_readSemicolon 11 = .ok (.aload_n 0, 1) := by decide +kernel
theorem dX2_readSemicolon_12 : decode cX2_readSemicolon 12 = .ok (.bipush (-11), 2) := by decide +kernel
theorem dX2_readSemicolon_14 : decode cX2_readSemicolon 14 = .ok (.invokevirtual 96, 3) := by decide +kernel
theorem dX2_readSemicolon_17 : decode cX2_readSemicolon 17 = .ok (.aload_n 0, 1) := by decide +kernel
theorem dX2_readSemicolon_18 : decode cX2_readSemicolon 18 = .ok (.getfield 36, 3) := by decide +kernel
theorem dX2_readSemicolon_21 : decode cX2_readSemicolon 21 = .ok (.ifCond .ne 10, 3) := by decide +kernel
theorem dX2_readSemicolon_24 : decode cX2_readSemicolon 24 = .ok (.aload_n 0, 1) := by decide +kernel
theorem dX2_readSemicolon_25 : decode cX2_readSemicolon 25 = .ok (.getfield 12, 3) := by decide +kernel
theorem dX2_readSemicolon_28 : decode cX2_readSemicolon 28 = .ok (.invokevirtual 100, 3) := by decide +kernel
theorem dX2_readSemicolon_31 : decode cX2_readSemicolon 31 = .ok (.return_, 1) := by decide +kernel
theorem dX2_readInteger_0 : decode cX2_readInteger 0 = .ok (.aload_n 0, 1) := by decide +kernel
theorem dX2_readInteger_1 : decode cX2_readInteger 1 = .ok (.getfield 12, 3) := by decide +kernel
theorem dX2_readInteger_4 : decode cX2_readInteger 4 = .ok (.getfield 50, 3) := by decide +kernel
theorem dX2_readInteger_7 : decode cX2_readInteger 7 = .ok (.iconst 2, 1) := by decide +kernel
theorem dX2_readInteger_8 : decode cX2_readInteger 8 = .ok (.if_icmp .eq 9, 3) := by decide +kernel
theorem dX2_readInteger_11 : decode cX2_readInteger 11 = .ok (.aload_n 0, 1) := by decide +kernel
theorem dX2_readInteger_12 : decode cX2_readInteger 12 = .ok (.bipush (-11), 2) := by decide +kernel
theorem dX2_readInteger_14 : decode cX2_readInteger 14 = .ok (.invokevirtual 96, 3) := by decide +kernel
theorem dX2_readInteger_17 : decode cX2_readInteger 17 = .ok (.aload_n 0, 1) := by decide +kernel
theorem dX2_readInteger_18 : decode cX2_readInteger 18 = .ok (.getfield 12, 3) := by decide +kernel
theorem dX2_readInteger_21 : decode cX2_readInteger 21 = .ok (.invokevirtual 103, 3) := by decide +kernel
theorem dX2_readInteger_24 : decode cX2_readInteger 24 = .ok (.istore_n 3, 1) := by decide +kernel
theorem dX2_readInteger_25 : decode cX2_readInteger 25 = .ok (.iload_n 3, 1) := by decide +kernel
theorem dX2_readInteger_26 : decode cX2_readInteger 26 = .ok (.iload_n 1, 1) := by decide +kernel
theorem dX2_readInteger_27 : decode cX2_readInteger 27 = .ok (.if_icmp .lt 8, 3) := by decide +kernel
theorem dX2_readInteger_30 : decode cX2_readInteger 30 = .ok (.iload_n 3, 1) := by decide +kernel
theorem dX2_readInteger_31 : decode cX2_readInteger 31 = .ok (.iload_n 2, 1) := by decide +kernel
theorem dX2_readInteger_32 : decode cX2_readInteger 32 = .ok (.if_icmp .le 9, 3) := by decide +kernel
theorem dX2_readInteger_35 : decode cX2_readInteger 35 = .ok (.aload_n 0, 1) := by decide +kernel
theorem dX2_readInteger_36 : decode cX2_readInteger 36 = .ok (.bipush (-12), 2) := by decide +kernel
theorem dX2_readInteger_38 : decode cX2_readInteger 38 = .ok (.invokevirtual 96, 3) := by decide +kernel
theorem dX2_readInteger_41 : decode cX2_readInteger 41 = .ok (.aload_n 0, 1) := by decide +kernel
theorem dX2_readInteger_42 : decode cX2_readInteger 42 = .ok (.getfield 36, 3) := by decide +kernel
theorem dX2_readInteger_45 : decode cX2_readInteger 45 = .ok (.ifCond .eq 5, 3) := by decide +kernel
theorem dX2_readInteger_48 : decode cX2_readInteger 48 = .ok (.iconst 0, 1) := by decide +kernel
theorem dX2_readInteger_49 : decode cX2_readInteger 49 = .ok (.ireturn, 1) := by decide +kernel
theorem dX2_readInteger_50 : decode cX2_readInteger 50 = .ok (.aload_n 0, 1) := by decide +kernel
theorem dX2_readInteger_51 : decode cX2_readInteger 51 = .ok (.getfield 12, 3) := by decide +kernel
theorem dX2_readInteger_54 : decode cX2_readInteger 54 = .ok (.invokevirtual 100, 3) := by decide +kernel
theorem dX2_readInteger_57 : decode cX2_readInteger 57 = .ok (.iload_n 3, 1) := by decide +kernel
theorem dX2_readInteger_58 : decode cX2_readInteger 58 = .ok (.ireturn, 1) := by decide +kernel
theorem dX2_readNewName_0 : decode cX2_readNewName 0 = .ok (.aload_n 0, 1) := by decide +kernel
theorem dX2_readNewName_1 : decode cX2_readNewName 1 = .ok (.getfield 12, 3) := by decide +kernel
theorem dX2_readNewName_4 : decode cX2_readNewName 4 = .ok (.invokevirtual 107, 3) := by decide +kernel
theorem dX2_readNewName_7 : decode cX2_readNewName 7 = .ok (.ifCond .ne 9, 3) := by decide +kernel
theorem dX2_readNewName_10 : decode cX2_readNewName 10 = .ok (.aload_n 0, 1) := by decide +kernel
theorem dX2_readNewName_11 : decode cX2_readNewName 11 = .ok (.bipush (-11), 2) := by decide +kernel
theorem dX2_readNewName_13 : decode cX2_readNewName 13 = .ok (.invokevirtual 96, 3) := by decide +kernel
theorem dX2_readNewName_16 : decode cX2_readNewName 16 = .ok (.aload_n 0, 1) := by decide +kernel
theorem dX2_readNewName_17 : decode cX2_readNewName 17 = .ok (.getfield 12, 3) := by decide +kernel
theorem dX2_readNewName_20 : decode cX2_readNewName 20 = .ok (.invokevirtual 111, 3) := by decide +kernel
theorem dX2_readNewName_23 : decode cX2_readNewName 23 = .ok (.istore_n 1, 1) := by decide +kernel
theorem dX2_readNewName_24 : decode cX2_readNewName 24 = .ok (.aload_n 0, 1) := by decide +kernel
theorem dX2_readNewName_25 : decode cX2_readNewName 25 = .ok (.getfield 25, 3) := by decide +kernel
theorem dX2_readNewName_28 : decode cX2_readNewName 28 = .ok (.iload_n 1, 1) := by decide +kernel
theorem dX2_readNewName_29 : decode cX2_readNewName 29 = .ok (.invokevirtual 114, 3) := by decide +kernel
theorem dX2_readNewName_32 : decode cX2_readNewName 32 = .ok (.ifCond .eq 9, 3) := by decide +kernel
theorem dX2_readNewName_35 : decode cX2_readNewName 35 = .ok (.aload_n 0, 1) := by decide +kernel
theorem dX2_readNewName_36 : decode cX2_readNewName 36 = .ok (.bipush (-14), 2) := by decide +kernel
theorem dX2_readNewName_38 : decode cX2_readNewName 38 = .ok (.invokevirtual 96, 3) := by decide +kernel
theorem dX2_readNewName_41 : decode cX2_readNewName 41 = .ok (.aload_n 0, 1) := by decide +kernel
theorem dX2_readNewName_42 : decode cX2_readNewName 42 = .ok (.getfield 36, 3) := by decide +kernel
theorem dX2_readNewName_45 : decode cX2_readNewName 45 = .ok (.ifCond .eq 5, 3) := by decide +kernel
theorem dX2_readNewName_48 : decode cX2_readNewName 48 = .ok (.iconst 0, 1) := by decide +kernel
theorem dX2_readNewName_49 : decode cX2_readNewName 49 = .ok (.ireturn, 1) := by decide +kernel
theorem dX2_readNewName_50 : decode cX2_readNewName 50 = .ok (.aload_n 0, 1) := by decide +kernel
theorem dX2_readNewName_51 : decode cX2_readNewName 51 = .ok (.getfield 12, 3) := by decide +kernel
theorem dX2_readNewName_54 : decode cX2_readNewName 54 = .ok (.invokevirtual 100, 3) := by decide +kernel
theorem dX2_readNewName_57 : decode cX2_readNewName 57 = .ok (.iload_n 1, 1) := by decide +kernel
theorem dX2_readNewName_58 : decode cX2_readNewName 58 = .ok (.ireturn, 1) := by decide +kernel
theorem dX2_seeName_0 : decode cX2_seeName 0 = .ok (.aload_n 0, 1) := by decide +kernel
theorem dX2_seeName_1 : decode cX2_seeName 1 = .ok (.getfield 12, 3) := by decide +kernel
theorem dX2_seeName_4 : decode cX2_seeName 4 = .ok (.invokevirtual 107, 3) := by decide +kernel
theorem dX2_seeName_7 : decode cX2_seeName 7 = .ok (.ifCond .ne 9, 3) := by decide +kernel
theorem dX2_seeName_10 : decode cX2_seeName 10 = .ok (.aload_n 0, 1) := by decide +kernel
theorem dX2_seeName_11 : decode cX2_seeName 11 = .ok (.bipush (-11), 2) := by decide +kernel
theorem dX2_seeName_13 : decode cX2_seeName 13 = .ok (.invokevirtual 96, 3) := by decide +kernel
theorem dX2_seeName_16 : decode cX2_seeName 16 = .ok (.aload_n 1, 1) := by decide +kernel
theorem dX2_seeName_17 : decode cX2_seeName 17 = .ok (.iload_n 2, 1) := by decide +kernel
theorem dX2_seeName_18 : decode cX2_seeName 18 = .ok (.aload_n 0, 1) := by decide +kernel
theorem dX2_seeName_19 : decode cX2_seeName 19 = .ok (.getfield 12, 3) := by decide +kernel
theorem dX2_seeName_22 : decode cX2_seeName 22 = .ok (.invokevirtual 111, 3) := by decide +kernel
theorem dX2_seeName_25 : decode cX2_seeName 25 = .ok (.invokestatic 118, 3) := by decide +kernel
theorem dX2_seeName_28 : decode cX2_seeName 28 = .ok (.istore_n 3, 1) := by decide +kernel
theorem dX2_seeName_29 : decode cX2_seeName 29 = .ok (.iload_n 3, 1) := by decide +kernel
theorem dX2_seeName_30 : decode cX2_seeName 30 = .ok (.ifCond .ge 9, 3) := by decide +kernel
theorem dX2_seeName_33 : decode cX2_seeName 33 = .ok (.aload_n 0, 1) := by decide +kernel
theorem dX2_seeName_34 : decode cX2_seeName 34 = .ok (.bipush (-13), 2) := by decide +kernel
theorem dX2_seeName_36 : decode cX2_seeName 36 = .ok (.invokevirtual 96, 3) := by decide +kernel
theorem dX2_seeName_39 : decode cX2_seeName 39 = .ok (.aload_n 0, 1) := by decide +kernel
theorem dX2_seeName_40 : decode cX2_seeName 40 = .ok (.getfield 36, 3) := by decide +kernel
theorem dX2_seeName_43 : decode cX2_seeName 43 = .ok (.ifCond .ne 7, 3) := by decide +kernel
theorem dX2_seeName_46 : decode cX2_seeName 46 = .ok (.iload_n 3, 1) := by decide +kernel
theorem dX2_seeName_47 : decode cX2_seeName 47 = .ok (.goto 4, 3) := by decide +kernel
theorem dX2_seeName_50 : decode cX2_seeName 50 = .ok (.iconst 0, 1) := by decide +kernel
theorem dX2_seeName_51 : decode cX2_seeName 51 = .ok (.ireturn, 1) := by decide +kernel
theorem dX2_passUnless_0 : decode cX2_passUnless 0 = .ok (.iload_n 1, 1) := by decide +kernel
theorem dX2_passUnless_1 : decode cX2_passUnless 1 = .ok (.ifCond .eq 9, 3) := by decide +kernel
theorem dX2_passUnless_4 : decode cX2_passUnless 4 = .ok (.aload_n 0, 1) := by decide +kernel
theorem dX2_passUnless_5 : decode cX2_passUnless 5 = .ok (.bipush (-14), 2) := by decide +kernel
theorem dX2_passUnless_7 : decode cX2_passUnless 7 = .ok (.invokevirtual 96, 3) := by decide +kernel
theorem dX2_passUnless_10 : decode cX2_passUnless 10 = .ok (.aload_n 0, 1) := by decide +kernel
theorem dX2_passUnless_11 : decode cX2_passUnless 11 = .ok (.getfield 36, 3) := by decide +kernel
theorem dX2_passUnless_14 : decode cX2_passUnless 14 = .ok (.ifCond .ne 10, 3) := by decide +kernel
theorem dX2_passUnless_17 : decode cX2_passUnless 17 = .ok (.aload_n 0, 1) := by decide +kernel
theorem dX2_passUnless_18 : decode cX2_passUnless 18 = .ok (.getfield 12, 3) := by decide +kernel
theorem dX2_passUnless_21 : decode cX2_passUnless 21 = .ok (.invokevirtual 100, 3) := by decide +kernel
theorem dX2_passUnless_24 : decode cX2_passUnless 24 = .ok (.return_, 1) := by decide +kernel
theorem dX2_readGroup_0 : decode cX2_readGroup 0 = .ok (.aload_n 0, 1) := by decide +kernel
theorem dX2_readGroup_1 : decode cX2_readGroup 1 = .ok (.getfield 25, 3) := by decide +kernel
theorem dX2_readGroup_4 : decode cX2_readGroup 4 = .ok (.getfield 122, 3) := by decide +kernel
theorem dX2_readGroup_7 : decode cX2_readGroup 7 = .ok (.istore_n 1, 1) := by decide +kernel
theorem dX2_readGroup_8 : decode cX2_readGroup 8 = .ok (.iload_n 1, 1) := by decide +kernel
theorem dX2_readGroup_9 : decode cX2_readGroup 9 = .ok (.iconst 4, 1) := by decide +kernel
theorem dX2_readGroup_10 : decode cX2_readGroup 10 = .ok (.if_icmp .lt 10, 3) := by decide +kernel
theorem dX2_readGroup_13 : decode cX2_readGroup 13 = .ok (.aload_n 0, 1) := by decide +kernel
theorem dX2_readGroup_14 : decode cX2_readGroup 14 = .ok (.bipush (-15), 2) := by decide +kernel
theorem dX2_readGroup_16 : decode cX2_readGroup 16 = .ok (.invokevirtual 96, 3) := by decide +kernel
theorem dX2_readGroup_19 : decode cX2_readGroup 19 = .ok (.return_, 1) := by decide +kernel
theorem dX2_readGroup_20 : decode cX2_readGroup 20 = .ok (.aload_n 0, 1) := by decide +kernel
theorem dX2_readGroup_21 : decode cX2_readGroup 21 = .ok (.getfield 12, 3) := by decide +kernel
theorem dX2_readGroup_24 : decode cX2_readGroup 24 = .ok (.invokevirtual 100, 3) := by decide +kernel
theorem dX2_readGroup_27 : decode cX2_readGroup 27 = .ok (.aload_n 0, 1) := by decide +kernel
theorem dX2_readGroup_28 : decode cX2_readGroup 28 = .ok (.getfield 25, 3) := by decide +kernel
theorem dX2_readGroup_31 : decode cX2_readGroup 31 = .ok (.getfield 125, 3) := by decide +kernel
theorem dX2_readGroup_34 : decode cX2_readGroup 34 = .ok (.iload_n 1, 1) := by decide +kernel
theorem dX2_readGroup_35 : decode cX2_readGroup 35 = .ok (.aload_n 0, 1) := by decide +kernel
theorem dX2_readGroup_36 : decode cX2_readGroup 36 = .ok (.invokevirtual 129, 3) := by decide +kernel
theorem dX2_readGroup_39 : decode cX2_readGroup 39 = .ok (.iastore, 1) := by decide +kernel
theorem dX2_readGroup_40 : decode cX2_readGroup 40 = .ok (.aload_n 0, 1) := by decide +kernel
theorem dX2_readGroup_41 : decode cX2_readGroup 41 = .ok (.getfield 32, 3) := by decide +kernel
theorem dX2_readGroup_44 : decode cX2_readGroup 44 = .ok (.getfield 132, 3) := by decide +kernel
theorem dX2_readGroup_47 : decode cX2_readGroup 47 = .ok (.iload_n 1, 1) := by decide +kernel
theorem dX2_readGroup_48 : decode cX2_readGroup 48 = .ok (.aload_n 0, 1) := by decide +kernel
theorem dX2_readGroup_49 : decode cX2_readGroup 49 = .ok (.iconst 0, 1) := by decide +kernel
theorem dX2_readGroup_50 : decode cX2_readGroup 50 = .ok (.bipush 99, 2) := by decide +kernel
theorem dX2_readGroup_52 : decode cX2_readGroup 52 = .ok (.invokevirtual 135, 3) := by decide +kernel
theorem dX2_readGroup_55 : decode cX2_readGroup 55 = .ok (.iastore, 1) := by decide +kernel
theorem dX2_readGroup_56 : decode cX2_readGroup 56 = .ok (.aload_n 0, 1) := by decide +kernel
theorem dX2_readGroup_57 : decode cX2_readGroup 57 = .ok (.getfield 25, 3) := by decide +kernel
theorem dX2_readGroup_60 : decode cX2_readGroup 60 = .ok (.getfield 139, 3) := by decide +kernel
theorem dX2_readGroup_63 : decode cX2_readGroup 63 = .ok (.iload_n 1, 1) := by decide +kernel
theorem dX2_readGroup_64 : decode cX2_readGroup 64 = .ok (.aload_n 0, 1) := by decide +kernel
theorem dX2_readGroup_65 : decode cX2_readGroup 65 = .ok (.iconst 1, 1) := by decide +kernel
theorem dX2_readGroup_66 : decode cX2_readGroup 66 = .ok (.iconst 4, 1) := by decide +kernel
theorem dX2_readGroup_67 : decode cX2_readGroup 67 = .ok (.invokevirtual 135, 3) := by decide +kernel
theorem dX2_readGroup_70 : decode cX2_readGroup 70 = .ok (.iastore, 1) := by decide +kernel
theorem dX2_readGroup_71 : decode cX2_readGroup 71 = .ok (.aload_n 0, 1) := by decide +kernel
theorem dX2_readGroup_72 : decode cX2_readGroup 72 = .ok (.getfield 25, 3) := by decide +kernel
theorem dX2_readGroup_75 : decode cX2_readGroup 75 = .ok (.getfield 142, 3) := by decide +kernel
theorem dX2_readGroup_78 : decode cX2_readGroup 78 = .ok (.iload_n 1, 1) := by decide +kernel
theorem dX2_readGroup_79 : decode cX2_readGroup 79 = .ok (.aload_n 0, 1) := by decide +kernel
theorem dX2_readGroup_80 : decode cX2_readGroup 80 = .ok (.iconst 0, 1) := by decide +kernel
theorem dX2_readGroup_81 : decode cX2_readGroup 81 = .ok (.bipush 100, 2) := by decide +kernel
theorem dX2_readGroup_83 : decode cX2_readGroup 83 = .ok (.invokevirtual 135, 3) := by decide +kernel
theorem dX2_readGroup_86 : decode cX2_readGroup 86 = .ok (.iastore, 1) := by decide +kernel
theorem dX2_readGroup_87 : decode cX2_readGroup 87 = .ok (.aload_n 0, 1) := by decide +kernel
theorem dX2_readGroup_88 : decode cX2_readGroup 88 = .ok (.getfield 25, 3) := by decide +kernel
theorem dX2_readGroup_91 : decode cX2_readGroup 91 = .ok (.getfield 145, 3) := by decide +kernel
theorem dX2_readGroup_94 : decode cX2_readGroup 94 = .ok (.iload_n 1, 1) := by decide +kernel
theorem dX2_readGroup_95 : decode cX2_readGroup 95 = .ok (.iconst (-1), 1) := by decide +kernel
theorem dX2_readGroup_96 : decode cX2_readGroup 96 = .ok (.iastore, 1) := by decide +kernel
theorem dX2_readGroup_97 : decode cX2_readGroup 97 = .ok (.aload_n 0, 1) := by decide +kernel
theorem dX2_readGroup_98 : decode cX2_readGroup 98 = .ok (.getfield 25, 3) := by decide +kernel
theorem dX2_readGroup_101 : decode cX2_readGroup 101 = .ok (.getfield 148, 3) := by decide +kernel
theorem dX2_readGroup_104 : decode cX2_readGroup 104 = .ok (.iload_n 1, 1) := by decide +kernel
theorem dX2_readGroup_105 : decode cX2_readGroup 105 = .ok (.iconst 0, 1) := by decide +kernel
theorem dX2_readGroup_106 : decode cX2_readGroup 106 = .ok (.iastore, 1) := by decide +kernel
theorem dX2_readGroup_107 : decode cX2_readGroup 107 = .ok (.aload_n 0, 1) := by decide +kernel
theorem dX2_readGroup_108 : decode cX2_readGroup 108 = .ok (.getfield 25, 3) := by decide +kernel
theorem dX2_readGroup_111 : decode cX2_readGroup 111 = .ok (.dup, 1) := by decide +kernel
theorem dX2_readGroup_112 : decode cX2_readGroup 112 = .ok (.getfield 122, 3) := by decide +kernel
theorem dX2_readGroup_115 : decode cX2_readGroup 115 = .ok (.iconst 1, 1) := by decide +kernel
theorem dX2_readGroup_116 : decode cX2_readGroup 116 = .ok (.iadd, 1) := by decide +kernel
theorem dX2_readGroup_117 : decode cX2_readGroup 117 = .ok (.putfield 122, 3) := by decide +kernel
theorem dX2_readGroup_120 : decode cX2_readGroup 120 = .ok (.return_, 1) := by decide +kernel
theorem dX2_readSwap_0 : decode cX2_readSwap 0 = .ok (.aload_n 0, 1) := by decide +kernel
theorem dX2_readSwap_1 : decode cX2_readSwap 1 = .ok (.getfield 12, 3) := by decide +kernel
theorem dX2_readSwap_4 : decode cX2_readSwap 4 = .ok (.invokevirtual 100, 3) := by decide +kernel
theorem dX2_readSwap_7 : decode cX2_readSwap 7 = .ok (.aload_n 0, 1) := by decide +kernel
theorem dX2_readSwap_8 : decode cX2_readSwap 8 = .ok (.aload_n 0, 1) := by decide +kernel
theorem dX2_readSwap_9 : decode cX2_readSwap 9 = .ok (.getfield 25, 3) := by decide +kernel
theorem dX2_readSwap_12 : decode cX2_readSwap 12 = .ok (.getfield 125, 3) := by decide +kernel
theorem dX2_readSwap_15 : decode cX2_readSwap 15 = .ok (.aload_n 0, 1) := by decide +kernel
theorem dX2_readSwap_16 : decode cX2_readSwap 16 = .ok (.getfield 25, 3) := by decide +kernel
theorem dX2_readSwap_19 : decode cX2_readSwap 19 = .ok (.getfield 122, 3) := by decide +kernel
theorem dX2_readSwap_22 : decode cX2_readSwap 22 = .ok (.invokevirtual 151, 3) := by decide +kernel
theorem dX2_readSwap_25 : decode cX2_readSwap 25 = .ok (.istore_n 1, 1) := by decide +kernel
theorem dX2_readSwap_26 : decode cX2_readSwap 26 = .ok (.aload_n 0, 1) := by decide +kernel
theorem dX2_readSwap_27 : decode cX2_readSwap 27 = .ok (.aload_n 0, 1) := by decide +kernel
theorem dX2_readSwap_28 : decode cX2_readSwap 28 = .ok (.getfield 25, 3) := by decide +kernel
theorem dX2_readSwap_31 : decode cX2_readSwap 31 = .ok (.getfield 145, 3) := by decide +kernel
theorem dX2_readSwap_34 : decode cX2_readSwap 34 = .ok (.iload_n 1, 1) := by decide +kernel
theorem dX2_readSwap_35 : decode cX2_readSwap 35 = .ok (.iaload, 1) := by decide +kernel
theorem dX2_readSwap_36 : decode cX2_readSwap 36 = .ok (.ifCond .lt 7, 3) := by decide +kernel
theorem dX2_readSwap_39 : decode cX2_readSwap 39 = .ok (.iconst 1, 1) := by decide +kernel
theorem dX2_readSwap_40 : decode cX2_readSwap 40 = .ok (.goto 4, 3) := by decide +kernel
theorem dX2_readSwap_43 : decode cX2_readSwap 43 = .ok (.iconst 0, 1) := by decide +kernel
theorem dX2_readSwap_44 : decode cX2_readSwap 44 = .ok (.invokevirtual 155, 3) := by decide +kernel
theorem dX2_readSwap_47 : decode cX2_readSwap 47 = .ok (.aload_n 0, 1) := by decide +kernel
theorem dX2_readSwap_48 : decode cX2_readSwap 48 = .ok (.aload_n 0, 1) := by decide +kernel
theorem dX2_readSwap_49 : decode cX2_readSwap 49 = .ok (.getfield 25, 3) := by decide +kernel
theorem dX2_readSwap_52 : decode cX2_readSwap 52 = .ok (.getfield 125, 3) := by decide +kernel
theorem dX2_readSwap_55 : decode cX2_readSwap 55 = .ok (.aload_n 0, 1) := by decide +kernel
theorem dX2_readSwap_56 : decode cX2_readSwap 56 = .ok (.getfield 25, 3) := by decide +kernel
theorem dX2_readSwap_59 : decode cX2_readSwap 59 = .ok (.getfield 122, 3) := by decide +kernel
theorem dX2_readSwap_62 : decode cX2_readSwap 62 = .ok (.invokevirtual 151, 3) := by decide +kernel
theorem dX2_readSwap_65 : decode cX2_readSwap 65 = .ok (.istore_n 2, 1) := by decide +kernel
theorem dX2_readSwap_66 : decode cX2_readSwap 66 = .ok (.aload_n 0, 1) := by decide +kernel
theorem dX2_readSwap_67 : decode cX2_readSwap 67 = .ok (.iload_n 2, 1) := by decide +kernel
theorem dX2_readSwap_68 : decode cX2_readSwap 68 = .ok (.iload_n 1, 1) := by decide +kernel
theorem dX2_readSwap_69 : decode cX2_readSwap 69 = .ok (.if_icmp .ne 7, 3) := by decide +kernel
theorem dX2_readSwap_72 : decode cX2_readSwap 72 = .ok (.iconst 1, 1) := by decide +kernel
theorem dX2_readSwap_73 : decode cX2_readSwap 73 = .ok (.goto 4, 3) := by decide +kernel
theorem dX2_readSwap_76 : decode cX2_readSwap 76 = .ok (.iconst 0, 1) := by decide +kernel
theorem dX2_readSwap_77 : decode cX2_readSwap 77 = .ok (.invokevirtual 155, 3) := by decide +kernel
theorem dX2_readSwap_80 : decode cX2_readSwap 80 = .ok (.aload_n 0, 1) := by decide +kernel
theorem dX2_readSwap_81 : decode cX2_readSwap 81 = .ok (.getfield 25, 3) := by decide +kernel
theorem dX2_readSwap_84 : decode cX2_readSwap 84 = .ok (.getfield 148, 3) := by decide +kernel
theorem dX2_readSwap_87 : decode cX2_readSwap 87 = .ok (.iload_n 1, 1) := by decide +kernel
theorem dX2_readSwap_88 : decode cX2_readSwap 88 = .ok (.aload_n 0, 1) := by decide +kernel
theorem dX2_readSwap_89 : decode cX2_readSwap 89 = .ok (.iconst 1, 1) := by decide +kernel
theorem dX2_readSwap_90 : decode cX2_readSwap 90 = .ok (.bipush 9, 2) := by decide +kernel
theorem dX2_readSwap_92 : decode cX2_readSwap 92 = .ok (.invokevirtual 135, 3) := by decide +kernel
theorem dX2_readSwap_95 : decode cX2_readSwap 95 = .ok (.iastore, 1) := by decide +kernel
theorem dX2_readSwap_96 : decode cX2_readSwap 96 = .ok (.aload_n 0, 1) := by decide +kernel
theorem dX2_readSwap_97 : decode cX2_readSwap 97 = .ok (.getfield 25, 3) := by decide +kernel
theorem dX2_readSwap_100 : decode cX2_readSwap 100 = .ok (.getfield 145, 3) := by decide +kernel
theorem dX2_readSwap_103 : decode cX2_readSwap 103 = .ok (.iload_n 1, 1) := by decide +kernel
theorem dX2_readSwap_104 : decode cX2_readSwap 104 = .ok (.iload_n 2, 1) := by decide +kernel
theorem dX2_readSwap_105 : decode cX2_readSwap 105 = .ok (.iastore, 1) := by decide +kernel
theorem dX2_readSwap_106 : decode cX2_readSwap 106 = .ok (.return_, 1) := by decide +kernel
theorem dX2_readGood_0 : decode cX2_readGood 0 = .ok (.aload_n 0, 1) := by decide +kernel
theorem dX2_readGood_1 : decode cX2_readGood 1 = .ok (.getfield 25, 3) := by decide +kernel
theorem dX2_readGood_4 : decode cX2_readGood 4 = .ok (.getfield 159, 3) := by decide +kernel
theorem dX2_readGood_7 : decode cX2_readGood 7 = .ok (.istore_n 1, 1) := by decide +kernel
theorem dX2_readGood_8 : decode cX2_readGood 8 = .ok (.iload_n 1, 1) := by decide +kernel
theorem dX2_readGood_9 : decode cX2_readGood 9 = .ok (.bipush 6, 2) := by decide +kernel
theorem dX2_readGood_11 : decode cX2_readGood 11 = .ok (.if_icmp .lt 10, 3) := by decide +kernel
theorem dX2_readGood_14 : decode cX2_readGood 14 = .ok (.aload_n 0, 1) := by decide +kernel
theorem dX2_readGood_15 : decode cX2_readGood 15 = .ok (.bipush (-15), 2) := by decide +kernel
theorem dX2_readGood_17 : decode cX2_readGood 17 = .ok (.invokevirtual 96, 3) := by decide +kernel
theorem dX2_readGood_20 : decode cX2_readGood 20 = .ok (.return_, 1) := by decide +kernel
theorem dX2_readGood_21 : decode cX2_readGood 21 = .ok (.aload_n 0, 1) := by decide +kernel
theorem dX2_readGood_22 : decode cX2_readGood 22 = .ok (.getfield 12, 3) := by decide +kernel
theorem dX2_readGood_25 : decode cX2_readGood 25 = .ok (.invokevirtual 100, 3) := by decide +kernel
theorem dX2_readGood_28 : decode cX2_readGood 28 = .ok (.aload_n 0, 1) := by decide +kernel
theorem dX2_readGood_29 : decode cX2_readGood 29 = .ok (.getfield 25, 3) := by decide +kernel
theorem dX2_readGood_32 : decode cX2_readGood 32 = .ok (.getfield 162, 3) := by decide +kernel
theorem dX2_readGood_35 : decode cX2_readGood 35 = .ok (.iload_n 1, 1) := by decide +kernel
theorem dX2_readGood_36 : decode cX2_readGood 36 = .ok (.aload_n 0, 1) := by decide +kernel
theorem dX2_readGood_37 : decode cX2_readGood 37 = .ok (.invokevirtual 129, 3) := by decide +kernel
theorem dX2_readGood_40 : decode cX2_readGood 40 = .ok (.iastore, 1) := by decide +kernel
theorem dX2_readGood_41 : decode cX2_readGood 41 = .ok (.aload_n 0, 1) := by decide +kernel
theorem dX2_readGood_42 : decode cX2_readGood 42 = .ok (.getfield 25, 3) := by decide +kernel
theorem dX2_readGood_45 : decode cX2_readGood 45 = .ok (.getfield 165, 3) := by decide +kernel
theorem dX2_readGood_48 : decode cX2_readGood 48 = .ok (.iload_n 1, 1) := by decide +kernel
theorem dX2_readGood_49 : decode cX2_readGood 49 = .ok (.aload_n 0, 1) := by decide +kernel
theorem dX2_readGood_50 : decode cX2_readGood 50 = .ok (.aload_n 0, 1) := by decide +kernel
theorem dX2_readGood_51 : decode cX2_readGood 51 = .ok (.getfield 25, 3) := by decide +kernel
theorem dX2_readGood_54 : decode cX2_readGood 54 = .ok (.getfield 125, 3) := by decide +kernel
theorem dX2_readGood_57 : decode cX2_readGood 57 = .ok (.aload_n 0, 1) := by decide +kernel
theorem dX2_readGood_58 : decode cX2_readGood 58 = .ok (.getfield 25, 3) := by decide +kernel
theorem dX2_readGood_61 : decode cX2_readGood 61 = .ok (.getfield 122, 3) := by decide +kernel
theorem dX2_readGood_64 : decode cX2_readGood 64 = .ok (.invokevirtual 151, 3) := by decide +kernel
theorem dX2_readGood_67 : decode cX2_readGood 67 = .ok (.iastore, 1) := by decide +kernel
theorem dX2_readGood_68 : decode cX2_readGood 68 = .ok (.aload_n 0, 1) := by decide +kernel
theorem dX2_readGood_69 : decode cX2_readGood 69 = .ok (.iconst 0, 1) := by decide +kernel
theorem dX2_readGood_70 : decode cX2_readGood 70 = .ok (.invokevirtual 155, 3) := by decide +kernel
theorem dX2_readGood_73 : decode cX2_readGood 73 = .ok (.aload_n 0, 1) := by decide +kernel
theorem dX2_readGood_74 : decode cX2_readGood 74 = .ok (.getfield 25, 3) := by decide +kernel
theorem dX2_readGood_77 : decode cX2_readGood 77 = .ok (.getfield 168, 3) := by decide +kernel
theorem dX2_readGood_80 : decode cX2_readGood 80 = .ok (.iload_n 1, 1) := by decide +kernel
theorem dX2_readGood_81 : decode cX2_readGood 81 = .ok (.aload_n 0, 1) := by decide +kernel
theorem dX2_readGood_82 : decode cX2_readGood 82 = .ok (.iconst 1, 1) := by decide +kernel
theorem dX2_readGood_83 : decode cX2_readGood 83 = .ok (.bipush 20, 2) := by decide +kernel
theorem dX2_readGood_85 : decode cX2_readGood 85 = .ok (.invokevirtual 135, 3) := by decide +kernel
theorem dX2_readGood_88 : decode cX2_readGood 88 = .ok (.iastore, 1) := by decide +kernel
theorem dX2_readGood_89 : decode cX2_readGood 89 = .ok (.aload_n 0, 1) := by decide +kernel
theorem dX2_readGood_90 : decode cX2_readGood 90 = .ok (.getfield 25, 3) := by decide +kernel
theorem dX2_readGood_93 : decode cX2_readGood 93 = .ok (.getfield 171, 3) := by decide +kernel
theorem dX2_readGood_96 : decode cX2_readGood 96 = .ok (.iload_n 1, 1) := by decide +kernel
theorem dX2_readGood_97 : decode cX2_readGood 97 = .ok (.aload_n 0, 1) := by decide +kernel
theorem dX2_readGood_98 : decode cX2_readGood 98 = .ok (.iconst 0, 1) := by decide +kernel
theorem dX2_readGood_99 : decode cX2_readGood 99 = .ok (.bipush 99, 2) := by decide +kernel
theorem dX2_readGood_101 : decode cX2_readGood 101 = .ok (.invokevirtual 135, 3) := by decide +kernel
theorem dX2_readGood_104 : decode cX2_readGood 104 = .ok (.iastore, 1) := by decide +kernel
theorem dX2_readGood_105 : decode cX2_readGood 105 = .ok (.aload_n 0, 1) := by decide +kernel
theorem dX2_readGood_106 : decode cX2_readGood 106 = .ok (.getfield 25, 3) := by decide +kernel
theorem dX2_readGood_109 : decode cX2_readGood 109 = .ok (.dup, 1) := by decide +kernel
theorem dX2_readGood_110 : decode cX2_readGood 110 = .ok (.getfield 159, 3) := by decide +kernel
theorem dX2_readGood_113 : decode cX2_readGood 113 = .ok (.iconst 1, 1) := by decide +kernel
theorem dX2_readGood_114 : decode cX2_readGood 114 = .ok (.iadd, 1) := by decide +kernel
theorem dX2_readGood_115 : decode cX2_readGood 115 = .ok (.putfield 159, 3) := by decide +kernel
theorem dX2_readGood_118 : decode cX2_readGood 118 = .ok (.return_, 1) := by decide +kernel
theorem dX2_readHouse_0 : decode cX2_readHouse 0 = .ok (.aload_n 0, 1) := by decide +kernel
theorem dX2_readHouse_1 : decode cX2_readHouse 1 = .ok (.getfield 25, 3) := by decide +kernel
theorem dX2_readHouse_4 : decode cX2_readHouse 4 = .ok (.getfield 174, 3) := by decide +kernel
theorem dX2_readHouse_7 : decode cX2_readHouse 7 = .ok (.istore_n 1, 1) := by decide +kernel
theorem dX2_readHouse_8 : decode cX2_readHouse 8 = .ok (.iload_n 1, 1) := by decide +kernel
theorem dX2_readHouse_9 : decode cX2_readHouse 9 = .ok (.bipush 6, 2) := by decide +kernel
theorem dX2_readHouse_11 : decode cX2_readHouse 11 = .ok (.if_icmp .lt 10, 3) := by decide +kernel
theorem dX2_readHouse_14 : decode cX2_readHouse 14 = .ok (.aload_n 0, 1) := by decide +kernel
theorem dX2_readHouse_15 : decode cX2_readHouse 15 = .ok (.bipush (-15), 2) := by decide +kernel
theorem dX2_readHouse_17 : decode cX2_readHouse 17 = .ok (.invokevirtual 96, 3) := by decide +kernel
theorem dX2_readHouse_20 : decode cX2_readHouse 20 = .ok (.return_, 1) := by decide +kernel
theorem dX2_readHouse_21 : decode cX2_readHouse 21 = .ok (.aload_n 0, 1) := by decide +kernel
theorem dX2_readHouse_22 : decode cX2_readHouse 22 = .ok (.getfield 12, 3) := by decide +kernel
theorem dX2_readHouse_25 : decode cX2_readHouse 25 = .ok (.invokevirtual 100, 3) := by decide +kernel
theorem dX2_readHouse_28 : decode cX2_readHouse 28 = .ok (.aload_n 0, 1) := by decide +kernel
theorem dX2_readHouse_29 : decode cX2_readHouse 29 = .ok (.getfield 25, 3) := by decide +kernel
theorem dX2_readHouse_32 : decode cX2_readHouse 32 = .ok (.getfield 177, 3) := by decide +kernel
theorem dX2_readHouse_35 : decode cX2_readHouse 35 = .ok (.iload_n 1, 1) := by decide +kernel
theorem dX2_readHouse_36 : decode cX2_readHouse 36 = .ok (.aload_n 0, 1) := by decide +kernel
theorem dX2_readHouse_37 : decode cX2_readHouse 37 = .ok (.invokevirtual 129, 3) := by decide +kernel
theorem dX2_readHouse_40 : decode cX2_readHouse 40 = .ok (.iastore, 1) := by decide +kernel
theorem dX2_readHouse_41 : decode cX2_readHouse 41 = .ok (.aload_n 0, 1) := by decide +kernel
theorem dX2_readHouse_42 : decode cX2_readHouse 42 = .ok (.getfield 32, 3) := by decide +kernel
theorem dX2_readHouse_45 : decode cX2_readHouse 45 = .ok (.getfield 180, 3) := by decide +kernel
theorem dX2_readHouse_48 : decode cX2_readHouse 48 = .ok (.iload_n 1, 1) := by decide +kernel
theorem dX2_readHouse_49 : decode cX2_readHouse 49 = .ok (.aload_n 0, 1) := by decide +kernel
theorem dX2_readHouse_50 : decode cX2_readHouse 50 = .ok (.iconst 1, 1) := by decide +kernel
theorem dX2_readHouse_51 : decode cX2_readHouse 51 = .ok (.bipush 9, 2) := by decide +kernel
theorem dX2_readHouse_53 : decode cX2_readHouse 53 = .ok (.invokevirtual 135, 3) := by decide +kernel
theorem dX2_readHouse_56 : decode cX2_readHouse 56 = .ok (.iastore, 1) := by decide +kernel
theorem dX2_readHouse_57 : decode cX2_readHouse 57 = .ok (.aload_n 0, 1) := by decide +kernel
theorem dX2_readHouse_58 : decode cX2_readHouse 58 = .ok (.getfield 25, 3) := by decide +kernel
theorem dX2_readHouse_61 : decode cX2_readHouse 61 = .ok (.dup, 1) := by decide +kernel
theorem dX2_readHouse_62 : decode cX2_readHouse 62 = .ok (.getfield 174, 3) := by decide +kernel
theorem dX2_readHouse_65 : decode cX2_readHouse 65 = .ok (.iconst 1, 1) := by decide +kernel
theorem dX2_readHouse_66 : decode cX2_readHouse 66 = .ok (.iadd, 1) := by decide +kernel
theorem dX2_readHouse_67 : decode cX2_readHouse 67 = .ok (.putfield 174, 3) := by decide +kernel
theorem dX2_readHouse_70 : decode cX2_readHouse 70 = .ok (.return_, 1) := by decide +kernel
theorem dX2_readShop_0 : decode cX2_readShop 0 = .ok (.aload_n 0, 1) := by decide +kernel
theorem dX2_readShop_1 : decode cX2_readShop 1 = .ok (.getfield 25, 3) := by decide +kernel
theorem dX2_readShop_4 : decode cX2_readShop 4 = .ok (.getfield 183, 3) := by decide +kernel
theorem dX2_readShop_7 : decode cX2_readShop 7 = .ok (.istore_n 1, 1) := by decide +kernel
theorem dX2_readShop_8 : decode cX2_readShop 8 = .ok (.iload_n 1, 1) := by decide +kernel
theorem dX2_readShop_9 : decode cX2_readShop 9 = .ok (.iconst 4, 1) := by decide +kernel
theorem dX2_readShop_10 : decode cX2_readShop 10 = .ok (.if_icmp .lt 10, 3) := by decide +kernel
theorem dX2_readShop_13 : decode cX2_readShop 13 = .ok (.aload_n 0, 1) := by decide +kernel
theorem dX2_readShop_14 : decode cX2_readShop 14 = .ok (.bipush (-15), 2) := by decide +kernel
theorem dX2_readShop_16 : decode cX2_readShop 16 = .ok (.invokevirtual 96, 3) := by decide +kernel
theorem dX2_readShop_19 : decode cX2_readShop 19 = .ok (.return_, 1) := by decide +kernel
theorem dX2_readShop_20 : decode cX2_readShop 20 = .ok (.aload_n 0, 1) := by decide +kernel
theorem dX2_readShop_21 : decode cX2_readShop 21 = .ok (.getfield 12, 3) := by decide +kernel
theorem dX2_readShop_24 : decode cX2_readShop 24 = .ok (.invokevirtual 100, 3) := by decide +kernel
theorem dX2_readShop_27 : decode cX2_readShop 27 = .ok (.aload_n 0, 1) := by decide +kernel
theorem dX2_readShop_28 : decode cX2_readShop 28 = .ok (.getfield 25, 3) := by decide +kernel
theorem dX2_readShop_31 : decode cX2_readShop 31 = .ok (.getfield 186, 3) := by decide +kernel
theorem dX2_readShop_34 : decode cX2_readShop 34 = .ok (.iload_n 1, 1) := by decide +kernel
theorem dX2_readShop_35 : decode cX2_readShop 35 = .ok (.aload_n 0, 1) := by decide +kernel
theorem dX2_readShop_36 : decode cX2_readShop 36 = .ok (.invokevirtual 129, 3) := by decide +kernel
theorem dX2_readShop_39 : decode cX2_readShop 39 = .ok (.iastore, 1) := by decide +kernel
theorem dX2_readShop_40 : decode cX2_readShop 40 = .ok (.aload_n 0, 1) := by decide +kernel
theorem dX2_readShop_41 : decode cX2_readShop 41 = .ok (.getfield 25, 3) := by decide +kernel
theorem dX2_readShop_44 : decode cX2_readShop 44 = .ok (.dup, 1) := by decide +kernel
theorem dX2_readShop_45 : decode cX2_readShop 45 = .ok (.getfield 183, 3) := by decide +kernel
theorem dX2_readShop_48 : decode cX2_readShop 48 = .ok (.iconst 1, 1) := by decide +kernel
theorem dX2_readShop_49 : decode cX2_readShop 49 = .ok (.iadd, 1) := by decide +kernel
theorem dX2_readShop_50 : decode cX2_readShop 50 = .ok (.putfield 183, 3) := by decide +kernel
theorem dX2_readShop_53 : decode cX2_readShop 53 = .ok (.iconst 0, 1) := by decide +kernel
theorem dX2_readShop_54 : decode cX2_readShop 54 = .ok (.istore_n 2, 1) := by decide +kernel
theorem dX2_readShop_55 : decode cX2_readShop 55 = .ok (.iconst 0, 1) := by decide +kernel
theorem dX2_readShop_56 : decode cX2_readShop 56 = .ok (.istore_n 3, 1) := by decide +kernel
theorem dX2_readShop_57 : decode cX2_readShop 57 = .ok (.iload_n 3, 1) := by decide +kernel
theorem dX2_readShop_58 : decode cX2_readShop 58 = .ok (.bipush 6, 2) := by decide +kernel
theorem dX2_readShop_60 : decode cX2_readShop 60 = .ok (.if_icmp .gt 94, 3) := by decide +kernel
theorem dX2_readShop_63 : decode cX2_readShop 63 = .ok (.aload_n 0, 1) := by decide +kernel
theorem dX2_readShop_64 : decode cX2_readShop 64 = .ok (.getfield 36, 3) := by decide +kernel
theorem dX2_readShop_67 : decode cX2_readShop 67 = .ok (.ifCond .ne 87, 3) := by decide +kernel
theorem dX2_readShop_70 : decode cX2_readShop 70 = .ok (.aload_n 0, 1) := by decide +kernel
theorem dX2_readShop_71 : decode cX2_readShop 71 = .ok (.getfield 12, 3) := by decide +kernel
theorem dX2_readShop_74 : decode cX2_readShop 74 = .ok (.getfield 50, 3) := by decide +kernel
theorem dX2_readShop_77 : decode cX2_readShop 77 = .ok (.iconst 1, 1) := by decide +kernel
theorem dX2_readShop_78 : decode cX2_readShop 78 = .ok (.if_icmp .ne 76, 3) := by decide +kernel
theorem dX2_readShop_81 : decode cX2_readShop 81 = .ok (.aload_n 0, 1) := by decide +kernel
theorem dX2_readShop_82 : decode cX2_readShop 82 = .ok (.aload_n 0, 1) := by decide +kernel
theorem dX2_readShop_83 : decode cX2_readShop 83 = .ok (.getfield 25, 3) := by decide +kernel
theorem dX2_readShop_86 : decode cX2_readShop 86 = .ok (.getfield 162, 3) := by decide +kernel
theorem dX2_readShop_89 : decode cX2_readShop 89 = .ok (.aload_n 0, 1) := by decide +kernel
theorem dX2_readShop_90 : decode cX2_readShop 90 = .ok (.getfield 25, 3) := by decide +kernel
theorem dX2_readShop_93 : decode cX2_readShop 93 = .ok (.getfield 159, 3) := by decide +kernel
theorem dX2_readShop_96 : decode cX2_readShop 96 = .ok (.invokevirtual 151, 3) := by decide +kernel
theorem dX2_readShop_99 : decode cX2_readShop 99 = .ok (.istore 4, 2) := by decide +kernel
theorem dX2_readShop_101 : decode cX2_readShop 101 = .ok (.aload_n 0, 1) := by decide +kernel
theorem dX2_readShop_102 : decode cX2_readShop 102 = .ok (.iload_n 2, 1) := by decide +kernel
theorem dX2_readShop_103 : decode cX2_readShop 103 = .ok (.iconst 1, 1) := by decide +kernel
theorem dX2_readShop_104 : decode cX2_readShop 104 = .ok (.iload 4, 2) := by decide +kernel
theorem dX2_readShop_106 : decode cX2_readShop 106 = .ok (.ishl, 1) := by decide +kernel
theorem dX2_readShop_107 : decode cX2_readShop 107 = .ok (.iand, 1) := by decide +kernel
theorem dX2_readShop_108 : decode cX2_readShop 108 = .ok (.ifCond .eq 7, 3) := by decide +kernel
theorem dX2_readShop_111 : decode cX2_readShop 111 = .ok (.iconst 1, 1) := by decide +kernel
theorem dX2_readShop_112 : decode cX2_readShop 112 = .ok (.goto 4, 3) := by decide +kernel
theorem dX2_readShop_115 : decode cX2_readShop 115 = .ok (.iconst 0, 1) := by decide +kernel
theorem dX2_readShop_116 : decode cX2_readShop 116 = .ok (.invokevirtual 155, 3) := by decide +kernel
theorem dX2_readShop_119 : decode cX2_readShop 119 = .ok (.iload_n 2, 1) := by decide +kernel
theorem dX2_readShop_120 : decode cX2_readShop 120 = .ok (.iconst 1, 1) := by decide +kernel
theorem dX2_readShop_121 : decode cX2_readShop 121 = .ok (.iload 4, 2) := by decide +kernel
theorem dX2_readShop_123 : decode cX2_readShop 123 = .ok (.ishl, 1) := by decide +kernel
theorem dX2_readShop_124 : decode cX2_readShop 124 = .ok (.ior, 1) := by decide +kernel
theorem dX2_readShop_125 : decode cX2_readShop 125 = .ok (.istore_n 2, 1) := by decide +kernel
theorem dX2_readShop_126 : decode cX2_readShop 126 = .ok (.aload_n 0, 1) := by decide +kernel
theorem dX2_readShop_127 : decode cX2_readShop 127 = .ok (.getfield 32, 3) := by decide +kernel
theorem dX2_readShop_130 : decode cX2_readShop 130 = .ok (.getfield 189, 3) := by decide +kernel
theorem dX2_readShop_133 : decode cX2_readShop 133 = .ok (.iload_n 1, 1) := by decide +kernel
theorem dX2_readShop_134 : decode cX2_readShop 134 = .ok (.iload 4, 2) := by decide +kernel
theorem dX2_readShop_136 : decode cX2_readShop 136 = .ok (.invokestatic 192, 3) := by decide +kernel
theorem dX2_readShop_139 : decode cX2_readShop 139 = .ok (.aload_n 0, 1) := by decide +kernel
theorem dX2_readShop_140 : decode cX2_readShop 140 = .ok (.iconst 0, 1) := by decide +kernel
theorem dX2_readShop_141 : decode cX2_readShop 141 = .ok (.sipush 9999, 3) := by decide +kernel
theorem dX2_readShop_144 : decode cX2_readShop 144 = .ok (.invokevirtual 135, 3) := by decide +kernel
theorem dX2_readShop_147 : decode cX2_readShop 147 = .ok (.iastore, 1) := by decide +kernel
theorem dX2_readShop_148 : decode cX2_readShop 148 = .ok (.iinc 3 1, 3) := by decide +kernel
theorem dX2_readShop_151 : decode cX2_readShop 151 = .ok (.goto (-94), 3) := by decide +kernel
theorem dX2_readShop_154 : decode cX2_readShop 154 = .ok (.return_, 1) := by decide +kernel
theorem dX2_readSetting_0 : decode cX2_readSetting 0 = .ok (.aload_n 0, 1) := by decide +kernel
theorem dX2_readSetting_1 : decode cX2_readSetting 1 = .ok (.getfield 12, 3) := by decide +kernel
theorem dX2_readSetting_4 : decode cX2_readSetting 4 = .ok (.invokevirtual 100, 3) := by decide +kernel
theorem dX2_readSetting_7 : decode cX2_readSetting 7 = .ok (.aload_n 0, 1) := by decide +kernel
theorem dX2_readSetting_8 : decode cX2_readSetting 8 = .ok (.getfield 12, 3) := by decide +kernel
theorem dX2_readSetting_11 : decode cX2_readSetting 11 = .ok (.invokevirtual 195, 3) := by decide +kernel
theorem dX2_readSetting_14 : decode cX2_readSetting 14 = .ok (.istore_n 1, 1) := by decide +kernel
theorem dX2_readSetting_15 : decode cX2_readSetting 15 = .ok (.iload_n 1, 1) := by decide +kernel
theorem dX2_readSetting_16 : decode cX2_readSetting 16 = .ok (.ifCond .ge 10, 3) := by decide +kernel
theorem dX2_readSetting_19 : decode cX2_readSetting 19 = .ok (.aload_n 0, 1) := by decide +kernel
theorem dX2_readSetting_20 : decode cX2_readSetting 20 = .ok (.bipush (-11), 2) := by decide +kernel
theorem dX2_readSetting_22 : decode cX2_readSetting 22 = .ok (.invokevirtual 96, 3) := by decide +kernel
theorem dX2_readSetting_25 : decode cX2_readSetting 25 = .ok (.return_, 1) := by decide +kernel
theorem dX2_readSetting_26 : decode cX2_readSetting 26 = .ok (.aload_n 0, 1) := by decide +kernel
theorem dX2_readSetting_27 : decode cX2_readSetting 27 = .ok (.aload_n 0, 1) := by decide +kernel
theorem dX2_readSetting_28 : decode cX2_readSetting 28 = .ok (.getfield 18, 3) := by decide +kernel
theorem dX2_readSetting_31 : decode cX2_readSetting 31 = .ok (.iconst 1, 1) := by decide +kernel
theorem dX2_readSetting_32 : decode cX2_readSetting 32 = .ok (.iload_n 1, 1) := by decide +kernel
theorem dX2_readSetting_33 : decode cX2_readSetting 33 = .ok (.ishl, 1) := by decide +kernel
theorem dX2_readSetting_34 : decode cX2_readSetting 34 = .ok (.iand, 1) := by decide +kernel
theorem dX2_readSetting_35 : decode cX2_readSetting 35 = .ok (.ifCond .eq 7, 3) := by decide +kernel
theorem dX2_readSetting_38 : decode cX2_readSetting 38 = .ok (.iconst 1, 1) := by decide +kernel
theorem dX2_readSetting_39 : decode cX2_readSetting 39 = .ok (.goto 4, 3) := by decide +kernel
theorem dX2_readSetting_42 : decode cX2_readSetting 42 = .ok (.iconst 0, 1) := by decide +kernel
theorem dX2_readSetting_43 : decode cX2_readSetting 43 = .ok (.invokevirtual 155, 3) := by decide +kernel
theorem dX2_readSetting_46 : decode cX2_readSetting 46 = .ok (.aload_n 0, 1) := by decide +kernel
theorem dX2_readSetting_47 : decode cX2_readSetting 47 = .ok (.dup, 1) := by decide +kernel
theorem dX2_readSetting_48 : decode cX2_readSetting 48 = .ok (.getfield 18, 3) := by decide +kernel
theorem dX2_readSetting_51 : decode cX2_readSetting 51 = .ok (.iconst 1, 1) := by decide +kernel
theorem dX2_readSetting_52 : decode cX2_readSetting 52 = .ok (.iload_n 1, 1) := by decide +kernel
theorem dX2_readSetting_53 : decode cX2_readSetting 53 = .ok (.ishl, 1) := by decide +kernel
theorem dX2_readSetting_54 : decode cX2_readSetting 54 = .ok (.ior, 1) := by decide +kernel
theorem dX2_readSetting_55 : decode cX2_readSetting 55 = .ok (.putfield 18, 3) := by decide +kernel
theorem dX2_readSetting_58 : decode cX2_readSetting 58 = .ok (.aload_n 0, 1) := by decide +kernel
theorem dX2_readSetting_59 : decode cX2_readSetting 59 = .ok (.getfield 32, 3) := by decide +kernel
theorem dX2_readSetting_62 : decode cX2_readSetting 62 = .ok (.getfield 198, 3) := by decide +kernel
theorem dX2_readSetting_65 : decode cX2_readSetting 65 = .ok (.iload_n 1, 1) := by decide +kernel
theorem dX2_readSetting_66 : decode cX2_readSetting 66 = .ok (.aload_n 0, 1) := by decide +kernel
theorem dX2_readSetting_67 : decode cX2_readSetting 67 = .ok (.iconst 0, 1) := by decide +kernel
theorem dX2_readSetting_68 : decode cX2_readSetting 68 = .ok (.getstatic 201, 3) := by decide +kernel
theorem dX2_readSetting_71 : decode cX2_readSetting 71 = .ok (.iload_n 1, 1) := by decide +kernel
theorem dX2_readSetting_72 : decode cX2_readSetting 72 = .ok (.iaload, 1) := by decide +kernel
theorem dX2_readSetting_73 : decode cX2_readSetting 73 = .ok (.invokevirtual 135, 3) := by decide +kernel
theorem dX2_readSetting_76 : decode cX2_readSetting 76 = .ok (.iastore, 1) := by decide +kernel
theorem dX2_readSetting_77 : decode cX2_readSetting 77 = .ok (.return_, 1) := by decide +kernel
theorem dX3_init_0 : decode cX3_init 0 = .ok (.aload_n 0, 1) := by decide +kernel
theorem dX3_init_1 : decode cX3_init 1 = .ok (.invokespecial 3, 3) := by decide +kernel
theorem dX3_init_4 : decode cX3_init 4 = .ok (.aload_n 0, 1) := by decide +kernel
theorem dX3_init_5 : decode cX3_init 5 = .ok (.iconst 0, 1) := by decide +kernel
theorem dX3_init_6 : decode cX3_init 6 = .ok (.putfield 9, 3) := by decide +kernel
theorem dX3_init_9 : decode cX3_init 9 = .ok (.aload_n 0, 1) := by decide +kernel
theorem dX3_init_10 : decode cX3_init 10 = .ok (.iconst 0, 1) := by decide +kernel
theorem dX3_init_11 : decode cX3_init 11 = .ok (.putfield 15, 3) := by decide +kernel
theorem dX3_init_14 : decode cX3_init 14 = .ok (.aload_n 0, 1) := by decide +kernel
theorem dX3_init_15 : decode cX3_init 15 = .ok (.iconst 0, 1) := by decide +kernel
theorem dX3_init_16 : decode cX3_init 16 = .ok (.putfield 18, 3) := by decide +kernel
theorem dX3_init_19 : decode cX3_init 19 = .ok (.aload_n 0, 1) := by decide +kernel
theorem dX3_init_20 : decode cX3_init 20 = .ok (.iconst 0, 1) := by decide +kernel
theorem dX3_init_21 : decode cX3_init 21 = .ok (.putfield 21, 3) := by decide +kernel
theorem dX3_init_24 : decode cX3_init 24 = .ok (.aload_n 0, 1) := by decide +kernel
theorem dX3_init_25 : decode cX3_init 25 = .ok (.iconst 4, 1) := by decide +kernel
theorem dX3_init_26 : decode cX3_init 26 = .ok (.newarray .int, 2) := by decide +kernel
theorem dX3_init_28 : decode cX3_init 28 = .ok (.putfield 24, 3) := by decide +kernel
theorem dX3_init_31 : decode cX3_init 31 = .ok (.aload_n 0, 1) := by decide +kernel
theorem dX3_init_32 : decode cX3_init 32 = .ok (.bipush 6, 2) := by decide +kernel
theorem dX3_init_34 : decode cX3_init 34 = .ok (.newarray .int, 2) := by decide +kernel
theorem dX3_init_36 : decode cX3_init 36 = .ok (.putfield 28, 3) := by decide +kernel
theorem dX3_init_39 : decode cX3_init 39 = .ok (.aload_n 0, 1) := by decide +kernel
theorem dX3_init_40 : decode cX3_init 40 = .ok (.bipush 6, 2) := by decide +kernel
theorem dX3_init_42 : decode cX3_init 42 = .ok (.newarray .int, 2) := by decide +kernel
theorem dX3_init_44 : decode cX3_init 44 = .ok (.putfield 31, 3) := by decide +kernel
theorem dX3_init_47 : decode cX3_init 47 = .ok (.aload_n 0, 1) := by decide +kernel
theorem dX3_init_48 : decode cX3_init 48 = .ok (.iconst 4, 1) := by decide +kernel
theorem dX3_init_49 : decode cX3_init 49 = .ok (.newarray .int, 2) := by decide +kernel
theorem dX3_init_51 : decode cX3_init 51 = .ok (.putfield 34, 3) := by decide +kernel
theorem dX3_init_54 : decode cX3_init 54 = .ok (.aload_n 0, 1) := by decide +kernel
theorem dX3_init_55 : decode cX3_init 55 = .ok (.iconst 4, 1) := by decide +kernel
theorem dX3_init_56 : decode cX3_init 56 = .ok (.newarray .int, 2) := by decide +kernel
theorem dX3_init_58 : decode cX3_init 58 = .ok (.putfield 37, 3) := by decide +kernel
theorem dX3_init_61 : decode cX3_init 61 = .ok (.aload_n 0, 1) := by decide +kernel
theorem dX3_init_62 : decode cX3_init 62 = .ok (.iconst 4, 1) := by decide +kernel
theorem dX3_init_63 : decode cX3_init 63 = .ok (.newarray .int, 2) := by decide +kernel
theorem dX3_init_65 : decode cX3_init 65 = .ok (.putfield 40, 3) := by decide +kernel
theorem dX3_init_68 : decode cX3_init 68 = .ok (.aload_n 0, 1) := by decide +kernel
theorem dX3_init_69 : decode cX3_init 69 = .ok (.iconst 4, 1) := by decide +kernel
theorem dX3_init_70 : decode cX3_init 70 = .ok (.newarray .int, 2) := by decide +kernel
theorem dX3_init_72 : decode cX3_init 72 = .ok (.putfield 43, 3) := by decide +kernel
theorem dX3_init_75 : decode cX3_init 75 = .ok (.aload_n 0, 1) := by decide +kernel
theorem dX3_init_76 : decode cX3_init 76 = .ok (.iconst 4, 1) := by decide +kernel
theorem dX3_init_77 : decode cX3_init 77 = .ok (.newarray .int, 2) := by decide +kernel
theorem dX3_init_79 : decode cX3_init 79 = .ok (.putfield 46, 3) := by decide +kernel
theorem dX3_init_82 : decode cX3_init 82 = .ok (.aload_n 0, 1) := by decide +kernel
theorem dX3_init_83 : decode cX3_init 83 = .ok (.bipush 6, 2) := by decide +kernel
theorem dX3_init_85 : decode cX3_init 85 = .ok (.newarray .int, 2) := by decide +kernel
theorem dX3_init_87 : decode cX3_init 87 = .ok (.putfield 49, 3) := by decide +kernel
theorem dX3_init_90 : decode cX3_init 90 = .ok (.aload_n 0, 1) := by decide +kernel
theorem dX3_init_91 : decode cX3_init 91 = .ok (.bipush 6, 2) := by decide +kernel
theorem dX3_init_93 : decode cX3_init 93 = .ok (.newarray .int, 2) := by decide +kernel
theorem dX3_init_95 : decode cX3_init 95 = .ok (.putfield 52, 3) := by decide +kernel
theorem dX3_init_98 : decode cX3_init 98 = .ok (.aload_n 0, 1) := by decide +kernel
theorem dX3_init_99 : decode cX3_init 99 = .ok (.bipush 6, 2) := by decide +kernel
theorem dX3_init_101 : decode cX3_init 101 = .ok (.newarray .int, 2) := by decide +kernel
theorem dX3_init_103 : decode cX3_init 103 = .ok (.putfield 55, 3) := by decide +kernel
theorem dX3_init_106 : decode cX3_init 106 = .ok (.return_, 1) := by decide +kernel
theorem dX3_clear_0 : decode cX3_clear 0 = .ok (.aload_n 0, 1) := by decide +kernel
theorem dX3_clear_1 : decode cX3_clear 1 = .ok (.iconst 0, 1) := by decide +kernel
theorem dX3_clear_2 : decode cX3_clear 2 = .ok (.putfield 9, 3) := by decide +kernel
theorem dX3_clear_5 : decode cX3_clear 5 = .ok (.aload_n 0, 1) := by decide +kernel
theorem dX3_clear_6 : decode cX3_clear 6 = .ok (.iconst 0, 1) := by decide +kernel
theorem dX3_clear_7 : decode cX3_clear 7 = .ok (.putfield 15, 3) := by decide +kernel
theorem dX3_clear_10 : decode cX3_clear 10 = .ok (.aload_n 0, 1) := by decide +kernel
theorem dX3_clear_11 : decode cX3_clear 11 = .ok (.iconst 0, 1) := by decide +kernel
theorem dX3_clear_12 : decode cX3_clear 12 = .ok (.putfield 18, 3) := by decide +kernel
theorem dX3_clear_15 : decode cX3_clear 15 = .ok (.aload_n 0, 1) := by decide +kernel
theorem dX3_clear_16 : decode cX3_clear 16 = .ok (.iconst 0, 1) := by decide +kernel
theorem dX3_clear_17 : decode cX3_clear 17 = .ok (.putfield 21, 3) := by decide +kernel
theorem dX3_clear_20 : decode cX3_clear 20 = .ok (.return_, 1) := by decide +kernel
theorem dX3_find_0 : decode cX3_find 0 = .ok (.iconst 0, 1) := by decide +kernel
theorem dX3_find_1 : decode cX3_find 1 = .ok (.istore_n 3, 1) := by decide +kernel
theorem dX3_find_2 : decode cX3_find 2 = .ok (.iload_n 3, 1) := by decide +kernel
theorem dX3_find_3 : decode cX3_find 3 = .ok (.iload_n 1, 1) := by decide +kernel
theorem dX3_find_4 : decode cX3_find 4 = .ok (.if_icmp .ge 18, 3) := by decide +kernel
theorem dX3_find_7 : decode cX3_find 7 = .ok (.aload_n 0, 1) := by decide +kernel
theorem dX3_find_8 : decode cX3_find 8 = .ok (.iload_n 3, 1) := by decide +kernel
theorem dX3_find_9 : decode cX3_find 9 = .ok (.iaload, 1) := by decide +kernel
theorem dX3_find_10 : decode cX3_find 10 = .ok (.iload_n 2, 1) := by decide +kernel
theorem dX3_find_11 : decode cX3_find 11 = .ok (.if_icmp .ne 5, 3) := by decide +kernel
theorem dX3_find_14 : decode cX3_find 14 = .ok (.iload_n 3, 1) := by decide +kernel
theorem dX3_find_15 : decode cX3_find 15 = .ok (.ireturn, 1) := by decide +kernel
theorem dX3_find_16 : decode cX3_find 16 = .ok (.iinc 3 1, 3) := by decide +kernel
theorem dX3_find_19 : decode cX3_find 19 = .ok (.goto (-17), 3) := by decide +kernel
theorem dX3_find_22 : decode cX3_find 22 = .ok (.iconst (-1), 1) := by decide +kernel
theorem dX3_find_23 : decode cX3_find 23 = .ok (.ireturn, 1) := by decide +kernel
theorem dX3_isDeclared_0 : decode cX3_isDeclared 0 = .ok (.aload_n 0, 1) := by decide +kernel
theorem dX3_isDeclared_1 : decode cX3_isDeclared 1 = .ok (.getfield 24, 3) := by decide +kernel
theorem dX3_isDeclared_4 : decode cX3_isDeclared 4 = .ok (.aload_n 0, 1) := by decide +kernel
theorem dX3_isDeclared_5 : decode cX3_isDeclared 5 = .ok (.getfield 9, 3) := by decide +kernel
theorem dX3_isDeclared_8 : decode cX3_isDeclared 8 = .ok (.iload_n 1, 1) := by decide +kernel
theorem dX3_isDeclared_9 : decode cX3_isDeclared 9 = .ok (.invokestatic 58, 3) := by decide +kernel
theorem dX3_isDeclared_12 : decode cX3_isDeclared 12 = .ok (.ifCond .ge 48, 3) := by decide +kernel
theorem dX3_isDeclared_15 : decode cX3_isDeclared 15 = .ok (.aload_n 0, 1) := by decide +kernel
theorem dX3_isDeclared_16 : decode cX3_isDeclared 16 = .ok (.getfield 28, 3) := by decide +kernel
theorem dX3_isDeclared_19 : decode cX3_isDeclared 19 = .ok (.aload_n 0, 1) := by decide +kernel
theorem dX3_isDeclared_20 : decode cX3_isDeclared 20 = .ok (.getfield 15, 3) := by decide +kernel
theorem dX3_isDeclared_23 : decode cX3_isDeclared 23 = .ok (.iload_n 1, 1) := by decide +kernel
theorem dX3_isDeclared_24 : decode cX3_isDeclared 24 = .ok (.invokestatic 58, 3) := by decide +kernel
theorem dX3_isDeclared_27 : decode cX3_isDeclared 27 = .ok (.ifCond .ge 33, 3) := by decide +kernel
theorem dX3_isDeclared_30 : decode cX3_isDeclared 30 = .ok (.aload_n 0, 1) := by decide +kernel
theorem dX3_isDeclared_31 : decode cX3_isDeclared 31 = .ok (.getfield 31, 3) := by decide +kernel
theorem dX3_isDeclared_34 : decode cX3_isDeclared 34 = .ok (.aload_n 0, 1) := by decide +kernel
theorem dX3_isDeclared_35 : decode cX3_isDeclared 35 = .ok (.getfield 18, 3) := by decide +kernel
theorem dX3_isDeclared_38 : decode cX3_isDeclared 38 = .ok (.iload_n 1, 1) := by decide +kernel
theorem dX3_isDeclared_39 : decode cX3_isDeclared 39 = .ok (.invokestatic 58, 3) := by decide +kernel
theorem dX3_isDeclared_42 : decode cX3_isDeclared 42 = .ok (.ifCond .ge 18, 3) := by decide +kernel
theorem dX3_isDeclared_45 : decode cX3_isDeclared 45 = .ok (.aload_n 0, 1) := by decide +kernel
theorem dX3_isDeclared_46 : decode cX3_isDeclared 46 = .ok (.getfield 34, 3) := by decide +kernel
theorem dX3_isDeclared_49 : decode cX3_isDeclared 49 = .ok (.aload_n 0, 1) := by decide +kernel
theorem dX3_isDeclared_50 : decode cX3_isDeclared 50 = .ok (.getfield 21, 3) := by decide +kernel
theorem dX3_isDeclared_53 : decode cX3_isDeclared 53 = .ok (.iload_n 1, 1) := by decide +kernel
theorem dX3_isDeclared_54 : decode cX3_isDeclared 54 = .ok (.invokestatic 58, 3) := by decide +kernel
theorem dX3_isDeclared_57 : decode cX3_isDeclared 57 = .ok (.ifCond .lt 7, 3) := by decide +kernel
theorem dX3_isDeclared_60 : decode cX3_isDeclared 60 = .ok (.iconst 1, 1) := by decide +kernel
theorem dX3_isDeclared_61 : decode cX3_isDeclared 61 = .ok (.goto 4, 3) := by decide +kernel
theorem dX3_isDeclared_64 : decode cX3_isDeclared 64 = .ok (.iconst 0, 1) := by decide +kernel
theorem dX3_isDeclared_65 : decode cX3_isDeclared 65 = .ok (.ireturn, 1) := by decide +kernel
theorem dX4_total_0 : decode cX4_total 0 = .ok (.iconst 0, 1) := by decide +kernel
theorem dX4_total_1 : decode cX4_total 1 = .ok (.istore_n 2, 1) := by decide +kernel
theorem dX4_total_2 : decode cX4_total 2 = .ok (.iconst 0, 1) := by decide +kernel
theorem dX4_total_3 : decode cX4_total 3 = .ok (.istore_n 3, 1) := by decide +kernel
theorem dX4_total_4 : decode cX4_total 4 = .ok (.iload_n 3, 1) := by decide +kernel
theorem dX4_total_5 : decode cX4_total 5 = .ok (.iconst 5, 1) := by decide +kernel
theorem dX4_total_6 : decode cX4_total 6 = .ok (.if_icmp .ge 17, 3) := by decide +kernel
theorem dX4_total_9 : decode cX4_total 9 = .ok (.iload_n 2, 1) := by decide +kernel
theorem dX4_total_10 : decode cX4_total 10 = .ok (.aload_n 0, 1) := by decide +kernel
theorem dX4_total_11 : decode cX4_total 11 = .ok (.iload_n 1, 1) := by decide +kernel
theorem dX4_total_12 : decode cX4_total 12 = .ok (.iload_n 3, 1) := by decide +kernel
theorem dX4_total_13 : decode cX4_total 13 = .ok (.iadd, 1) := by decide +kernel
theorem dX4_total_14 : decode cX4_total 14 = .ok (.iaload, 1) := by decide +kernel
theorem dX4_total_15 : decode cX4_total 15 = .ok (.iadd, 1) := by decide +kernel
theorem dX4_total_16 : decode cX4_total 16 = .ok (.istore_n 2, 1) := by decide +kernel
theorem dX4_total_17 : decode cX4_total 17 = .ok (.iinc 3 1, 3) := by decide +kernel
theorem dX4_total_20 : decode cX4_total 20 = .ok (.goto (-16), 3) := by decide +kernel
theorem dX4_total_23 : decode cX4_total 23 = .ok (.iload_n 2, 1) := by decide +kernel
theorem dX4_total_24 : decode cX4_total 24 = .ok (.ireturn, 1) := by decide +kernel
theorem dX4_spend_0 : decode cX4_spend 0 = .ok (.iload_n 2, 1) := by decide +kernel
theorem dX4_spend_1 : decode cX4_spend 1 = .ok (.istore_n 3, 1) := by decide +kernel
theorem dX4_spend_2 : decode cX4_spend 2 = .ok (.iconst 0, 1) := by decide +kernel
theorem dX4_spend_3 : decode cX4_spend 3 = .ok (.istore 4, 2) := by decide +kernel
theorem dX4_spend_5 : decode cX4_spend 5 = .ok (.iload 4, 2) := by decide +kernel
theorem dX4_spend_7 : decode cX4_spend 7 = .ok (.iconst 5, 1) := by decide +kernel
theorem dX4_spend_8 : decode cX4_spend 8 = .ok (.if_icmp .ge 37, 3) := by decide +kernel
theorem dX4_spend_11 : decode cX4_spend 11 = .ok (.iload_n 3, 1) := by decide +kernel
theorem dX4_spend_12 : decode cX4_spend 12 = .ok (.aload_n 0, 1) := by decide +kernel
theorem dX4_spend_13 : decode cX4_spend 13 = .ok (.iload_n 1, 1) := by decide +kernel
theorem dX4_spend_14 : decode cX4_spend 14 = .ok (.iload 4, 2) := by decide +kernel
theorem dX4_spend_16 : decode cX4_spend 16 = .ok (.iadd, 1) := by decide +kernel
theorem dX4_spend_17 : decode cX4_spend 17 = .ok (.iaload, 1) := by decide +kernel
theorem dX4_spend_18 : decode cX4_spend 18 = .ok (.invokestatic 9, 3) := by decide +kernel
theorem dX4_spend_21 : decode cX4_spend 21 = .ok (.istore 5, 2) := by decide +kernel
theorem dX4_spend_23 : decode cX4_spend 23 = .ok (.aload_n 0, 1) := by decide +kernel
theorem dX4_spend_24 : decode cX4_spend 24 = .ok (.iload_n 1, 1) := by decide +kernel
theorem dX4_spend_25 : decode cX4_spend 25 = .ok (.iload 4, 2) := by decide +kernel
theorem dX4_spend_27 : decode cX4_spend 27 = .ok (.iadd, 1) := by decide +kernel
theorem dX4_spend_28 : decode cX4_spend 28 = .ok (.dup2, 1) := by decide +kernel
theorem dX4_spend_29 : decode cX4_spend 29 = .ok (.iaload, 1) := by decide +kernel
theorem dX4_spend_30 : decode cX4_spend 30 = .ok (.iload 5, 2) := by decide +kernel
theorem dX4_spend_32 : decode cX4_spend 32 = .ok (.isub, 1) := by decide +kernel
theorem dX4_spend_33 : decode cX4_spend 33 = .ok (.iastore, 1) := by decide +kernel
theorem dX4_spend_34 : decode cX4_spend 34 = .ok (.iload_n 3, 1) := by decide +kernel
theorem dX4_spend_35 : decode cX4_spend 35 = .ok (.iload 5, 2) := by decide +kernel
theorem dX4_spend_37 : decode cX4_spend 37 = .ok (.isub, 1) := by decide +kernel
theorem dX4_spend_38 : decode cX4_spend 38 = .ok (.istore_n 3, 1) := by decide +kernel
theorem dX4_spend_39 : decode cX4_spend 39 = .ok (.iinc 4 1, 3) := by decide +kernel
theorem dX4_spend_42 : decode cX4_spend 42 = .ok (.goto (-37), 3) := by decide +kernel
theorem dX4_spend_45 : decode cX4_spend 45 = .ok (.return_, 1) := by decide +kernel
theorem dX4_move_0 : decode cX4_move 0 = .ok (.iload_n 3, 1) := by decide +kernel
theorem dX4_move_1 : decode cX4_move 1 = .ok (.istore 4, 2) := by decide +kernel
theorem dX4_move_3 : decode cX4_move 3 = .ok (.iconst 0, 1) := by decide +kernel
theorem dX4_move_4 : decode cX4_move 4 = .ok (.istore 5, 2) := by decide +kernel
theorem dX4_move_6 : decode cX4_move 6 = .ok (.iload 5, 2) := by decide +kernel
theorem dX4_move_8 : decode cX4_move 8 = .ok (.iconst 5, 1) := by decide +kernel
theorem dX4_move_9 : decode cX4_move 9 = .ok (.if_icmp .ge 51, 3) := by decide +kernel
theorem dX4_move_12 : decode cX4_move 12 = .ok (.iload 4, 2) := by decide +kernel
theorem dX4_move_14 : decode cX4_move 14 = .ok (.aload_n 0, 1) := by decide +kernel
theorem dX4_move_15 : decode cX4_move 15 = .ok (.iload_n 1, 1) := by decide +kernel
theorem dX4_move_16 : decode cX4_move 16 = .ok (.iload 5, 2) := by decide +kernel
theorem dX4_move_18 : decode cX4_move 18 = .ok (.iadd, 1) := by decide +kernel
theorem dX4_move_19 : decode cX4_move 19 = .ok (.iaload, 1) := by decide +kernel
theorem dX4_move_20 : decode cX4_move 20 = .ok (.invokestatic 9, 3) := by decide +kernel
theorem dX4_move_23 : decode cX4_move 23 = .ok (.istore 6, 2) := by decide +kernel
theorem dX4_move_25 : decode cX4_move 25 = .ok (.aload_n 0, 1) := by decide +kernel
theorem dX4_move_26 : decode cX4_move 26 = .ok (.iload_n 1, 1) := by decide +kernel
theorem dX4_move_27 : decode cX4_move 27 = .ok (.iload 5, 2) := by decide +kernel
theorem dX4_move_29 : decode cX4_move 29 = .ok (.iadd, 1) := by decide +kernel
theorem dX4_move_30 : decode cX4_move 30 = .ok (.dup2, 1) := by decide +kernel
theorem dX4_move_31 : decode cX4_move 31 = .ok (.iaload, 1) := by decide +kernel
theorem dX4_move_32 : decode cX4_move 32 = .ok (.iload 6, 2) := by decide +kernel
theorem dX4_move_34 : decode cX4_move 34 = .ok (.isub, 1) := by decide +kernel
theorem dX4_move_35 : decode cX4_move 35 = .ok (.iastore, 1) := by decide +kernel
theorem dX4_move_36 : decode cX4_move 36 = .ok (.aload_n 0, 1) := by decide +kernel
theorem dX4_move_37 : decode cX4_move 37 = .ok (.iload_n 2, 1) := by decide +kernel
theorem dX4_move_38 : decode cX4_move 38 = .ok (.iload 5, 2) := by decide +kernel
theorem dX4_move_40 : decode cX4_move 40 = .ok (.iadd, 1) := by decide +kernel
theorem dX4_move_41 : decode cX4_move 41 = .ok (.dup2, 1) := by decide +kernel
theorem dX4_move_42 : decode cX4_move 42 = .ok (.iaload, 1) := by decide +kernel
theorem dX4_move_43 : decode cX4_move 43 = .ok (.iload 6, 2) := by decide +kernel
theorem dX4_move_45 : decode cX4_move 45 = .ok (.iadd, 1) := by decide +kernel
theorem dX4_move_46 : decode cX4_move 46 = .ok (.iastore, 1) := by decide +kernel
theorem dX4_move_47 : decode cX4_move 47 = .ok (.iload 4, 2) := by decide +kernel
theorem dX4_move_49 : decode cX4_move 49 = .ok (.iload 6, 2) := by decide +kernel
theorem dX4_move_51 : decode cX4_move 51 = .ok (.isub, 1) := by decide +kernel
theorem dX4_move_52 : decode cX4_move 52 = .ok (.istore 4, 2) := by decide +kernel
theorem dX4_move_54 : decode cX4_move 54 = .ok (.iinc 5 1, 3) := by decide +kernel
theorem dX4_move_57 : decode cX4_move 57 = .ok (.goto (-51), 3) := by decide +kernel
theorem dX4_move_60 : decode cX4_move 60 = .ok (.return_, 1) := by decide +kernel
theorem dX4_growOlder_0 : decode cX4_growOlder 0 = .ok (.aload_n 0, 1) := by decide +kernel
theorem dX4_growOlder_1 : decode cX4_growOlder 1 = .ok (.iload_n 1, 1) := by decide +kernel
theorem dX4_growOlder_2 : decode cX4_growOlder 2 = .ok (.iaload, 1) := by decide +kernel
theorem dX4_growOlder_3 : decode cX4_growOlder 3 = .ok (.aload_n 0, 1) := by decide +kernel
theorem dX4_growOlder_4 : decode cX4_growOlder 4 = .ok (.iload_n 1, 1) := by decide +kernel
theorem dX4_growOlder_5 : decode cX4_growOlder 5 = .ok (.iconst 1, 1) := by decide +kernel
theorem dX4_growOlder_6 : decode cX4_growOlder 6 = .ok (.iadd, 1) := by decide +kernel
theorem dX4_growOlder_7 : decode cX4_growOlder 7 = .ok (.iaload, 1) := by decide +kernel
theorem dX4_growOlder_8 : decode cX4_growOlder 8 = .ok (.iadd, 1) := by decide +kernel
theorem dX4_growOlder_9 : decode cX4_growOlder 9 = .ok (.istore_n 3, 1) := by decide +kernel
theorem dX4_growOlder_10 : decode cX4_growOlder 10 = .ok (.aload_n 0, 1) := by decide +kernel
theorem dX4_growOlder_11 : decode cX4_growOlder 11 = .ok (.iload_n 1, 1) := by decide +kernel
theorem dX4_growOlder_12 : decode cX4_growOlder 12 = .ok (.iconst 1, 1) := by decide +kernel
theorem dX4_growOlder_13 : decode cX4_growOlder 13 = .ok (.iadd, 1) := by decide +kernel
theorem dX4_growOlder_14 : decode cX4_growOlder 14 = .ok (.iaload, 1) := by decide +kernel
theorem dX4_growOlder_15 : decode cX4_growOlder 15 = .ok (.iload_n 2, 1) := by decide +kernel
theorem dX4_growOlder_16 : decode cX4_growOlder 16 = .ok (.imul, 1) := by decide +kernel
theorem dX4_growOlder_17 : decode cX4_growOlder 17 = .ok (.bipush 100, 2) := by decide +kernel
theorem dX4_growOlder_19 : decode cX4_growOlder 19 = .ok (.idiv, 1) := by decide +kernel
theorem dX4_growOlder_20 : decode cX4_growOlder 20 = .ok (.istore 4, 2) := by decide +kernel
theorem dX4_growOlder_22 : decode cX4_growOlder 22 = .ok (.aload_n 0, 1) := by decide +kernel
theorem dX4_growOlder_23 : decode cX4_growOlder 23 = .ok (.iload_n 1, 1) := by decide +kernel
theorem dX4_growOlder_24 : decode cX4_growOlder 24 = .ok (.iload 4, 2) := by decide +kernel
theorem dX4_growOlder_26 : decode cX4_growOlder 26 = .ok (.iastore, 1) := by decide +kernel
theorem dX4_growOlder_27 : decode cX4_growOlder 27 = .ok (.iconst 1, 1) := by decide +kernel
theorem dX4_growOlder_28 : decode cX4_growOlder 28 = .ok (.istore 5, 2) := by decide +kernel
theorem dX4_growOlder_30 : decode cX4_growOlder 30 = .ok (.iload 5, 2) := by decide +kernel
theorem dX4_growOlder_32 : decode cX4_growOlder 32 = .ok (.iconst 4, 1) := by decide +kernel
theorem dX4_growOlder_33 : decode cX4_growOlder 33 = .ok (.if_icmp .ge 23, 3) := by decide +kernel
theorem dX4_growOlder_36 : decode cX4_growOlder 36 = .ok (.aload_n 0, 1) := by decide +kernel
theorem dX4_growOlder_37 : decode cX4_growOlder 37 = .ok (.iload_n 1, 1) := by decide +kernel
theorem dX4_growOlder_38 : decode cX4_growOlder 38 = .ok (.iload 5, 2) := by decide +kernel
theorem dX4_growOlder_40 : decode cX4_growOlder 40 = .ok (.iadd, 1) := by decide +kernel
theorem dX4_growOlder_41 : decode cX4_growOlder 41 = .ok (.aload_n 0, 1) := by decide +kernel
theorem dX4_growOlder_42 : decode cX4_growOlder 42 = .ok (.iload_n 1, 1) := by decide +kernel
theorem dX4_growOlder_43 : decode cX4_growOlder 43 = .ok (.iload 5, 2) := by decide +kernel
theorem dX4_growOlder_45 : decode cX4_growOlder 45 = .ok (.iadd, 1) := by decide +kernel
theorem dX4_growOlder_46 : decode cX4_growOlder 46 = .ok (.iconst 1, 1) := by decide +kernel
theorem dX4_growOlder_47 : decode cX4_growOlder 47 = .ok (.iadd, 1) := by decide +kernel
theorem dX4_growOlder_48 : decode cX4_growOlder 48 = .ok (.iaload, 1) := by decide +kernel
theorem dX4_growOlder_49 : decode cX4_growOlder 49 = .ok (.iastore, 1) := by decide +kernel
theorem dX4_growOlder_50 : decode cX4_growOlder 50 = .ok (.iinc 5 1, 3) := by decide +kernel
theorem dX4_growOlder_53 : decode cX4_growOlder 53 = .ok (.goto (-23), 3) := by decide +kernel
theorem dX4_growOlder_56 : decode cX4_growOlder 56 = .ok (.aload_n 0, 1) := by decide +kernel
theorem dX4_growOlder_57 : decode cX4_growOlder 57 = .ok (.iload_n 1, 1) := by decide +kernel
theorem dX4_growOlder_58 : decode cX4_growOlder 58 = .ok (.iconst 4, 1) := by decide +kernel
theorem dX4_growOlder_59 : decode cX4_growOlder 59 = .ok (.iadd, 1) := by decide +kernel
theorem dX4_growOlder_60 : decode cX4_growOlder 60 = .ok (.iconst 0, 1) := by decide +kernel
theorem dX4_growOlder_61 : decode cX4_growOlder 61 = .ok (.iastore, 1) := by decide +kernel
theorem dX4_growOlder_62 : decode cX4_growOlder 62 = .ok (.iload_n 3, 1) := by decide +kernel
theorem dX4_growOlder_63 : decode cX4_growOlder 63 = .ok (.iload 4, 2) := by decide +kernel
theorem dX4_growOlder_65 : decode cX4_growOlder 65 = .ok (.isub, 1) := by decide +kernel
theorem dX4_growOlder_66 : decode cX4_growOlder 66 = .ok (.ireturn, 1) := by decide +kernel
theorem dX5_init_0 : decode cX5_init 0 = .ok (.aload_n 0, 1) := by decide +kernel
theorem dX5_init_1 : decode cX5_init 1 = .ok (.invokespecial 3, 3) := by decide +kernel
theorem dX5_init_4 : decode cX5_init 4 = .ok (.aload_n 0, 1) := by decide +kernel
theorem dX5_init_5 : decode cX5_init 5 = .ok (.iconst 0, 1) := by decide +kernel
theorem dX5_init_6 : decode cX5_init 6 = .ok (.putfield 9, 3) := by decide +kernel
theorem dX5_init_9 : decode cX5_init 9 = .ok (.aload_n 0, 1) := by decide +kernel
theorem dX5_init_10 : decode cX5_init 10 = .ok (.iconst 4, 1) := by decide +kernel
theorem dX5_init_11 : decode cX5_init 11 = .ok (.newarray .int, 2) := by decide +kernel
theorem dX5_init_13 : decode cX5_init 13 = .ok (.putfield 15, 3) := by decide +kernel
theorem dX5_init_16 : decode cX5_init 16 = .ok (.aload_n 0, 1) := by decide +kernel
theorem dX5_init_17 : decode cX5_init 17 = .ok (.bipush 6, 2) := by decide +kernel
theorem dX5_init_19 : decode cX5_init 19 = .ok (.newarray .int, 2) := by decide +kernel
theorem dX5_init_21 : decode cX5_init 21 = .ok (.putfield 19, 3) := by decide +kernel
theorem dX5_init_24 : decode cX5_init 24 = .ok (.aload_n 0, 1) := by decide +kernel
theorem dX5_init_25 : decode cX5_init 25 = .ok (.iconst 3, 1) := by decide +kernel
theorem dX5_init_26 : decode cX5_init 26 = .ok (.newarray .int, 2) := by decide +kernel
theorem dX5_init_28 : decode cX5_init 28 = .ok (.putfield 22, 3) := by decide +kernel
theorem dX5_init_31 : decode cX5_init 31 = .ok (.aload_n 0, 1) := by decide +kernel
theorem dX5_init_32 : decode cX5_init 32 = .ok (.bipush 120, 2) := by decide +kernel
theorem dX5_init_34 : decode cX5_init 34 = .ok (.newarray .int, 2) := by decide +kernel
theorem dX5_init_36 : decode cX5_init 36 = .ok (.putfield 25, 3) := by decide +kernel
theorem dX5_init_39 : decode cX5_init 39 = .ok (.aload_n 0, 1) := by decide +kernel
theorem dX5_init_40 : decode cX5_init 40 = .ok (.bipush 6, 2) := by decide +kernel
theorem dX5_init_42 : decode cX5_init 42 = .ok (.newarray .int, 2) := by decide +kernel
theorem dX5_init_44 : decode cX5_init 44 = .ok (.putfield 28, 3) := by decide +kernel
theorem dX5_init_47 : decode cX5_init 47 = .ok (.aload_n 0, 1) := by decide +kernel
theorem dX5_init_48 : decode cX5_init 48 = .ok (.bipush 6, 2) := by decide +kernel
theorem dX5_init_50 : decode cX5_init 50 = .ok (.newarray .int, 2) := by decide +kernel
theorem dX5_init_52 : decode cX5_init 52 = .ok (.putfield 31, 3) := by decide +kernel
theorem dX5_init_55 : decode cX5_init 55 = .ok (.aload_n 0, 1) := by decide +kernel
theorem dX5_init_56 : decode cX5_init 56 = .ok (.bipush 24, 2) := by decide +kernel
theorem dX5_init_58 : decode cX5_init 58 = .ok (.newarray .int, 2) := by decide +kernel
theorem dX5_init_60 : decode cX5_init 60 = .ok (.putfield 34, 3) := by decide +kernel
theorem dX5_init_63 : decode cX5_init 63 = .ok (.aload_n 0, 1) := by decide +kernel
theorem dX5_init_64 : decode cX5_init 64 = .ok (.bipush 16, 2) := by decide +kernel
theorem dX5_init_66 : decode cX5_init 66 = .ok (.newarray .int, 2) := by decide +kernel
theorem dX5_init_68 : decode cX5_init 68 = .ok (.putfield 37, 3) := by decide +kernel
theorem dX5_init_71 : decode cX5_init 71 = .ok (.aload_n 0, 1) := by decide +kernel
theorem dX5_init_72 : decode cX5_init 72 = .ok (.iconst 4, 1) := by decide +kernel
theorem dX5_init_73 : decode cX5_init 73 = .ok (.newarray .int, 2) := by decide +kernel
theorem dX5_init_75 : decode cX5_init 75 = .ok (.putfield 40, 3) := by decide +kernel
theorem dX5_init_78 : decode cX5_init 78 = .ok (.aload_n 0, 1) := by decide +kernel
theorem dX5_init_79 : decode cX5_init 79 = .ok (.bipush 24, 2) := by decide +kernel
theorem dX5_init_81 : decode cX5_init 81 = .ok (.newarray .int, 2) := by decide +kernel
theorem dX5_init_83 : decode cX5_init 83 = .ok (.putfield 43, 3) := by decide +kernel
theorem dX5_init_86 : decode cX5_init 86 = .ok (.aload_n 0, 1) := by decide +kernel
theorem dX5_init_87 : decode cX5_init 87 = .ok (.bipush 24, 2) := by decide +kernel
theorem dX5_init_89 : decode cX5_init 89 = .ok (.newarray .int, 2) := by decide +kernel
theorem dX5_init_91 : decode cX5_init 91 = .ok (.putfield 46, 3) := by decide +kernel
theorem dX5_init_94 : decode cX5_init 94 = .ok (.aload_n 0, 1) := by decide +kernel
theorem dX5_init_95 : decode cX5_init 95 = .ok (.iconst 4, 1) := by decide +kernel
theorem dX5_init_96 : decode cX5_init 96 = .ok (.newarray .int, 2) := by decide +kernel
theorem dX5_init_98 : decode cX5_init 98 = .ok (.putfield 49, 3) := by decide +kernel
theorem dX5_init_101 : decode cX5_init 101 = .ok (.aload_n 0, 1) := by decide +kernel
theorem dX5_init_102 : decode cX5_init 102 = .ok (.iconst 4, 1) := by decide +kernel
theorem dX5_init_103 : decode cX5_init 103 = .ok (.newarray .int, 2) := by decide +kernel
theorem dX5_init_105 : decode cX5_init 105 = .ok (.putfield 52, 3) := by decide +kernel
theorem dX5_init_108 : decode cX5_init 108 = .ok (.aload_n 0, 1) := by decide +kernel
theorem dX5_init_109 : decode cX5_init 109 = .ok (.iconst 4, 1) := by decide +kernel
theorem dX5_init_110 : decode cX5_init 110 = .ok (.newarray .int, 2) := by decide +kernel
theorem dX5_init_112 : decode cX5_init 112 = .ok (.putfield 55, 3) := by decide +kernel
theorem dX5_init_115 : decode cX5_init 115 = .ok (.getstatic 58, 3) := by decide +kernel
theorem dX5_init_118 : decode cX5_init 118 = .ok (.aload_n 0, 1) := by decide +kernel
theorem dX5_init_119 : decode cX5_init 119 = .ok (.getfield 22, 3) := by decide +kernel
theorem dX5_init_122 : decode cX5_init 122 = .ok (.invokestatic 61, 3) := by decide +kernel
theorem dX5_init_125 : decode cX5_init 125 = .ok (.return_, 1) := by decide +kernel
theorem dX5_purse_0 : decode cX5_purse 0 = .ok (.iload_n 0, 1) := by decide +kernel
theorem dX5_purse_1 : decode cX5_purse 1 = .ok (.iconst 4, 1) := by decide +kernel
theorem dX5_purse_2 : decode cX5_purse 2 = .ok (.imul, 1) := by decide +kernel
theorem dX5_purse_3 : decode cX5_purse 3 = .ok (.iload_n 1, 1) := by decide +kernel
theorem dX5_purse_4 : decode cX5_purse 4 = .ok (.iadd, 1) := by decide +kernel
theorem dX5_purse_5 : decode cX5_purse 5 = .ok (.iconst 5, 1) := by decide +kernel
theorem dX5_purse_6 : decode cX5_purse 6 = .ok (.imul, 1) := by decide +kernel
theorem dX5_purse_7 : decode cX5_purse 7 = .ok (.ireturn, 1) := by decide +kernel
theorem dX5_shelf_0 : decode cX5_shelf 0 = .ok (.iload_n 0, 1) := by decide +kernel
theorem dX5_shelf_1 : decode cX5_shelf 1 = .ok (.bipush 6, 2) := by decide +kernel
theorem dX5_shelf_3 : decode cX5_shelf 3 = .ok (.imul, 1) := by decide +kernel
theorem dX5_shelf_4 : decode cX5_shelf 4 = .ok (.iload_n 1, 1) := by decide +kernel
theorem dX5_shelf_5 : decode cX5_shelf 5 = .ok (.iadd, 1) := by decide +kernel
theorem dX5_shelf_6 : decode cX5_shelf 6 = .ok (.ireturn, 1) := by decide +kernel
theorem dX5_entry_0 : decode cX5_entry 0 = .ok (.iload_n 0, 1) := by decide +kernel
theorem dX5_entry_1 : decode cX5_entry 1 = .ok (.iconst 4, 1) := by decide +kernel
theorem dX5_entry_2 : decode cX5_entry 2 = .ok (.imul, 1) := by decide +kernel
theorem dX5_entry_3 : decode cX5_entry 3 = .ok (.iload_n 1, 1) := by decide +kernel
theorem dX5_entry_4 : decode cX5_entry 4 = .ok (.iadd, 1) := by decide +kernel
theorem dX5_entry_5 : decode cX5_entry 5 = .ok (.ireturn, 1) := by decide +kernel
theorem dX5_copy_0 : decode cX5_copy 0 = .ok (.aload_n 0, 1) := by decide +kernel
theorem dX5_copy_1 : decode cX5_copy 1 = .ok (.iconst 0, 1) := by decide +kernel
theorem dX5_copy_2 : decode cX5_copy 2 = .ok (.aload_n 1, 1) := by decide +kernel
theorem dX5_copy_3 : decode cX5_copy 3 = .ok (.iconst 0, 1) := by decide +kernel
theorem dX5_copy_4 : decode cX5_copy 4 = .ok (.aload_n 0, 1) := by decide +kernel
theorem dX5_copy_5 : decode cX5_copy 5 = .ok (.arraylength, 1) := by decide +kernel
theorem dX5_copy_6 : decode cX5_copy 6 = .ok (.aload_n 1, 1) := by decide +kernel
theorem dX5_copy_7 : decode cX5_copy 7 = .ok (.arraylength, 1) := by decide +kernel
theorem dX5_copy_8 : decode cX5_copy 8 = .ok (.invokestatic 65, 3) := by decide +kernel
theorem dX5_copy_11 : decode cX5_copy 11 = .ok (.invokestatic 71, 3) := by decide +kernel
theorem dX5_copy_14 : decode cX5_copy 14 = .ok (.return_, 1) := by decide +kernel
theorem dX5_clear_0 : decode cX5_clear 0 = .ok (.aload_n 0, 1) := by decide +kernel
theorem dX5_clear_1 : decode cX5_clear 1 = .ok (.iconst 0, 1) := by decide +kernel
theorem dX5_clear_2 : decode cX5_clear 2 = .ok (.putfield 9, 3) := by decide +kernel
theorem dX5_clear_5 : decode cX5_clear 5 = .ok (.aload_n 0, 1) := by decide +kernel
theorem dX5_clear_6 : decode cX5_clear 6 = .ok (.getfield 15, 3) := by decide +kernel
theorem dX5_clear_9 : decode cX5_clear 9 = .ok (.iconst 0, 1) := by decide +kernel
theorem dX5_clear_10 : decode cX5_clear 10 = .ok (.invokestatic 77, 3) := by decide +kernel
theorem dX5_clear_13 : decode cX5_clear 13 = .ok (.aload_n 0, 1) := by decide +kernel
theorem dX5_clear_14 : decode cX5_clear 14 = .ok (.getfield 19, 3) := by decide +kernel
theorem dX5_clear_17 : decode cX5_clear 17 = .ok (.iconst 0, 1) := by decide +kernel
theorem dX5_clear_18 : decode cX5_clear 18 = .ok (.invokestatic 77, 3) := by decide +kernel
theorem dX5_clear_21 : decode cX5_clear 21 = .ok (.getstatic 58, 3) := by decide +kernel
theorem dX5_clear_24 : decode cX5_clear 24 = .ok (.aload_n 0, 1) := by decide +kernel
theorem dX5_clear_25 : decode cX5_clear 25 = .ok (.getfield 22, 3) := by decide +kernel
theorem dX5_clear_28 : decode cX5_clear 28 = .ok (.invokestatic 61, 3) := by decide +kernel
theorem dX5_clear_31 : decode cX5_clear 31 = .ok (.aload_n 0, 1) := by decide +kernel
theorem dX5_clear_32 : decode cX5_clear 32 = .ok (.getfield 25, 3) := by decide +kernel
theorem dX5_clear_35 : decode cX5_clear 35 = .ok (.iconst 0, 1) := by decide +kernel
theorem dX5_clear_36 : decode cX5_clear 36 = .ok (.invokestatic 77, 3) := by decide +kernel
theorem dX5_clear_39 : decode cX5_clear 39 = .ok (.aload_n 0, 1) := by decide +kernel
theorem dX5_clear_40 : decode cX5_clear 40 = .ok (.getfield 28, 3) := by decide +kernel
theorem dX5_clear_43 : decode cX5_clear 43 = .ok (.iconst 0, 1) := by decide +kernel
theorem dX5_clear_44 : decode cX5_clear 44 = .ok (.invokestatic 77, 3) := by decide +kernel
theorem dX5_clear_47 : decode cX5_clear 47 = .ok (.aload_n 0, 1) := by decide +kernel
theorem dX5_clear_48 : decode cX5_clear 48 = .ok (.getfield 31, 3) := by decide +kernel
theorem dX5_clear_51 : decode cX5_clear 51 = .ok (.iconst 0, 1) := by decide +kernel
theorem dX5_clear_52 : decode cX5_clear 52 = .ok (.invokestatic 77, 3) := by decide +kernel
theorem dX5_clear_55 : decode cX5_clear 55 = .ok (.aload_n 0, 1) := by decide +kernel
theorem dX5_clear_56 : decode cX5_clear 56 = .ok (.getfield 34, 3) := by decide +kernel
theorem dX5_clear_59 : decode cX5_clear 59 = .ok (.iconst 0, 1) := by decide +kernel
theorem dX5_clear_60 : decode cX5_clear 60 = .ok (.invokestatic 77, 3) := by decide +kernel
theorem dX5_clear_63 : decode cX5_clear 63 = .ok (.aload_n 0, 1) := by decide +kernel
theorem dX5_clear_64 : decode cX5_clear 64 = .ok (.getfield 37, 3) := by decide +kernel
theorem dX5_clear_67 : decode cX5_clear 67 = .ok (.iconst 0, 1) := by decide +kernel
theorem dX5_clear_68 : decode cX5_clear 68 = .ok (.invokestatic 77, 3) := by decide +kernel
theorem dX5_clear_71 : decode cX5_clear 71 = .ok (.aload_n 0, 1) := by decide +kernel
theorem dX5_clear_72 : decode cX5_clear 72 = .ok (.getfield 40, 3) := by decide +kernel
theorem dX5_clear_75 : decode cX5_clear 75 = .ok (.iconst 0, 1) := by decide +kernel
theorem dX5_clear_76 : decode cX5_clear 76 = .ok (.invokestatic 77, 3) := by decide +kernel
theorem dX5_clear_79 : decode cX5_clear 79 = .ok (.aload_n 0, 1) := by decide +kernel
theorem dX5_clear_80 : decode cX5_clear 80 = .ok (.getfield 43, 3) := by decide +kernel
theorem dX5_clear_83 : decode cX5_clear 83 = .ok (.iconst 0, 1) := by decide +kernel
theorem dX5_clear_84 : decode cX5_clear 84 = .ok (.invokestatic 77, 3) := by decide +kernel
theorem dX5_clear_87 : decode cX5_clear 87 = .ok (.aload_n 0, 1) := by decide +kernel
theorem dX5_clear_88 : decode cX5_clear 88 = .ok (.getfield 46, 3) := by decide +kernel
theorem dX5_clear_91 : decode cX5_clear 91 = .ok (.iconst 0, 1) := by decide +kernel
theorem dX5_clear_92 : decode cX5_clear 92 = .ok (.invokestatic 77, 3) := by decide +kernel
theorem dX5_clear_95 : decode cX5_clear 95 = .ok (.aload_n 0, 1) := by decide +kernel
theorem dX5_clear_96 : decode cX5_clear 96 = .ok (.getfield 49, 3) := by decide +kernel
theorem dX5_clear_99 : decode cX5_clear 99 = .ok (.iconst 0, 1) := by decide +kernel
theorem dX5_clear_100 : decode cX5_clear 100 = .ok (.invokestatic 77, 3) := by decide +kernel
theorem dX5_clear_103 : decode cX5_clear 103 = .ok (.aload_n 0, 1) := by decide +kernel
theorem dX5_clear_104 : decode cX5_clear 104 = .ok (.getfield 52, 3) := by decide +kernel
theorem dX5_clear_107 : decode cX5_clear 107 = .ok (.iconst 0, 1) := by decide +kernel
theorem dX5_clear_108 : decode cX5_clear 108 = .ok (.invokestatic 77, 3) := by decide +kernel
theorem dX5_clear_111 : decode cX5_clear 111 = .ok (.aload_n 0, 1) := by decide +kernel
theorem dX5_clear_112 : decode cX5_clear 112 = .ok (.getfield 55, 3) := by decide +kernel
theorem dX5_clear_115 : decode cX5_clear 115 = .ok (.iconst 0, 1) := by decide +kernel
theorem dX5_clear_116 : decode cX5_clear 116 = .ok (.invokestatic 77, 3) := by decide +kernel
theorem dX5_clear_119 : decode cX5_clear 119 = .ok (.return_, 1) := by decide +kernel
theorem dX5_become_0 : decode cX5_become 0 = .ok (.aload_n 0, 1) := by decide +kernel
theorem dX5_become_1 : decode cX5_become 1 = .ok (.aload_n 1, 1) := by decide +kernel
theorem dX5_become_2 : decode cX5_become 2 = .ok (.getfield 9, 3) := by decide +kernel
theorem dX5_become_5 : decode cX5_become 5 = .ok (.putfield 9, 3) := by decide +kernel
theorem dX5_become_8 : decode cX5_become 8 = .ok (.aload_n 1, 1) := by decide +kernel
theorem dX5_become_9 : decode cX5_become 9 = .ok (.getfield 15, 3) := by decide +kernel
theorem dX5_become_12 : decode cX5_become 12 = .ok (.aload_n 0, 1) := by decide +kernel
theorem dX5_become_13 : decode cX5_become 13 = .ok (.getfield 15, 3) := by decide +kernel
theorem dX5_become_16 : decode cX5_become 16 = .ok (.invokestatic 61, 3) := by decide +kernel
theorem dX5_become_19 : decode cX5_become 19 = .ok (.aload_n 1, 1) := by decide +kernel
theorem dX5_become_20 : decode cX5_become 20 = .ok (.getfield 19, 3) := by decide +kernel
theorem dX5_become_23 : decode cX5_become 23 = .ok (.aload_n 0, 1) := by decide +kernel
theorem dX5_become_24 : decode cX5_become 24 = .ok (.getfield 19, 3) := by decide +kernel
theorem dX5_become_27 : decode cX5_become 27 = .ok (.invokestatic 61, 3) := by decide +kernel
theorem dX5_become_30 : decode cX5_become 30 = .ok (.aload_n 1, 1) := by decide +kernel
theorem dX5_become_31 : decode cX5_become 31 = .ok (.getfield 22, 3) := by decide +kernel
theorem dX5_become_34 : decode cX5_become 34 = .ok (.aload_n 0, 1) := by decide +kernel
theorem dX5_become_35 : decode cX5_become 35 = .ok (.getfield 22, 3) := by decide +kernel
theorem dX5_become_38 : decode cX5_become 38 = .ok (.invokestatic 61, 3) := by decide +kernel
theorem dX5_become_41 : decode cX5_become 41 = .ok (.aload_n 1, 1) := by decide +kernel
theorem dX5_become_42 : decode cX5_become 42 = .ok (.getfield 25, 3) := by decide +kernel
theorem dX5_become_45 : decode cX5_become 45 = .ok (.aload_n 0, 1) := by decide +kernel
theorem dX5_become_46 : decode cX5_become 46 = .ok (.getfield 25, 3) := by decide +kernel
theorem dX5_become_49 : decode cX5_become 49 = .ok (.invokestatic 61, 3) := by decide +kernel
theorem dX5_become_52 : decode cX5_become 52 = .ok (.aload_n 1, 1) := by decide +kernel
theorem dX5_become_53 : decode cX5_become 53 = .ok (.getfield 28, 3) := by decide +kernel
theorem dX5_become_56 : decode cX5_become 56 = .ok (.aload_n 0, 1) := by decide +kernel
theorem dX5_become_57 : decode cX5_become 57 = .ok (.getfield 28, 3) := by decide +kernel
theorem dX5_become_60 : decode cX5_become 60 = .ok (.invokestatic 61, 3) := by decide +kernel
theorem dX5_become_63 : decode cX5_become 63 = .ok (.aload_n 1, 1) := by decide +kernel
theorem dX5_become_64 : decode cX5_become 64 = .ok (.getfield 31, 3) := by decide +kernel
theorem dX5_become_67 : decode cX5_become 67 = .ok (.aload_n 0, 1) := by decide +kernel
theorem dX5_become_68 : decode cX5_become 68 = .ok (.getfield 31, 3) := by decide +kernel
theorem dX5_become_71 : decode cX5_become 71 = .ok (.invokestatic 61, 3) := by decide +kernel
theorem dX5_become_74 : decode cX5_become 74 = .ok (.aload_n 1, 1) := by decide +kernel
theorem dX5_become_75 : decode cX5_become 75 = .ok (.getfield 34, 3) := by decide +kernel
theorem dX5_become_78 : decode cX5_become 78 = .ok (.aload_n 0, 1) := by decide +kernel
theorem dX5_become_79 : decode cX5_become 79 = .ok (.getfield 34, 3) := by decide +kernel
theorem dX5_become_82 : decode cX5_become 82 = .ok (.invokestatic 61, 3) := by decide +kernel
theorem dX5_become_85 : decode cX5_become 85 = .ok (.aload_n 1, 1) := by decide +kernel
theorem dX5_become_86 : decode cX5_become 86 = .ok (.getfield 37, 3) := by decide +kernel
theorem dX5_become_89 : decode cX5_become 89 = .ok (.aload_n 0, 1) := by decide +kernel
theorem dX5_become_90 : decode cX5_become 90 = .ok (.getfield 37, 3) := by decide +kernel
theorem dX5_become_93 : decode cX5_become 93 = .ok (.invokestatic 61, 3) := by decide +kernel
theorem dX5_become_96 : decode cX5_become 96 = .ok (.aload_n 1, 1) := by decide +kernel
theorem dX5_become_97 : decode cX5_become 97 = .ok (.getfield 40, 3) := by decide +kernel
theorem dX5_become_100 : decode cX5_become 100 = .ok (.aload_n 0, 1) := by decide +kernel
theorem dX5_become_101 : decode cX5_become 101 = .ok (.getfield 40, 3) := by decide +kernel
theorem dX5_become_104 : decode cX5_become 104 = .ok (.invokestatic 61, 3) := by decide +kernel
theorem dX5_become_107 : decode cX5_become 107 = .ok (.aload_n 1, 1) := by decide +kernel
theorem dX5_become_108 : decode cX5_become 108 = .ok (.getfield 43, 3) := by decide +kernel
theorem dX5_become_111 : decode cX5_become 111 = .ok (.aload_n 0, 1) := by decide +kernel
theorem dX5_become_112 : decode cX5_become 112 = .ok (.getfield 43, 3) := by decide +kernel
theorem dX5_become_115 : decode cX5_become 115 = .ok (.invokestatic 61, 3) := by decide +kernel
theorem dX5_become_118 : decode cX5_become 118 = .ok (.aload_n 1, 1) := by decide +kernel
theorem dX5_become_119 : decode cX5_become 119 = .ok (.getfield 46, 3) := by decide +kernel
theorem dX5_become_122 : decode cX5_become 122 = .ok (.aload_n 0, 1) := by decide +kernel
theorem dX5_become_123 : decode cX5_become 123 = .ok (.getfield 46, 3) := by decide +kernel
theorem dX5_become_126 : decode cX5_become 126 = .ok (.invokestatic 61, 3) := by decide +kernel
theorem dX5_become_129 : decode cX5_become 129 = .ok (.aload_n 1, 1) := by decide +kernel
theorem dX5_become_130 : decode cX5_become 130 = .ok (.getfield 49, 3) := by decide +kernel
theorem dX5_become_133 : decode cX5_become 133 = .ok (.aload_n 0, 1) := by decide +kernel
theorem dX5_become_134 : decode cX5_become 134 = .ok (.getfield 49, 3) := by decide +kernel
theorem dX5_become_137 : decode cX5_become 137 = .ok (.invokestatic 61, 3) := by decide +kernel
theorem dX5_become_140 : decode cX5_become 140 = .ok (.aload_n 1, 1) := by decide +kernel
theorem dX5_become_141 : decode cX5_become 141 = .ok (.getfield 52, 3) := by decide +kernel
theorem dX5_become_144 : decode cX5_become 144 = .ok (.aload_n 0, 1) := by decide +kernel
theorem dX5_become_145 : decode cX5_become 145 = .ok (.getfield 52, 3) := by decide +kernel
theorem dX5_become_148 : decode cX5_become 148 = .ok (.invokestatic 61, 3) := by decide +kernel
theorem dX5_become_151 : decode cX5_become 151 = .ok (.aload_n 1, 1) := by decide +kernel
theorem dX5_become_152 : decode cX5_become 152 = .ok (.getfield 55, 3) := by decide +kernel
theorem dX5_become_155 : decode cX5_become 155 = .ok (.aload_n 0, 1) := by decide +kernel
theorem dX5_become_156 : decode cX5_become 156 = .ok (.getfield 55, 3) := by decide +kernel
theorem dX5_become_159 : decode cX5_become 159 = .ok (.invokestatic 61, 3) := by decide +kernel
theorem dX5_become_162 : decode cX5_become 162 = .ok (.return_, 1) := by decide +kernel
theorem dX6_init_0 : decode cX6_init 0 = .ok (.aload_n 0, 1) := by decide +kernel
theorem dX6_init_1 : decode cX6_init 1 = .ok (.invokespecial 3, 3) := by decide +kernel
theorem dX6_init_4 : decode cX6_init 4 = .ok (.aload_n 0, 1) := by decide +kernel
theorem dX6_init_5 : decode cX6_init 5 = .ok (.iconst 0, 1) := by decide +kernel
theorem dX6_init_6 : decode cX6_init 6 = .ok (.newarray .int, 2) := by decide +kernel
theorem dX6_init_8 : decode cX6_init 8 = .ok (.putfield 9, 3) := by decide +kernel
theorem dX6_init_11 : decode cX6_init 11 = .ok (.aload_n 0, 1) := by decide +kernel
theorem dX6_init_12 : decode cX6_init 12 = .ok (.iconst 0, 1) := by decide +kernel
theorem dX6_init_13 : decode cX6_init 13 = .ok (.putfield 15, 3) := by decide +kernel
theorem dX6_init_16 : decode cX6_init 16 = .ok (.aload_n 0, 1) := by decide +kernel
theorem dX6_init_17 : decode cX6_init 17 = .ok (.iconst 0, 1) := by decide +kernel
theorem dX6_init_18 : decode cX6_init 18 = .ok (.putfield 19, 3) := by decide +kernel
theorem dX6_init_21 : decode cX6_init 21 = .ok (.aload_n 0, 1) := by decide +kernel
theorem dX6_init_22 : decode cX6_init 22 = .ok (.iconst 0, 1) := by decide +kernel
theorem dX6_init_23 : decode cX6_init 23 = .ok (.putfield 22, 3) := by decide +kernel
theorem dX6_init_26 : decode cX6_init 26 = .ok (.aload_n 0, 1) := by decide +kernel
theorem dX6_init_27 : decode cX6_init 27 = .ok (.iconst 0, 1) := by decide +kernel
theorem dX6_init_28 : decode cX6_init 28 = .ok (.putfield 25, 3) := by decide +kernel
theorem dX6_init_31 : decode cX6_init 31 = .ok (.return_, 1) := by decide +kernel
theorem dX6_open_0 : decode cX6_open 0 = .ok (.aload_n 0, 1) := by decide +kernel
theorem dX6_open_1 : decode cX6_open 1 = .ok (.aload_n 1, 1) := by decide +kernel
theorem dX6_open_2 : decode cX6_open 2 = .ok (.putfield 9, 3) := by decide +kernel
theorem dX6_open_5 : decode cX6_open 5 = .ok (.aload_n 0, 1) := by decide +kernel
theorem dX6_open_6 : decode cX6_open 6 = .ok (.iload_n 2, 1) := by decide +kernel
theorem dX6_open_7 : decode cX6_open 7 = .ok (.aload_n 1, 1) := by decide +kernel
theorem dX6_open_8 : decode cX6_open 8 = .ok (.arraylength, 1) := by decide +kernel
theorem dX6_open_9 : decode cX6_open 9 = .ok (.invokestatic 28, 3) := by decide +kernel
theorem dX6_open_12 : decode cX6_open 12 = .ok (.putfield 15, 3) := by decide +kernel
theorem dX6_open_15 : decode cX6_open 15 = .ok (.aload_n 0, 1) := by decide +kernel
theorem dX6_open_16 : decode cX6_open 16 = .ok (.iconst 0, 1) := by decide +kernel
theorem dX6_open_17 : decode cX6_open 17 = .ok (.putfield 19, 3) := by decide +kernel
theorem dX6_open_20 : decode cX6_open 20 = .ok (.aload_n 0, 1) := by decide +kernel
theorem dX6_open_21 : decode cX6_open 21 = .ok (.invokevirtual 34, 3) := by decide +kernel
theorem dX6_open_24 : decode cX6_open 24 = .ok (.return_, 1) := by decide +kernel
theorem dX6_advance_0 : decode cX6_advance 0 = .ok (.aload_n 0, 1) := by decide +kernel
theorem dX6_advance_1 : decode cX6_advance 1 = .ok (.getfield 19, 3) := by decide +kernel
theorem dX6_advance_4 : decode cX6_advance 4 = .ok (.istore_n 1, 1) := by decide +kernel
theorem dX6_advance_5 : decode cX6_advance 5 = .ok (.iload_n 1, 1) := by decide +kernel
theorem dX6_advance_6 : decode cX6_advance 6 = .ok (.aload_n 0, 1) := by decide +kernel
theorem dX6_advance_7 : decode cX6_advance 7 = .ok (.getfield 15, 3) := by decide +kernel
theorem dX6_advance_10 : decode cX6_advance 10 = .ok (.if_icmp .ge 31, 3) := by decide +kernel
theorem dX6_advance_13 : decode cX6_advance 13 = .ok (.aload_n 0, 1) := by decide +kernel
theorem dX6_advance_14 : decode cX6_advance 14 = .ok (.getfield 9, 3) := by decide +kernel
theorem dX6_advance_17 : decode cX6_advance 17 = .ok (.iload_n 1, 1) := by decide +kernel
theorem dX6_advance_18 : decode cX6_advance 18 = .ok (.iaload, 1) := by decide +kernel
theorem dX6_advance_19 : decode cX6_advance 19 = .ok (.bipush 32, 2) := by decide +kernel
theorem dX6_advance_21 : decode cX6_advance 21 = .ok (.if_icmp .eq 14, 3) := by decide +kernel
theorem dX6_advance_24 : decode cX6_advance 24 = .ok (.aload_n 0, 1) := by decide +kernel
theorem dX6_advance_25 : decode cX6_advance 25 = .ok (.getfield 9, 3) := by decide +kernel
theorem dX6_advance_28 : decode cX6_advance 28 = .ok (.iload_n 1, 1) := by decide +kernel
theorem dX6_advance_29 : decode cX6_advance 29 = .ok (.iaload, 1) := by decide +kernel
theorem dX6_advance_30 : decode cX6_advance 30 = .ok (.bipush 10, 2) := by decide +kernel
theorem dX6_advance_32 : decode cX6_advance 32 = .ok (.if_icmp .ne 9, 3) := by decide +kernel
theorem dX6_advance_35 : decode cX6_advance 35 = .ok (.iinc 1 1, 3) := by decide +kernel
theorem dX6_advance_38 : decode cX6_advance 38 = .ok (.goto (-33), 3) := by decide +kernel
theorem dX6_advance_41 : decode cX6_advance 41 = .ok (.aload_n 0, 1) := by decide +kernel
theorem dX6_advance_42 : decode cX6_advance 42 = .ok (.iload_n 1, 1) := by decide +kernel
theorem dX6_advance_43 : decode cX6_advance 43 = .ok (.putfield 22, 3) := by decide +kernel
theorem dX6_advance_46 : decode cX6_advance 46 = .ok (.aload_n 0, 1) := by decide +kernel
theorem dX6_advance_47 : decode cX6_advance 47 = .ok (.aload_n 0, 1) := by decide +kernel
theorem dX6_advance_48 : decode cX6_advance 48 = .ok (.iload_n 1, 1) := by decide +kernel
theorem dX6_advance_49 : decode cX6_advance 49 = .ok (.invokevirtual 37, 3) := by decide +kernel
theorem dX6_advance_52 : decode cX6_advance 52 = .ok (.putfield 25, 3) := by decide +kernel
theorem dX6_advance_55 : decode cX6_advance 55 = .ok (.iload_n 1, 1) := by decide +kernel
theorem dX6_advance_56 : decode cX6_advance 56 = .ok (.iconst 1, 1) := by decide +kernel
theorem dX6_advance_57 : decode cX6_advance 57 = .ok (.iadd, 1) := by decide +kernel
theorem dX6_advance_58 : decode cX6_advance 58 = .ok (.aload_n 0, 1) := by decide +kernel
theorem dX6_advance_59 : decode cX6_advance 59 = .ok (.getfield 15, 3) := by decide +kernel
theorem dX6_advance_62 : decode cX6_advance 62 = .ok (.invokestatic 28, 3) := by decide +kernel
theorem dX6_advance_65 : decode cX6_advance 65 = .ok (.istore_n 1, 1) := by decide +kernel
theorem dX6_advance_66 : decode cX6_advance 66 = .ok (.aload_n 0, 1) := by decide +kernel
theorem dX6_advance_67 : decode cX6_advance 67 = .ok (.getfield 25, 3) := by decide +kernel
theorem dX6_advance_70 : decode cX6_advance 70 = .ok (.iconst 1, 1) := by decide +kernel
theorem dX6_advance_71 : decode cX6_advance 71 = .ok (.if_icmp .eq 11, 3) := by decide +kernel
theorem dX6_advance_74 : decode cX6_advance 74 = .ok (.aload_n 0, 1) := by decide +kernel
theorem dX6_advance_75 : decode cX6_advance 75 = .ok (.getfield 25, 3) := by decide +kernel
theorem dX6_advance_78 : decode cX6_advance 78 = .ok (.iconst 2, 1) := by decide +kernel
theorem dX6_advance_79 : decode cX6_advance 79 = .ok (.if_icmp .ne 7, 3) := by decide +kernel
theorem dX6_advance_82 : decode cX6_advance 82 = .ok (.iconst 1, 1) := by decide +kernel
theorem dX6_advance_83 : decode cX6_advance 83 = .ok (.goto 4, 3) := by decide +kernel
theorem dX6_advance_86 : decode cX6_advance 86 = .ok (.iconst 0, 1) := by decide +kernel
theorem dX6_advance_87 : decode cX6_advance 87 = .ok (.istore_n 2, 1) := by decide +kernel
theorem dX6_advance_88 : decode cX6_advance 88 = .ok (.iload_n 2, 1) := by decide +kernel
theorem dX6_advance_89 : decode cX6_advance 89 = .ok (.ifCond .eq 29, 3) := by decide +kernel
theorem dX6_advance_92 : decode cX6_advance 92 = .ok (.iload_n 1, 1) := by decide +kernel
theorem dX6_advance_93 : decode cX6_advance 93 = .ok (.aload_n 0, 1) := by decide +kernel
theorem dX6_advance_94 : decode cX6_advance 94 = .ok (.getfield 15, 3) := by decide +kernel
theorem dX6_advance_97 : decode cX6_advance 97 = .ok (.if_icmp .ge 21, 3) := by decide +kernel
theorem dX6_advance_100 : decode cX6_advance 100 = .ok (.aload_n 0, 1) := by decide +kernel
theorem dX6_advance_101 : decode cX6_advance 101 = .ok (.iload_n 1, 1) := by decide +kernel
theorem dX6_advance_102 : decode cX6_advance 102 = .ok (.invokevirtual 37, 3) := by decide +kernel
theorem dX6_advance_105 : decode cX6_advance 105 = .ok (.aload_n 0, 1) := by decide +kernel
theorem dX6_advance_106 : decode cX6_advance 106 = .ok (.getfield 25, 3) := by decide +kernel
theorem dX6_advance_109 : decode cX6_advance 109 = .ok (.if_icmp .ne 9, 3) := by decide +kernel
theorem dX6_advance_112 : decode cX6_advance 112 = .ok (.iinc 1 1, 3) := by decide +kernel
theorem dX6_advance_115 : decode cX6_advance 115 = .ok (.goto (-27), 3) := by decide +kernel
theorem dX6_advance_118 : decode cX6_advance 118 = .ok (.aload_n 0, 1) := by decide +kernel
theorem dX6_advance_119 : decode cX6_advance 119 = .ok (.iload_n 1, 1) := by decide +kernel
theorem dX6_advance_120 : decode cX6_advance 120 = .ok (.putfield 19, 3) := by decide +kernel
theorem dX6_advance_123 : decode cX6_advance 123 = .ok (.return_, 1) := by decide +kernel
theorem dX6_kindAt_0 : decode cX6_kindAt 0 = .ok (.iload_n 1, 1) := by decide +kernel
theorem dX6_kindAt_1 : decode cX6_kindAt 1 = .ok (.aload_n 0, 1) := by decide +kernel
theorem dX6_kindAt_2 : decode cX6_kindAt 2 = .ok (.getfield 15, 3) := by decide +kernel
theorem dX6_kindAt_5 : decode cX6_kindAt 5 = .ok (.if_icmp .lt 5, 3) := by decide +kernel
theorem dX6_kindAt_8 : decode cX6_kindAt 8 = .ok (.iconst 0, 1) := by decide +kernel
theorem dX6_kindAt_9 : decode cX6_kindAt 9 = .ok (.ireturn, 1) := by decide +kernel
theorem dX6_kindAt_10 : decode cX6_kindAt 10 = .ok (.aload_n 0, 1) := by decide +kernel
theorem dX6_kindAt_11 : decode cX6_kindAt 11 = .ok (.getfield 9, 3) := by decide +kernel
theorem dX6_kindAt_14 : decode cX6_kindAt 14 = .ok (.iload_n 1, 1) := by decide +kernel
theorem dX6_kindAt_15 : decode cX6_kindAt 15 = .ok (.iaload, 1) := by decide +kernel
theorem dX6_kindAt_16 : decode cX6_kindAt 16 = .ok (.istore_n 2, 1) := by decide +kernel
theorem dX6_kindAt_17 : decode cX6_kindAt 17 = .ok (.iload_n 2, 1) := by decide +kernel
theorem dX6_kindAt_18 : decode cX6_kindAt 18 = .ok (.bipush 97, 2) := by decide +kernel
theorem dX6_kindAt_20 : decode cX6_kindAt 20 = .ok (.if_icmp .lt 11, 3) := by decide +kernel
theorem dX6_kindAt_23 : decode cX6_kindAt 23 = .ok (.iload_n 2, 1) := by decide +kernel
theorem dX6_kindAt_24 : decode cX6_kindAt 24 = .ok (.bipush 122, 2) := by decide +kernel
theorem dX6_kindAt_26 : decode cX6_kindAt 26 = .ok (.if_icmp .gt 5, 3) := by decide +kernel
theorem dX6_kindAt_29 : decode cX6_kindAt 29 = .ok (.iconst 1, 1) := by decide +kernel
theorem dX6_kindAt_30 : decode cX6_kindAt 30 = .ok (.ireturn, 1) := by decide +kernel
theorem dX6_kindAt_31 : decode cX6_kindAt 31 = .ok (.iload_n 2, 1) := by decide +kernel
theorem dX6_kindAt_32 : decode cX6_kindAt 32 = .ok (.bipush 48, 2) := by decide +kernel
theorem dX6_kindAt_34 : decode cX6_kindAt 34 = .ok (.if_icmp .lt 11, 3) := by decide +kernel
theorem dX6_kindAt_37 : decode cX6_kindAt 37 = .ok (.iload_n 2, 1) := by decide +kernel
theorem dX6_kindAt_38 : decode cX6_kindAt 38 = .ok (.bipush 57, 2) := by decide +kernel
theorem dX6_kindAt_40 : decode cX6_kindAt 40 = .ok (.if_icmp .gt 5, 3) := by decide +kernel
theorem dX6_kindAt_43 : decode cX6_kindAt 43 = .ok (.iconst 2, 1) := by decide +kernel
theorem dX6_kindAt_44 : decode cX6_kindAt 44 = .ok (.ireturn, 1) := by decide +kernel
theorem dX6_kindAt_45 : decode cX6_kindAt 45 = .ok (.iload_n 2, 1) := by decide +kernel
theorem dX6_kindAt_46 : decode cX6_kindAt 46 = .ok (.bipush 59, 2) := by decide +kernel
theorem dX6_kindAt_48 : decode cX6_kindAt 48 = .ok (.if_icmp .ne 7, 3) := by decide +kernel
theorem dX6_kindAt_51 : decode cX6_kindAt 51 = .ok (.iconst 3, 1) := by decide +kernel
theorem dX6_kindAt_52 : decode cX6_kindAt 52 = .ok (.goto 4, 3) := by decide +kernel
theorem dX6_kindAt_55 : decode cX6_kindAt 55 = .ok (.iconst 4, 1) := by decide +kernel
theorem dX6_kindAt_56 : decode cX6_kindAt 56 = .ok (.ireturn, 1) := by decide +kernel
theorem dX6_isWord_0 : decode cX6_isWord 0 = .ok (.aload_n 0, 1) := by decide +kernel
theorem dX6_isWord_1 : decode cX6_isWord 1 = .ok (.getfield 25, 3) := by decide +kernel
theorem dX6_isWord_4 : decode cX6_isWord 4 = .ok (.iconst 1, 1) := by decide +kernel
theorem dX6_isWord_5 : decode cX6_isWord 5 = .ok (.if_icmp .ne 19, 3) := by decide +kernel
theorem dX6_isWord_8 : decode cX6_isWord 8 = .ok (.aload_n 0, 1) := by decide +kernel
theorem dX6_isWord_9 : decode cX6_isWord 9 = .ok (.getfield 19, 3) := by decide +kernel
theorem dX6_isWord_12 : decode cX6_isWord 12 = .ok (.aload_n 0, 1) := by decide +kernel
theorem dX6_isWord_13 : decode cX6_isWord 13 = .ok (.getfield 22, 3) := by decide +kernel
theorem dX6_isWord_16 : decode cX6_isWord 16 = .ok (.isub, 1) := by decide +kernel
theorem dX6_isWord_17 : decode cX6_isWord 17 = .ok (.aload_n 1, 1) := by decide +kernel
theorem dX6_isWord_18 : decode cX6_isWord 18 = .ok (.invokevirtual 41, 3) := by decide +kernel
theorem dX6_isWord_21 : decode cX6_isWord 21 = .ok (.if_icmp .eq 5, 3) := by decide +kernel
theorem dX6_isWord_24 : decode cX6_isWord 24 = .ok (.iconst 0, 1) := by decide +kernel
theorem dX6_isWord_25 : decode cX6_isWord 25 = .ok (.ireturn, 1) := by decide +kernel
theorem dX6_isWord_26 : decode cX6_isWord 26 = .ok (.iconst 0, 1) := by decide +kernel
theorem dX6_isWord_27 : decode cX6_isWord 27 = .ok (.istore_n 2, 1) := by decide +kernel
theorem dX6_isWord_28 : decode cX6_isWord 28 = .ok (.iload_n 2, 1) := by decide +kernel
theorem dX6_isWord_29 : decode cX6_isWord 29 = .ok (.aload_n 1, 1) := by decide +kernel
theorem dX6_isWord_30 : decode cX6_isWord 30 = .ok (.invokevirtual 41, 3) := by decide +kernel
theorem dX6_isWord_33 : decode cX6_isWord 33 = .ok (.if_icmp .ge 30, 3) := by decide +kernel
theorem dX6_isWord_36 : decode cX6_isWord 36 = .ok (.aload_n 0, 1) := by decide +kernel
theorem dX6_isWord_37 : decode cX6_isWord 37 = .ok (.getfield 9, 3) := by decide +kernel
theorem dX6_isWord_40 : decode cX6_isWord 40 = .ok (.aload_n 0, 1) := by decide +kernel
theorem dX6_isWord_41 : decode cX6_isWord 41 = .ok (.getfield 22, 3) := by decide +kernel
theorem dX6_isWord_44 : decode cX6_isWord 44 = .ok (.iload_n 2, 1) := by decide +kernel
theorem dX6_isWord_45 : decode cX6_isWord 45 = .ok (.iadd, 1) := by decide +kernel
theorem dX6_isWord_46 : decode cX6_isWord 46 = .ok (.iaload, 1) := by decide +kernel
theorem dX6_isWord_47 : decode cX6_isWord 47 = .ok (.aload_n 1, 1) := by decide +kernel
theorem dX6_isWord_48 : decode cX6_isWord 48 = .ok (.iload_n 2, 1) := by decide +kernel
theorem dX6_isWord_49 : decode cX6_isWord 49 = .ok (.invokevirtual 46, 3) := by decide +kernel
theorem dX6_isWord_52 : decode cX6_isWord 52 = .ok (.if_icmp .eq 5, 3) := by decide +kernel
theorem dX6_isWord_55 : decode cX6_isWord 55 = .ok (.iconst 0, 1) := by decide +kernel
theorem dX6_isWord_56 : decode cX6_isWord 56 = .ok (.ireturn, 1) := by decide +kernel
theorem dX6_isWord_57 : decode cX6_isWord 57 = .ok (.iinc 2 1, 3) := by decide +kernel
theorem dX6_isWord_60 : decode cX6_isWord 60 = .ok (.goto (-32), 3) := by decide +kernel
theorem dX6_isWord_63 : decode cX6_isWord 63 = .ok (.iconst 1, 1) := by decide +kernel
theorem dX6_isWord_64 : decode cX6_isWord 64 = .ok (.ireturn, 1) := by decide +kernel
theorem dX6_isName_0 : decode cX6_isName 0 = .ok (.aload_n 0, 1) := by decide +kernel
theorem dX6_isName_1 : decode cX6_isName 1 = .ok (.getfield 25, 3) := by decide +kernel
theorem dX6_isName_4 : decode cX6_isName 4 = .ok (.iconst 1, 1) := by decide +kernel
theorem dX6_isName_5 : decode cX6_isName 5 = .ok (.if_icmp .ne 102, 3) := by decide +kernel
theorem dX6_isName_8 : decode cX6_isName 8 = .ok (.aload_n 0, 1) := by decide +kernel
theorem dX6_isName_9 : decode cX6_isName 9 = .ok (.getfield 19, 3) := by decide +kernel
theorem dX6_isName_12 : decode cX6_isName 12 = .ok (.aload_n 0, 1) := by decide +kernel
theorem dX6_isName_13 : decode cX6_isName 13 = .ok (.getfield 22, 3) := by decide +kernel
theorem dX6_isName_16 : decode cX6_isName 16 = .ok (.isub, 1) := by decide +kernel
theorem dX6_isName_17 : decode cX6_isName 17 = .ok (.bipush 6, 2) := by decide +kernel
theorem dX6_isName_19 : decode cX6_isName 19 = .ok (.if_icmp .gt 88, 3) := by decide +kernel
theorem dX6_isName_22 : decode cX6_isName 22 = .ok (.aload_n 0, 1) := by decide +kernel
theorem dX6_isName_23 : decode cX6_isName 23 = .ok (.ldc 50, 2) := by decide +kernel
theorem dX6_isName_25 : decode cX6_isName 25 = .ok (.invokevirtual 52, 3) := by decide +kernel
theorem dX6_isName_28 : decode cX6_isName 28 = .ok (.ifCond .ne 79, 3) := by decide +kernel
theorem dX6_isName_31 : decode cX6_isName 31 = .ok (.aload_n 0, 1) := by decide +kernel
theorem dX6_isName_32 : decode cX6_isName 32 = .ok (.ldc 56, 2) := by decide +kernel
theorem dX6_isName_34 : decode cX6_isName 34 = .ok (.invokevirtual 52, 3) := by decide +kernel
theorem dX6_isName_37 : decode cX6_isName 37 = .ok (.ifCond .ne 70, 3) := by decide +kernel
theorem dX6_isName_40 : decode cX6_isName 40 = .ok (.aload_n 0, 1) := by decide +kernel
theorem dX6_isName_41 : decode cX6_isName 41 = .ok (.ldc 58, 2) := by decide +kernel
theorem dX6_isName_43 : decode cX6_isName 43 = .ok (.invokevirtual 52, 3) := by decide +kernel
theorem dX6_isName_46 : decode cX6_isName 46 = .ok (.ifCond .ne 61, 3) := by decide +kernel
theorem dX6_isName_49 : decode cX6_isName 49 = .ok (.aload_n 0, 1) := by decide +kernel
theorem dX6_isName_50 : decode cX6_isName 50 = .ok (.ldc 60, 2) := by decide +kernel
theorem dX6_isName_52 : decode cX6_isName 52 = .ok (.invokevirtual 52, 3) := by decide +kernel
theorem dX6_isName_55 : decode cX6_isName 55 = .ok (.ifCond .ne 52, 3) := by decide +kernel
theorem dX6_isName_58 : decode cX6_isName 58 = .ok (.aload_n 0, 1) := by decide +kernel
theorem dX6_isName_59 : decode cX6_isName 59 = .ok (.ldc 62, 2) := by decide +kernel
theorem dX6_isName_61 : decode cX6_isName 61 = .ok (.invokevirtual 52, 3) := by decide +kernel
theorem dX6_isName_64 : decode cX6_isName 64 = .ok (.ifCond .ne 43, 3) := by decide +kernel
theorem dX6_isName_67 : decode cX6_isName 67 = .ok (.aload_n 0, 1) := by decide +kernel
theorem dX6_isName_68 : decode cX6_isName 68 = .ok (.ldc 64, 2) := by decide +kernel
theorem dX6_isName_70 : decode cX6_isName 70 = .ok (.invokevirtual 52, 3) := by decide +kernel
theorem dX6_isName_73 : decode cX6_isName 73 = .ok (.ifCond .ne 34, 3) := by decide +kernel
theorem dX6_isName_76 : decode cX6_isName 76 = .ok (.aload_n 0, 1) := by decide +kernel
theorem dX6_isName_77 : decode cX6_isName 77 = .ok (.ldc 66, 2) := by decide +kernel
theorem dX6_isName_79 : decode cX6_isName 79 = .ok (.invokevirtual 52, 3) := by decide +kernel
theorem dX6_isName_82 : decode cX6_isName 82 = .ok (.ifCond .ne 25, 3) := by decide +kernel
theorem dX6_isName_85 : decode cX6_isName 85 = .ok (.aload_n 0, 1) := by decide +kernel
theorem dX6_isName_86 : decode cX6_isName 86 = .ok (.ldc 68, 2) := by decide +kernel
theorem dX6_isName_88 : decode cX6_isName 88 = .ok (.invokevirtual 52, 3) := by decide +kernel
theorem dX6_isName_91 : decode cX6_isName 91 = .ok (.ifCond .ne 16, 3) := by decide +kernel
theorem dX6_isName_94 : decode cX6_isName 94 = .ok (.aload_n 0, 1) := by decide +kernel
theorem dX6_isName_95 : decode cX6_isName 95 = .ok (.ldc 70, 2) := by decide +kernel
theorem dX6_isName_97 : decode cX6_isName 97 = .ok (.invokevirtual 52, 3) := by decide +kernel
theorem dX6_isName_100 : decode cX6_isName 100 = .ok (.ifCond .ne 7, 3) := by decide +kernel
theorem dX6_isName_103 : decode cX6_isName 103 = .ok (.iconst 1, 1) := by decide +kernel
theorem dX6_isName_104 : decode cX6_isName 104 = .ok (.goto 4, 3) := by decide +kernel
theorem dX6_isName_107 : decode cX6_isName 107 = .ok (.iconst 0, 1) := by decide +kernel
theorem dX6_isName_108 : decode cX6_isName 108 = .ok (.ireturn, 1) := by decide +kernel
theorem dX6_settingWord_0 : decode cX6_settingWord 0 = .ok (.aload_n 0, 1) := by decide +kernel
theorem dX6_settingWord_1 : decode cX6_settingWord 1 = .ok (.ldc 66, 2) := by decide +kernel
theorem dX6_settingWord_3 : decode cX6_settingWord 3 = .ok (.invokevirtual 52, 3) := by decide +kernel
theorem dX6_settingWord_6 : decode cX6_settingWord 6 = .ok (.ifCond .eq 5, 3) := by decide +kernel
theorem dX6_settingWord_9 : decode cX6_settingWord 9 = .ok (.iconst 0, 1) := by decide +kernel
theorem dX6_settingWord_10 : decode cX6_settingWord 10 = .ok (.ireturn, 1) := by decide +kernel
theorem dX6_settingWord_11 : decode cX6_settingWord 11 = .ok (.aload_n 0, 1) := by decide +kernel
theorem dX6_settingWord_12 : decode cX6_settingWord 12 = .ok (.ldc 68, 2) := by decide +kernel
theorem dX6_settingWord_14 : decode cX6_settingWord 14 = .ok (.invokevirtual 52, 3) := by decide +kernel
theorem dX6_settingWord_17 : decode cX6_settingWord 17 = .ok (.ifCond .eq 5, 3) := by decide +kernel
theorem dX6_settingWord_20 : decode cX6_settingWord 20 = .ok (.iconst 1, 1) := by decide +kernel
theorem dX6_settingWord_21 : decode cX6_settingWord 21 = .ok (.ireturn, 1) := by decide +kernel
theorem dX6_settingWord_22 : decode cX6_settingWord 22 = .ok (.aload_n 0, 1) := by decide +kernel
theorem dX6_settingWord_23 : decode cX6_settingWord 23 = .ok (.ldc 70, 2) := by decide +kernel
theorem dX6_settingWord_25 : decode cX6_settingWord 25 = .ok (.invokevirtual 52, 3) := by decide +kernel
theorem dX6_settingWord_28 : decode cX6_settingWord 28 = .ok (.ifCond .eq 7, 3) := by decide +kernel
theorem dX6_settingWord_31 : decode cX6_settingWord 31 = .ok (.iconst 2, 1) := by decide +kernel
theorem dX6_settingWord_32 : decode cX6_settingWord 32 = .ok (.goto 4, 3) := by decide +kernel
theorem dX6_settingWord_35 : decode cX6_settingWord 35 = .ok (.iconst (-1), 1) := by decide +kernel
theorem dX6_settingWord_36 : decode cX6_settingWord 36 = .ok (.ireturn, 1) := by decide +kernel
theorem dX6_letters_0 : decode cX6_letters 0 = .ok (.iconst 0, 1) := by decide +kernel
theorem dX6_letters_1 : decode cX6_letters 1 = .ok (.istore_n 1, 1) := by decide +kernel
theorem dX6_letters_2 : decode cX6_letters 2 = .ok (.iconst 0, 1) := by decide +kernel
theorem dX6_letters_3 : decode cX6_letters 3 = .ok (.istore_n 2, 1) := by decide +kernel
theorem dX6_letters_4 : decode cX6_letters 4 = .ok (.iload_n 2, 1) := by decide +kernel
theorem dX6_letters_5 : decode cX6_letters 5 = .ok (.bipush 6, 2) := by decide +kernel
theorem dX6_letters_7 : decode cX6_letters 7 = .ok (.if_icmp .ge 47, 3) := by decide +kernel
theorem dX6_letters_10 : decode cX6_letters 10 = .ok (.iload_n 1, 1) := by decide +kernel
theorem dX6_letters_11 : decode cX6_letters 11 = .ok (.iconst 5, 1) := by decide +kernel
theorem dX6_letters_12 : decode cX6_letters 12 = .ok (.ishl, 1) := by decide +kernel
theorem dX6_letters_13 : decode cX6_letters 13 = .ok (.aload_n 0, 1) := by decide +kernel
theorem dX6_letters_14 : decode cX6_letters 14 = .ok (.getfield 22, 3) := by decide +kernel
theorem dX6_letters_17 : decode cX6_letters 17 = .ok (.iload_n 2, 1) := by decide +kernel
theorem dX6_letters_18 : decode cX6_letters 18 = .ok (.iadd, 1) := by decide +kernel
theorem dX6_letters_19 : decode cX6_letters 19 = .ok (.aload_n 0, 1) := by decide +kernel
theorem dX6_letters_20 : decode cX6_letters 20 = .ok (.getfield 19, 3) := by decide +kernel
theorem dX6_letters_23 : decode cX6_letters 23 = .ok (.if_icmp .ge 22, 3) := by decide +kernel
theorem dX6_letters_26 : decode cX6_letters 26 = .ok (.aload_n 0, 1) := by decide +kernel
theorem dX6_letters_27 : decode cX6_letters 27 = .ok (.getfield 9, 3) := by decide +kernel
theorem dX6_letters_30 : decode cX6_letters 30 = .ok (.aload_n 0, 1) := by decide +kernel
theorem dX6_letters_31 : decode cX6_letters 31 = .ok (.getfield 22, 3) := by decide +kernel
theorem dX6_letters_34 : decode cX6_letters 34 = .ok (.iload_n 2, 1) := by decide +kernel
theorem dX6_letters_35 : decode cX6_letters 35 = .ok (.iadd, 1) := by decide +kernel
theorem dX6_letters_36 : decode cX6_letters 36 = .ok (.iaload, 1) := by decide +kernel
theorem dX6_letters_37 : decode cX6_letters 37 = .ok (.bipush 97, 2) := by decide +kernel
theorem dX6_letters_39 : decode cX6_letters 39 = .ok (.isub, 1) := by decide +kernel
theorem dX6_letters_40 : decode cX6_letters 40 = .ok (.iconst 1, 1) := by decide +kernel
theorem dX6_letters_41 : decode cX6_letters 41 = .ok (.iadd, 1) := by decide +kernel
theorem dX6_letters_42 : decode cX6_letters 42 = .ok (.goto 4, 3) := by decide +kernel
theorem dX6_letters_45 : decode cX6_letters 45 = .ok (.iconst 0, 1) := by decide +kernel
theorem dX6_letters_46 : decode cX6_letters 46 = .ok (.ior, 1) := by decide +kernel
theorem dX6_letters_47 : decode cX6_letters 47 = .ok (.istore_n 1, 1) := by decide +kernel
theorem dX6_letters_48 : decode cX6_letters 48 = .ok (.iinc 2 1, 3) := by decide +kernel
theorem dX6_letters_51 : decode cX6_letters 51 = .ok (.goto (-47), 3) := by decide +kernel
theorem dX6_letters_54 : decode cX6_letters 54 = .ok (.iload_n 1, 1) := by decide +kernel
theorem dX6_letters_55 : decode cX6_letters 55 = .ok (.ireturn, 1) := by decide +kernel
theorem dX6_integer_0 : decode cX6_integer 0 = .ok (.iconst 0, 1) := by decide +kernel
theorem dX6_integer_1 : decode cX6_integer 1 = .ok (.istore_n 1, 1) := by decide +kernel
theorem dX6_integer_2 : decode cX6_integer 2 = .ok (.aload_n 0, 1) := by decide +kernel
theorem dX6_integer_3 : decode cX6_integer 3 = .ok (.getfield 22, 3) := by decide +kernel
theorem dX6_integer_6 : decode cX6_integer 6 = .ok (.istore_n 2, 1) := by decide +kernel
theorem dX6_integer_7 : decode cX6_integer 7 = .ok (.iload_n 2, 1) := by decide +kernel
theorem dX6_integer_8 : decode cX6_integer 8 = .ok (.aload_n 0, 1) := by decide +kernel
theorem dX6_integer_9 : decode cX6_integer 9 = .ok (.getfield 19, 3) := by decide +kernel
theorem dX6_integer_12 : decode cX6_integer 12 = .ok (.if_icmp .ge 29, 3) := by decide +kernel
theorem dX6_integer_15 : decode cX6_integer 15 = .ok (.iload_n 1, 1) := by decide +kernel
theorem dX6_integer_16 : decode cX6_integer 16 = .ok (.bipush 10, 2) := by decide +kernel
theorem dX6_integer_18 : decode cX6_integer 18 = .ok (.imul, 1) := by decide +kernel
theorem dX6_integer_19 : decode cX6_integer 19 = .ok (.aload_n 0, 1) := by decide +kernel
theorem dX6_integer_20 : decode cX6_integer 20 = .ok (.getfield 9, 3) := by decide +kernel
theorem dX6_integer_23 : decode cX6_integer 23 = .ok (.iload_n 2, 1) := by decide +kernel
theorem dX6_integer_24 : decode cX6_integer 24 = .ok (.iaload, 1) := by decide +kernel
theorem dX6_integer_25 : decode cX6_integer 25 = .ok (.iadd, 1) := by decide +kernel
theorem dX6_integer_26 : decode cX6_integer 26 = .ok (.bipush 48, 2) := by decide +kernel
theorem dX6_integer_28 : decode cX6_integer 28 = .ok (.isub, 1) := by decide +kernel
theorem dX6_integer_29 : decode cX6_integer 29 = .ok (.ldc 72, 2) := by decide +kernel
theorem dX6_integer_31 : decode cX6_integer 31 = .ok (.invokestatic 28, 3) := by decide +kernel
theorem dX6_integer_34 : decode cX6_integer 34 = .ok (.istore_n 1, 1) := by decide +kernel
theorem dX6_integer_35 : decode cX6_integer 35 = .ok (.iinc 2 1, 3) := by decide +kernel
theorem dX6_integer_38 : decode cX6_integer 38 = .ok (.goto (-31), 3) := by decide +kernel
theorem dX6_integer_41 : decode cX6_integer 41 = .ok (.iload_n 1, 1) := by decide +kernel
theorem dX6_integer_42 : decode cX6_integer 42 = .ok (.ireturn, 1) := by decide +kernel
theorem dX7_init_0 : decode cX7_init 0 = .ok (.aload_n 0, 1) := by decide +kernel
theorem dX7_init_1 : decode cX7_init 1 = .ok (.invokespecial 3, 3) := by decide +kernel
theorem dX7_init_4 : decode cX7_init 4 = .ok (.aload_n 0, 1) := by decide +kernel
theorem dX7_init_5 : decode cX7_init 5 = .ok (.sipush 800, 3) := by decide +kernel
theorem dX7_init_8 : decode cX7_init 8 = .ok (.newarray .int, 2) := by decide +kernel
theorem dX7_init_10 : decode cX7_init 10 = .ok (.putfield 9, 3) := by decide +kernel
theorem dX7_init_13 : decode cX7_init 13 = .ok (.aload_n 0, 1) := by decide +kernel
theorem dX7_init_14 : decode cX7_init 14 = .ok (.new 13, 3) := by decide +kernel
theorem dX7_init_17 : decode cX7_init 17 = .ok (.dup, 1) := by decide +kernel
theorem dX7_init_18 : decode cX7_init 18 = .ok (.invokespecial 15, 3) := by decide +kernel
theorem dX7_init_21 : decode cX7_init 21 = .ok (.putfield 16, 3) := by decide +kernel
theorem dX7_init_24 : decode cX7_init 24 = .ok (.aload_n 0, 1) := by decide +kernel
theorem dX7_init_25 : decode cX7_init 25 = .ok (.new 20, 3) := by decide +kernel
theorem dX7_init_28 : decode cX7_init 28 = .ok (.dup, 1) := by decide +kernel
theorem dX7_init_29 : decode cX7_init 29 = .ok (.invokespecial 22, 3) := by decide +kernel
theorem dX7_init_32 : decode cX7_init 32 = .ok (.putfield 23, 3) := by decide +kernel
theorem dX7_init_35 : decode cX7_init 35 = .ok (.aload_n 0, 1) := by decide +kernel
theorem dX7_init_36 : decode cX7_init 36 = .ok (.new 27, 3) := by decide +kernel
theorem dX7_init_39 : decode cX7_init 39 = .ok (.dup, 1) := by decide +kernel
theorem dX7_init_40 : decode cX7_init 40 = .ok (.invokespecial 29, 3) := by decide +kernel
theorem dX7_init_43 : decode cX7_init 43 = .ok (.putfield 30, 3) := by decide +kernel
theorem dX7_init_46 : decode cX7_init 46 = .ok (.aload_n 0, 1) := by decide +kernel
theorem dX7_init_47 : decode cX7_init 47 = .ok (.iconst 5, 1) := by decide +kernel
theorem dX7_init_48 : decode cX7_init 48 = .ok (.newarray .int, 2) := by decide +kernel
theorem dX7_init_50 : decode cX7_init 50 = .ok (.putfield 34, 3) := by decide +kernel
theorem dX7_init_53 : decode cX7_init 53 = .ok (.aload_n 0, 1) := by decide +kernel
theorem dX7_init_54 : decode cX7_init 54 = .ok (.new 37, 3) := by decide +kernel
theorem dX7_init_57 : decode cX7_init 57 = .ok (.dup, 1) := by decide +kernel
theorem dX7_init_58 : decode cX7_init 58 = .ok (.invokespecial 39, 3) := by decide +kernel
theorem dX7_init_61 : decode cX7_init 61 = .ok (.putfield 40, 3) := by decide +kernel
theorem dX7_init_64 : decode cX7_init 64 = .ok (.aload_n 0, 1) := by decide +kernel
theorem dX7_init_65 : decode cX7_init 65 = .ok (.new 44, 3) := by decide +kernel
theorem dX7_init_68 : decode cX7_init 68 = .ok (.dup, 1) := by decide +kernel
theorem dX7_init_69 : decode cX7_init 69 = .ok (.invokespecial 46, 3) := by decide +kernel
theorem dX7_init_72 : decode cX7_init 72 = .ok (.putfield 47, 3) := by decide +kernel
theorem dX7_init_75 : decode cX7_init 75 = .ok (.aload_n 0, 1) := by decide +kernel
theorem dX7_init_76 : decode cX7_init 76 = .ok (.iconst 0, 1) := by decide +kernel
theorem dX7_init_77 : decode cX7_init 77 = .ok (.putfield 51, 3) := by decide +kernel
theorem dX7_init_80 : decode cX7_init 80 = .ok (.aload_n 0, 1) := by decide +kernel
theorem dX7_init_81 : decode cX7_init 81 = .ok (.iconst (-1), 1) := by decide +kernel
theorem dX7_init_82 : decode cX7_init 82 = .ok (.putfield 55, 3) := by decide +kernel
theorem dX7_init_85 : decode cX7_init 85 = .ok (.return_, 1) := by decide +kernel
theorem dX7_feed_0 : decode cX7_feed 0 = .ok (.aload_n 0, 1) := by decide +kernel
theorem dX7_feed_1 : decode cX7_feed 1 = .ok (.getfield 51, 3) := by decide +kernel
theorem dX7_feed_4 : decode cX7_feed 4 = .ok (.bipush 20, 2) := by decide +kernel
theorem dX7_feed_6 : decode cX7_feed 6 = .ok (.iadd, 1) := by decide +kernel
theorem dX7_feed_7 : decode cX7_feed 7 = .ok (.sipush 800, 3) := by decide +kernel
theorem dX7_feed_10 : decode cX7_feed 10 = .ok (.if_icmp .le 6, 3) := by decide +kernel
theorem dX7_feed_13 : decode cX7_feed 13 = .ok (.bipush (-3), 2) := by decide +kernel
theorem dX7_feed_15 : decode cX7_feed 15 = .ok (.ireturn, 1) := by decide +kernel
theorem dX7_feed_16 : decode cX7_feed 16 = .ok (.aload_n 0, 1) := by decide +kernel
theorem dX7_feed_17 : decode cX7_feed 17 = .ok (.iload_n 1, 1) := by decide +kernel
theorem dX7_feed_18 : decode cX7_feed 18 = .ok (.invokevirtual 58, 3) := by decide +kernel
theorem dX7_feed_21 : decode cX7_feed 21 = .ok (.aload_n 0, 1) := by decide +kernel
theorem dX7_feed_22 : decode cX7_feed 22 = .ok (.iload_n 2, 1) := by decide +kernel
theorem dX7_feed_23 : decode cX7_feed 23 = .ok (.invokevirtual 58, 3) := by decide +kernel
theorem dX7_feed_26 : decode cX7_feed 26 = .ok (.aload_n 0, 1) := by decide +kernel
theorem dX7_feed_27 : decode cX7_feed 27 = .ok (.iload_n 3, 1) := by decide +kernel
theorem dX7_feed_28 : decode cX7_feed 28 = .ok (.invokevirtual 58, 3) := by decide +kernel
theorem dX7_feed_31 : decode cX7_feed 31 = .ok (.aload_n 0, 1) := by decide +kernel
theorem dX7_feed_32 : decode cX7_feed 32 = .ok (.iload 4, 2) := by decide +kernel
theorem dX7_feed_34 : decode cX7_feed 34 = .ok (.invokevirtual 58, 3) := by decide +kernel
theorem dX7_feed_37 : decode cX7_feed 37 = .ok (.aload_n 0, 1) := by decide +kernel
theorem dX7_feed_38 : decode cX7_feed 38 = .ok (.iload 5, 2) := by decide +kernel
theorem dX7_feed_40 : decode cX7_feed 40 = .ok (.invokevirtual 58, 3) := by decide +kernel
theorem dX7_feed_43 : decode cX7_feed 43 = .ok (.aload_n 0, 1) := by decide +kernel
theorem dX7_feed_44 : decode cX7_feed 44 = .ok (.getfield 51, 3) := by decide +kernel
theorem dX7_feed_47 : decode cX7_feed 47 = .ok (.ireturn, 1) := by decide +kernel
theorem dX7_append_0 : decode cX7_append 0 = .ok (.bipush 24, 2) := by decide +kernel
theorem dX7_append_2 : decode cX7_append 2 = .ok (.istore_n 2, 1) := by decide +kernel
theorem dX7_append_3 : decode cX7_append 3 = .ok (.iload_n 2, 1) := by decide +kernel
theorem dX7_append_4 : decode cX7_append 4 = .ok (.ifCond .lt 45, 3) := by decide +kernel
theorem dX7_append_7 : decode cX7_append 7 = .ok (.aload_n 0, 1) := by decide +kernel
theorem dX7_append_8 : decode cX7_append 8 = .ok (.getfield 51, 3) := by decide +kernel
theorem dX7_append_11 : decode cX7_append 11 = .ok (.sipush 800, 3) := by decide +kernel
theorem dX7_append_14 : decode cX7_append 14 = .ok (.if_icmp .ge 35, 3) := by decide +kernel
theorem dX7_append_17 : decode cX7_append 17 = .ok (.aload_n 0, 1) := by decide +kernel
theorem dX7_append_18 : decode cX7_append 18 = .ok (.getfield 9, 3) := by decide +kernel
theorem dX7_append_21 : decode cX7_append 21 = .ok (.aload_n 0, 1) := by decide +kernel
theorem dX7_append_22 : decode cX7_append 22 = .ok (.getfield 51, 3) := by decide +kernel
theorem dX7_append_25 : decode cX7_append 25 = .ok (.iload_n 1, 1) := by decide +kernel
theorem dX7_append_26 : decode cX7_append 26 = .ok (.iload_n 2, 1) := by decide +kernel
theorem dX7_append_27 : decode cX7_append 27 = .ok (.iushr, 1) := by decide +kernel
theorem dX7_append_28 : decode cX7_append 28 = .ok (.sipush 255, 3) := by decide +kernel
theorem dX7_append_31 : decode cX7_append 31 = .ok (.iand, 1) := by decide +kernel
theorem dX7_append_32 : decode cX7_append 32 = .ok (.iastore, 1) := by decide +kernel
theorem dX7_append_33 : decode cX7_append 33 = .ok (.aload_n 0, 1) := by decide +kernel
theorem dX7_append_34 : decode cX7_append 34 = .ok (.dup, 1) := by decide +kernel
theorem dX7_append_35 : decode cX7_append 35 = .ok (.getfield 51, 3) := by decide +kernel
theorem dX7_append_38 : decode cX7_append 38 = .ok (.iconst 1, 1) := by decide +kernel
theorem dX7_append_39 : decode cX7_append 39 = .ok (.iadd, 1) := by decide +kernel
theorem dX7_append_40 : decode cX7_append 40 = .ok (.putfield 51, 3) := by decide +kernel
theorem dX7_append_43 : decode cX7_append 43 = .ok (.iinc 2 (-8), 3) := by decide +kernel
theorem dX7_append_46 : decode cX7_append 46 = .ok (.goto (-43), 3) := by decide +kernel
theorem dX7_append_49 : decode cX7_append 49 = .ok (.return_, 1) := by decide +kernel
theorem dX7_load_0 : decode cX7_load 0 = .ok (.iload_n 1, 1) := by decide +kernel
theorem dX7_load_1 : decode cX7_load 1 = .ok (.ifCond .lt 11, 3) := by decide +kernel
theorem dX7_load_4 : decode cX7_load 4 = .ok (.iload_n 1, 1) := by decide +kernel
theorem dX7_load_5 : decode cX7_load 5 = .ok (.aload_n 0, 1) := by decide +kernel
theorem dX7_load_6 : decode cX7_load 6 = .ok (.getfield 51, 3) := by decide +kernel
theorem dX7_load_9 : decode cX7_load 9 = .ok (.if_icmp .le 6, 3) := by decide +kernel
theorem dX7_load_12 : decode cX7_load 12 = .ok (.bipush (-2), 2) := by decide +kernel
theorem dX7_load_14 : decode cX7_load 14 = .ok (.ireturn, 1) := by decide +kernel
theorem dX7_load_15 : decode cX7_load 15 = .ok (.aload_n 0, 1) := by decide +kernel
theorem dX7_load_16 : decode cX7_load 16 = .ok (.iconst 0, 1) := by decide +kernel
theorem dX7_load_17 : decode cX7_load 17 = .ok (.putfield 51, 3) := by decide +kernel
theorem dX7_load_20 : decode cX7_load 20 = .ok (.aload_n 0, 1) := by decide +kernel
theorem dX7_load_21 : decode cX7_load 21 = .ok (.getfield 16, 3) := by decide +kernel
theorem dX7_load_24 : decode cX7_load 24 = .ok (.aload_n 0, 1) := by decide +kernel
theorem dX7_load_25 : decode cX7_load 25 = .ok (.getfield 9, 3) := by decide +kernel
theorem dX7_load_28 : decode cX7_load 28 = .ok (.iload_n 1, 1) := by decide +kernel
theorem dX7_load_29 : decode cX7_load 29 = .ok (.invokevirtual 62, 3) := by decide +kernel
theorem dX7_load_32 : decode cX7_load 32 = .ok (.istore_n 2, 1) := by decide +kernel
theorem dX7_load_33 : decode cX7_load 33 = .ok (.aload_n 0, 1) := by decide +kernel
theorem dX7_load_34 : decode cX7_load 34 = .ok (.aload_n 0, 1) := by decide +kernel
theorem dX7_load_35 : decode cX7_load 35 = .ok (.getfield 16, 3) := by decide +kernel
theorem dX7_load_38 : decode cX7_load 38 = .ok (.getfield 66, 3) := by decide +kernel
theorem dX7_load_41 : decode cX7_load 41 = .ok (.putfield 55, 3) := by decide +kernel
theorem dX7_load_44 : decode cX7_load 44 = .ok (.aload_n 0, 1) := by decide +kernel
theorem dX7_load_45 : decode cX7_load 45 = .ok (.getfield 16, 3) := by decide +kernel
theorem dX7_load_48 : decode cX7_load 48 = .ok (.getfield 67, 3) := by decide +kernel
theorem dX7_load_51 : decode cX7_load 51 = .ok (.ifCond .eq 11, 3) := by decide +kernel
theorem dX7_load_54 : decode cX7_load 54 = .ok (.aload_n 0, 1) := by decide +kernel
theorem dX7_load_55 : decode cX7_load 55 = .ok (.getfield 16, 3) := by decide +kernel
theorem dX7_load_58 : decode cX7_load 58 = .ok (.getfield 67, 3) := by decide +kernel
theorem dX7_load_61 : decode cX7_load 61 = .ok (.ireturn, 1) := by decide +kernel
theorem dX7_load_62 : decode cX7_load 62 = .ok (.aload_n 0, 1) := by decide +kernel
theorem dX7_load_63 : decode cX7_load 63 = .ok (.invokevirtual 70, 3) := by decide +kernel
theorem dX7_load_66 : decode cX7_load 66 = .ok (.aload_n 0, 1) := by decide +kernel
theorem dX7_load_67 : decode cX7_load 67 = .ok (.getfield 23, 3) := by decide +kernel
theorem dX7_load_70 : decode cX7_load 70 = .ok (.invokevirtual 73, 3) := by decide +kernel
theorem dX7_load_73 : decode cX7_load 73 = .ok (.aload_n 0, 1) := by decide +kernel
theorem dX7_load_74 : decode cX7_load 74 = .ok (.invokevirtual 76, 3) := by decide +kernel
theorem dX7_load_77 : decode cX7_load 77 = .ok (.iload_n 2, 1) := by decide +kernel
theorem dX7_load_78 : decode cX7_load 78 = .ok (.ireturn, 1) := by decide +kernel
theorem dX7_exchangeWithLoader_0 : decode cX7_exchangeWithLoader 0 = .ok (.aload_n 0, 1) := by decide +kernel
theorem dX7_exchangeWithLoader_1 : decode cX7_exchangeWithLoader 1 = .ok (.getfield 40, 3) := by decide +kernel
theorem dX7_exchangeWithLoader_4 : decode cX7_exchangeWithLoader 4 = .ok (.astore_n 1, 1) := by decide +kernel
theorem dX7_exchangeWithLoader_5 : decode cX7_exchangeWithLoader 5 = .ok (.aload_n 0, 1) := by decide +kernel
theorem dX7_exchangeWithLoader_6 : decode cX7_exchangeWithLoader 6 = .ok (.getfield 47, 3) := by decide +kernel
theorem dX7_exchangeWithLoader_9 : decode cX7_exchangeWithLoader 9 = .ok (.astore_n 2, 1) := by decide +kernel
theorem dX7_exchangeWithLoader_10 : decode cX7_exchangeWithLoader 10 = .ok (.aload_n 0, 1) := by decide +kernel
theorem dX7_exchangeWithLoader_11 : decode cX7_exchangeWithLoader 11 = .ok (.aload_n 0, 1) := by decide +kernel
theorem dX7_exchangeWithLoader_12 : decode cX7_exchangeWithLoader 12 = .ok (.getfield 16, 3) := by decide +kernel
theorem dX7_exchangeWithLoader_15 : decode cX7_exchangeWithLoader 15 = .ok (.getfield 79, 3) := by decide +kernel
theorem dX7_exchangeWithLoader_18 : decode cX7_exchangeWithLoader 18 = .ok (.putfield 40, 3) := by decide +kernel
theorem dX7_exchangeWithLoader_21 : decode cX7_exchangeWithLoader 21 = .ok (.aload_n 0, 1) := by decide +kernel
theorem dX7_exchangeWithLoader_22 : decode cX7_exchangeWithLoader 22 = .ok (.aload_n 0, 1) := by decide +kernel
theorem dX7_exchangeWithLoader_23 : decode cX7_exchangeWithLoader 23 = .ok (.getfield 16, 3) := by decide +kernel
theorem dX7_exchangeWithLoader_26 : decode cX7_exchangeWithLoader 26 = .ok (.getfield 80, 3) := by decide +kernel
theorem dX7_exchangeWithLoader_29 : decode cX7_exchangeWithLoader 29 = .ok (.putfield 47, 3) := by decide +kernel
theorem dX7_exchangeWithLoader_32 : decode cX7_exchangeWithLoader 32 = .ok (.aload_n 0, 1) := by decide +kernel
theorem dX7_exchangeWithLoader_33 : decode cX7_exchangeWithLoader 33 = .ok (.getfield 16, 3) := by decide +kernel
theorem dX7_exchangeWithLoader_36 : decode cX7_exchangeWithLoader 36 = .ok (.aload_n 1, 1) := by decide +kernel
theorem dX7_exchangeWithLoader_37 : decode cX7_exchangeWithLoader 37 = .ok (.putfield 79, 3) := by decide +kernel
theorem dX7_exchangeWithLoader_40 : decode cX7_exchangeWithLoader 40 = .ok (.aload_n 0, 1) := by decide +kernel
theorem dX7_exchangeWithLoader_41 : decode cX7_exchangeWithLoader 41 = .ok (.getfield 16, 3) := by decide +kernel
theorem dX7_exchangeWithLoader_44 : decode cX7_exchangeWithLoader 44 = .ok (.aload_n 2, 1) := by decide +kernel
theorem dX7_exchangeWithLoader_45 : decode cX7_exchangeWithLoader 45 = .ok (.putfield 80, 3) := by decide +kernel
theorem dX7_exchangeWithLoader_48 : decode cX7_exchangeWithLoader 48 = .ok (.return_, 1) := by decide +kernel
theorem dX7_errorPosition_0 : decode cX7_errorPosition 0 = .ok (.aload_n 0, 1) := by decide +kernel
theorem dX7_errorPosition_1 : decode cX7_errorPosition 1 = .ok (.getfield 55, 3) := by decide +kernel
theorem dX7_errorPosition_4 : decode cX7_errorPosition 4 = .ok (.ireturn, 1) := by decide +kernel
theorem dX7_groupCount_0 : decode cX7_groupCount 0 = .ok (.aload_n 0, 1) := by decide +kernel
theorem dX7_groupCount_1 : decode cX7_groupCount 1 = .ok (.getfield 40, 3) := by decide +kernel
theorem dX7_groupCount_4 : decode cX7_groupCount 4 = .ok (.getfield 81, 3) := by decide +kernel
theorem dX7_groupCount_7 : decode cX7_groupCount 7 = .ok (.ireturn, 1) := by decide +kernel
theorem dX7_goodCount_0 : decode cX7_goodCount 0 = .ok (.aload_n 0, 1) := by decide +kernel
theorem dX7_goodCount_1 : decode cX7_goodCount 1 = .ok (.getfield 40, 3) := by decide +kernel
theorem dX7_goodCount_4 : decode cX7_goodCount 4 = .ok (.getfield 84, 3) := by decide +kernel
theorem dX7_goodCount_7 : decode cX7_goodCount 7 = .ok (.ireturn, 1) := by decide +kernel
theorem dX7_houseCount_0 : decode cX7_houseCount 0 = .ok (.aload_n 0, 1) := by decide +kernel
theorem dX7_houseCount_1 : decode cX7_houseCount 1 = .ok (.getfield 40, 3) := by decide +kernel
theorem dX7_houseCount_4 : decode cX7_houseCount 4 = .ok (.getfield 87, 3) := by decide +kernel
theorem dX7_houseCount_7 : decode cX7_houseCount 7 = .ok (.ireturn, 1) := by decide +kernel
theorem dX7_shopCount_0 : decode cX7_shopCount 0 = .ok (.aload_n 0, 1) := by decide +kernel
theorem dX7_shopCount_1 : decode cX7_shopCount 1 = .ok (.getfield 40, 3) := by decide +kernel
theorem dX7_shopCount_4 : decode cX7_shopCount 4 = .ok (.getfield 90, 3) := by decide +kernel
theorem dX7_shopCount_7 : decode cX7_shopCount 7 = .ok (.ireturn, 1) := by decide +kernel
theorem dX7_undoCount_0 : decode cX7_undoCount 0 = .ok (.aload_n 0, 1) := by decide +kernel
theorem dX7_undoCount_1 : decode cX7_undoCount 1 = .ok (.getfield 23, 3) := by decide +kernel
theorem dX7_undoCount_4 : decode cX7_undoCount 4 = .ok (.getfield 93, 3) := by decide +kernel
theorem dX7_undoCount_7 : decode cX7_undoCount 7 = .ok (.ireturn, 1) := by decide +kernel
theorem dX7_period_0 : decode cX7_period 0 = .ok (.aload_n 0, 1) := by decide +kernel
theorem dX7_period_1 : decode cX7_period 1 = .ok (.getfield 47, 3) := by decide +kernel
theorem dX7_period_4 : decode cX7_period 4 = .ok (.getfield 96, 3) := by decide +kernel
theorem dX7_period_7 : decode cX7_period 7 = .ok (.ireturn, 1) := by decide +kernel
theorem dX7_groupNamed_0 : decode cX7_groupNamed 0 = .ok (.aload_n 0, 1) := by decide +kernel
theorem dX7_groupNamed_1 : decode cX7_groupNamed 1 = .ok (.getfield 40, 3) := by decide +kernel
theorem dX7_groupNamed_4 : decode cX7_groupNamed 4 = .ok (.getfield 99, 3) := by decide +kernel
theorem dX7_groupNamed_7 : decode cX7_groupNamed 7 = .ok (.aload_n 0, 1) := by decide +kernel
theorem dX7_groupNamed_8 : decode cX7_groupNamed 8 = .ok (.getfield 40, 3) := by decide +kernel
theorem dX7_groupNamed_11 : decode cX7_groupNamed 11 = .ok (.getfield 81, 3) := by decide +kernel
theorem dX7_groupNamed_14 : decode cX7_groupNamed 14 = .ok (.iload_n 1, 1) := by decide +kernel
theorem dX7_groupNamed_15 : decode cX7_groupNamed 15 = .ok (.invokestatic 102, 3) := by decide +kernel
theorem dX7_groupNamed_18 : decode cX7_groupNamed 18 = .ok (.ireturn, 1) := by decide +kernel
theorem dX7_goodNamed_0 : decode cX7_goodNamed 0 = .ok (.aload_n 0, 1) := by decide +kernel
theorem dX7_goodNamed_1 : decode cX7_goodNamed 1 = .ok (.getfield 40, 3) := by decide +kernel
theorem dX7_goodNamed_4 : decode cX7_goodNamed 4 = .ok (.getfield 106, 3) := by decide +kernel
theorem dX7_goodNamed_7 : decode cX7_goodNamed 7 = .ok (.aload_n 0, 1) := by decide +kernel
theorem dX7_goodNamed_8 : decode cX7_goodNamed 8 = .ok (.getfield 40, 3) := by decide +kernel
theorem dX7_goodNamed_11 : decode cX7_goodNamed 11 = .ok (.getfield 84, 3) := by decide +kernel
theorem dX7_goodNamed_14 : decode cX7_goodNamed 14 = .ok (.iload_n 1, 1) := by decide +kernel
theorem dX7_goodNamed_15 : decode cX7_goodNamed 15 = .ok (.invokestatic 102, 3) := by decide +kernel
theorem dX7_goodNamed_18 : decode cX7_goodNamed 18 = .ok (.ireturn, 1) := by decide +kernel
theorem dX7_houseNamed_0 : decode cX7_houseNamed 0 = .ok (.aload_n 0, 1) := by decide +kernel
theorem dX7_houseNamed_1 : decode cX7_houseNamed 1 = .ok (.getfield 40, 3) := by decide +kernel
theorem dX7_houseNamed_4 : decode cX7_houseNamed 4 = .ok (.getfield 109, 3) := by decide +kernel
theorem dX7_houseNamed_7 : decode cX7_houseNamed 7 = .ok (.aload_n 0, 1) := by decide +kernel
theorem dX7_houseNamed_8 : decode cX7_houseNamed 8 = .ok (.getfield 40, 3) := by decide +kernel
theorem dX7_houseNamed_11 : decode cX7_houseNamed 11 = .ok (.getfield 87, 3) := by decide +kernel
theorem dX7_houseNamed_14 : decode cX7_houseNamed 14 = .ok (.iload_n 1, 1) := by decide +kernel
theorem dX7_houseNamed_15 : decode cX7_houseNamed 15 = .ok (.invokestatic 102, 3) := by decide +kernel
theorem dX7_houseNamed_18 : decode cX7_houseNamed 18 = .ok (.ireturn, 1) := by decide +kernel
theorem dX7_shopNamed_0 : decode cX7_shopNamed 0 = .ok (.aload_n 0, 1) := by decide +kernel
theorem dX7_shopNamed_1 : decode cX7_shopNamed 1 = .ok (.getfield 40, 3) := by decide +kernel
theorem dX7_shopNamed_4 : decode cX7_shopNamed 4 = .ok (.getfield 112, 3) := by decide +kernel
theorem dX7_shopNamed_7 : decode cX7_shopNamed 7 = .ok (.aload_n 0, 1) := by decide +kernel
theorem dX7_shopNamed_8 : decode cX7_shopNamed 8 = .ok (.getfield 40, 3) := by decide +kernel
theorem dX7_shopNamed_11 : decode cX7_shopNamed 11 = .ok (.getfield 90, 3) := by decide +kernel
theorem dX7_shopNamed_14 : decode cX7_shopNamed 14 = .ok (.iload_n 1, 1) := by decide +kernel
theorem dX7_shopNamed_15 : decode cX7_shopNamed 15 = .ok (.invokestatic 102, 3) := by decide +kernel
theorem dX7_shopNamed_18 : decode cX7_shopNamed 18 = .ok (.ireturn, 1) := by decide +kernel
theorem dX7_groupProperty_0 : decode cX7_groupProperty 0 = .ok (.aload_n 0, 1) := by decide +kernel
theorem dX7_groupProperty_1 : decode cX7_groupProperty 1 = .ok (.iload_n 1, 1) := by decide +kernel
theorem dX7_groupProperty_2 : decode cX7_groupProperty 2 = .ok (.invokevirtual 115, 3) := by decide +kernel
theorem dX7_groupProperty_5 : decode cX7_groupProperty 5 = .ok (.invokestatic 119, 3) := by decide +kernel
theorem dX7_groupProperty_8 : decode cX7_groupProperty 8 = .ok (.iload_n 2, 1) := by decide +kernel
theorem dX7_groupProperty_9 : decode cX7_groupProperty 9 = .ok (.tableswitch 85 0 4 #[35, 45, 55, 65, 75], 35) := by decide +kernel
theorem dX7_groupProperty_44 : decode cX7_groupProperty 44 = .ok (.aload_n 0, 1) := by decide +kernel
theorem dX7_groupProperty_45 : decode cX7_groupProperty 45 = .ok (.getfield 47, 3) := by decide +kernel
theorem dX7_groupProperty_48 : decode cX7_groupProperty 48 = .ok (.getfield 123, 3) := by decide +kernel
theorem dX7_groupProperty_51 : decode cX7_groupProperty 51 = .ok (.iload_n 1, 1) := by decide +kernel
theorem dX7_groupProperty_52 : decode cX7_groupProperty 52 = .ok (.iaload, 1) := by decide +kernel
theorem dX7_groupProperty_53 : decode cX7_groupProperty 53 = .ok (.ireturn, 1) := by decide +kernel
theorem dX7_groupProperty_54 : decode cX7_groupProperty 54 = .ok (.aload_n 0, 1) := by decide +kernel
theorem dX7_groupProperty_55 : decode cX7_groupProperty 55 = .ok (.getfield 40, 3) := by decide +kernel
theorem dX7_groupProperty_58 : decode cX7_groupProperty 58 = .ok (.getfield 126, 3) := by decide +kernel
theorem dX7_groupProperty_61 : decode cX7_groupProperty 61 = .ok (.iload_n 1, 1) := by decide +kernel
theorem dX7_groupProperty_62 : decode cX7_groupProperty 62 = .ok (.iaload, 1) := by decide +kernel
theorem dX7_groupProperty_63 : decode cX7_groupProperty 63 = .ok (.ireturn, 1) := by decide +kernel
theorem dX7_groupProperty_64 : decode cX7_groupProperty 64 = .ok (.aload_n 0, 1) := by decide +kernel
theorem dX7_groupProperty_65 : decode cX7_groupProperty 65 = .ok (.getfield 40, 3) := by decide +kernel
theorem dX7_groupProperty_68 : decode cX7_groupProperty 68 = .ok (.getfield 129, 3) := by decide +kernel
theorem dX7_groupProperty_71 : decode cX7_groupProperty 71 = .ok (.iload_n 1, 1) := by decide +kernel
theorem dX7_groupProperty_72 : decode cX7_groupProperty 72 = .ok (.iaload, 1) := by decide +kernel
theorem dX7_groupProperty_73 : decode cX7_groupProperty 73 = .ok (.ireturn, 1) := by decide +kernel
theorem dX7_groupProperty_74 : decode cX7_groupProperty 74 = .ok (.aload_n 0, 1) := by decide +kernel
theorem dX7_groupProperty_75 : decode cX7_groupProperty 75 = .ok (.getfield 40, 3) := by decide +kernel
theorem dX7_groupProperty_78 : decode cX7_groupProperty 78 = .ok (.getfield 132, 3) := by decide +kernel
theorem dX7_groupProperty_81 : decode cX7_groupProperty 81 = .ok (.iload_n 1, 1) := by decide +kernel
theorem dX7_groupProperty_82 : decode cX7_groupProperty 82 = .ok (.iaload, 1) := by decide +kernel
theorem dX7_groupProperty_83 : decode cX7_groupProperty 83 = .ok (.ireturn, 1) := by decide +kernel
theorem dX7_groupProperty_84 : decode cX7_groupProperty 84 = .ok (.aload_n 0, 1) := by decide +kernel
theorem dX7_groupProperty_85 : decode cX7_groupProperty 85 = .ok (.getfield 40, 3) := by decide +kernel
theorem dX7_groupProperty_88 : decode cX7_groupProperty 88 = .ok (.getfield 135, 3) := by decide +kernel
theorem dX7_groupProperty_91 : decode cX7_groupProperty 91 = .ok (.iload_n 1, 1) := by decide +kernel
theorem dX7_groupProperty_92 : decode cX7_groupProperty 92 = .ok (.iaload, 1) := by decide +kernel
theorem dX7_groupProperty_93 : decode cX7_groupProperty 93 = .ok (.ireturn, 1) := by decide +kernel
theorem dX7_groupProperty_94 : decode cX7_groupProperty 94 = .ok (.bipush (-2), 2) := by decide +kernel
theorem dX7_groupProperty_96 : decode cX7_groupProperty 96 = .ok (.ireturn, 1) := by decide +kernel
theorem dX7_goodProperty_0 : decode cX7_goodProperty 0 = .ok (.aload_n 0, 1) := by decide +kernel
theorem dX7_goodProperty_1 : decode cX7_goodProperty 1 = .ok (.iload_n 1, 1) := by decide +kernel
theorem dX7_goodProperty_2 : decode cX7_goodProperty 2 = .ok (.invokevirtual 138, 3) := by decide +kernel
theorem dX7_goodProperty_5 : decode cX7_goodProperty 5 = .ok (.invokestatic 119, 3) := by decide +kernel
theorem dX7_goodProperty_8 : decode cX7_goodProperty 8 = .ok (.iload_n 2, 1) := by decide +kernel
theorem dX7_goodProperty_9 : decode cX7_goodProperty 9 = .ok (.tableswitch 57 0 2 #[27, 37, 47], 27) := by decide +kernel
theorem dX7_goodProperty_36 : decode cX7_goodProperty 36 = .ok (.aload_n 0, 1) := by decide +kernel
theorem dX7_goodProperty_37 : decode cX7_goodProperty 37 = .ok (.getfield 40, 3) := by decide +kernel
theorem dX7_goodProperty_40 : decode cX7_goodProperty 40 = .ok (.getfield 141, 3) := by decide +kernel
theorem dX7_goodProperty_43 : decode cX7_goodProperty 43 = .ok (.iload_n 1, 1) := by decide +kernel
theorem dX7_goodProperty_44 : decode cX7_goodProperty 44 = .ok (.iaload, 1) := by decide +kernel
theorem dX7_goodProperty_45 : decode cX7_goodProperty 45 = .ok (.ireturn, 1) := by decide +kernel
theorem dX7_goodProperty_46 : decode cX7_goodProperty 46 = .ok (.aload_n 0, 1) := by decide +kernel
theorem dX7_goodProperty_47 : decode cX7_goodProperty 47 = .ok (.getfield 40, 3) := by decide +kernel
theorem dX7_goodProperty_50 : decode cX7_goodProperty 50 = .ok (.getfield 144, 3) := by decide +kernel
theorem dX7_goodProperty_53 : decode cX7_goodProperty 53 = .ok (.iload_n 1, 1) := by decide +kernel
theorem dX7_goodProperty_54 : decode cX7_goodProperty 54 = .ok (.iaload, 1) := by decide +kernel
theorem dX7_goodProperty_55 : decode cX7_goodProperty 55 = .ok (.ireturn, 1) := by decide +kernel
theorem dX7_goodProperty_56 : decode cX7_goodProperty 56 = .ok (.aload_n 0, 1) := by decide +kernel
theorem dX7_goodProperty_57 : decode cX7_goodProperty 57 = .ok (.getfield 40, 3) := by decide +kernel
theorem dX7_goodProperty_60 : decode cX7_goodProperty 60 = .ok (.getfield 147, 3) := by decide +kernel
theorem dX7_goodProperty_63 : decode cX7_goodProperty 63 = .ok (.iload_n 1, 1) := by decide +kernel
theorem dX7_goodProperty_64 : decode cX7_goodProperty 64 = .ok (.iaload, 1) := by decide +kernel
theorem dX7_goodProperty_65 : decode cX7_goodProperty 65 = .ok (.ireturn, 1) := by decide +kernel
theorem dX7_goodProperty_66 : decode cX7_goodProperty 66 = .ok (.bipush (-2), 2) := by decide +kernel
theorem dX7_goodProperty_68 : decode cX7_goodProperty 68 = .ok (.ireturn, 1) := by decide +kernel
theorem dX7_sizeOf_0 : decode cX7_sizeOf 0 = .ok (.aload_n 0, 1) := by decide +kernel
theorem dX7_sizeOf_1 : decode cX7_sizeOf 1 = .ok (.iload_n 1, 1) := by decide +kernel
theorem dX7_sizeOf_2 : decode cX7_sizeOf 2 = .ok (.invokevirtual 150, 3) := by decide +kernel
theorem dX7_sizeOf_5 : decode cX7_sizeOf 5 = .ok (.invokestatic 119, 3) := by decide +kernel
theorem dX7_sizeOf_8 : decode cX7_sizeOf 8 = .ok (.aload_n 0, 1) := by decide +kernel
theorem dX7_sizeOf_9 : decode cX7_sizeOf 9 = .ok (.getfield 47, 3) := by decide +kernel
theorem dX7_sizeOf_12 : decode cX7_sizeOf 12 = .ok (.getfield 153, 3) := by decide +kernel
theorem dX7_sizeOf_15 : decode cX7_sizeOf 15 = .ok (.iload_n 1, 1) := by decide +kernel
theorem dX7_sizeOf_16 : decode cX7_sizeOf 16 = .ok (.iaload, 1) := by decide +kernel
theorem dX7_sizeOf_17 : decode cX7_sizeOf 17 = .ok (.ireturn, 1) := by decide +kernel
theorem dX7_getSetting_0 : decode cX7_getSetting 0 = .ok (.iload_n 1, 1) := by decide +kernel
theorem dX7_getSetting_1 : decode cX7_getSetting 1 = .ok (.invokestatic 156, 3) := by decide +kernel
theorem dX7_getSetting_4 : decode cX7_getSetting 4 = .ok (.ifCond .eq 15, 3) := by decide +kernel
theorem dX7_getSetting_7 : decode cX7_getSetting 7 = .ok (.aload_n 0, 1) := by decide +kernel
theorem dX7_getSetting_8 : decode cX7_getSetting 8 = .ok (.getfield 47, 3) := by decide +kernel
theorem dX7_getSetting_11 : decode cX7_getSetting 11 = .ok (.getfield 159, 3) := by decide +kernel
theorem dX7_getSetting_14 : decode cX7_getSetting 14 = .ok (.iload_n 1, 1) := by decide +kernel
theorem dX7_getSetting_15 : decode cX7_getSetting 15 = .ok (.iaload, 1) := by decide +kernel
theorem dX7_getSetting_16 : decode cX7_getSetting 16 = .ok (.goto 5, 3) := by decide +kernel
theorem dX7_getSetting_19 : decode cX7_getSetting 19 = .ok (.bipush (-2), 2) := by decide +kernel
theorem dX7_getSetting_21 : decode cX7_getSetting 21 = .ok (.ireturn, 1) := by decide +kernel
theorem dX7_coupons_0 : decode cX7_coupons 0 = .ok (.aload_n 0, 1) := by decide +kernel
theorem dX7_coupons_1 : decode cX7_coupons 1 = .ok (.iload_n 1, 1) := by decide +kernel
theorem dX7_coupons_2 : decode cX7_coupons 2 = .ok (.invokevirtual 150, 3) := by decide +kernel
theorem dX7_coupons_5 : decode cX7_coupons 5 = .ok (.ifCond .eq 15, 3) := by decide +kernel
theorem dX7_coupons_8 : decode cX7_coupons 8 = .ok (.aload_n 0, 1) := by decide +kernel
theorem dX7_coupons_9 : decode cX7_coupons 9 = .ok (.iload_n 2, 1) := by decide +kernel
theorem dX7_coupons_10 : decode cX7_coupons 10 = .ok (.invokevirtual 115, 3) := by decide +kernel
theorem dX7_coupons_13 : decode cX7_coupons 13 = .ok (.ifCond .eq 7, 3) := by decide +kernel
theorem dX7_coupons_16 : decode cX7_coupons 16 = .ok (.iconst 1, 1) := by decide +kernel
theorem dX7_coupons_17 : decode cX7_coupons 17 = .ok (.goto 4, 3) := by decide +kernel
theorem dX7_coupons_20 : decode cX7_coupons 20 = .ok (.iconst 0, 1) := by decide +kernel
theorem dX7_coupons_21 : decode cX7_coupons 21 = .ok (.invokestatic 119, 3) := by decide +kernel
theorem dX7_coupons_24 : decode cX7_coupons 24 = .ok (.aload_n 0, 1) := by decide +kernel
theorem dX7_coupons_25 : decode cX7_coupons 25 = .ok (.iload_n 1, 1) := by decide +kernel
theorem dX7_coupons_26 : decode cX7_coupons 26 = .ok (.iload_n 2, 1) := by decide +kernel
theorem dX7_coupons_27 : decode cX7_coupons 27 = .ok (.invokevirtual 162, 3) := by decide +kernel
theorem dX7_coupons_30 : decode cX7_coupons 30 = .ok (.ireturn, 1) := by decide +kernel
theorem dX7_couponsWith_0 : decode cX7_couponsWith 0 = .ok (.aload_n 0, 1) := by decide +kernel
theorem dX7_couponsWith_1 : decode cX7_couponsWith 1 = .ok (.iload_n 1, 1) := by decide +kernel
theorem dX7_couponsWith_2 : decode cX7_couponsWith 2 = .ok (.invokevirtual 150, 3) := by decide +kernel
theorem dX7_couponsWith_5 : decode cX7_couponsWith 5 = .ok (.ifCond .eq 15, 3) := by decide +kernel
theorem dX7_couponsWith_8 : decode cX7_couponsWith 8 = .ok (.aload_n 0, 1) := by decide +kernel
theorem dX7_couponsWith_9 : decode cX7_couponsWith 9 = .ok (.iload_n 2, 1) := by decide +kernel
theorem dX7_couponsWith_10 : decode cX7_couponsWith 10 = .ok (.invokevirtual 115, 3) := by decide +kernel
theorem dX7_couponsWith_13 : decode cX7_couponsWith 13 = .ok (.ifCond .eq 7, 3) := by decide +kernel
theorem dX7_couponsWith_16 : decode cX7_couponsWith 16 = .ok (.iconst 1, 1) := by decide +kernel
theorem dX7_couponsWith_17 : decode cX7_couponsWith 17 = .ok (.goto 4, 3) := by decide +kernel
theorem dX7_couponsWith_20 : decode cX7_couponsWith 20 = .ok (.iconst 0, 1) := by decide +kernel
theorem dX7_couponsWith_21 : decode cX7_couponsWith 21 = .ok (.invokestatic 119, 3) := by decide +kernel
theorem dX7_couponsWith_24 : decode cX7_couponsWith 24 = .ok (.iload_n 3, 1) := by decide +kernel
theorem dX7_couponsWith_25 : decode cX7_couponsWith 25 = .ok (.ifCond .lt 8, 3) := by decide +kernel
theorem dX7_couponsWith_28 : decode cX7_couponsWith 28 = .ok (.iload_n 3, 1) := by decide +kernel
theorem dX7_couponsWith_29 : decode cX7_couponsWith 29 = .ok (.iconst 4, 1) := by decide +kernel
theorem dX7_couponsWith_30 : decode cX7_couponsWith 30 = .ok (.if_icmp .le 6, 3) := by decide +kernel
theorem dX7_couponsWith_33 : decode cX7_couponsWith 33 = .ok (.bipush (-2), 2) := by decide +kernel
theorem dX7_couponsWith_35 : decode cX7_couponsWith 35 = .ok (.ireturn, 1) := by decide +kernel
theorem dX7_couponsWith_36 : decode cX7_couponsWith 36 = .ok (.aload_n 0, 1) := by decide +kernel
theorem dX7_couponsWith_37 : decode cX7_couponsWith 37 = .ok (.getfield 47, 3) := by decide +kernel
theorem dX7_couponsWith_40 : decode cX7_couponsWith 40 = .ok (.getfield 166, 3) := by decide +kernel
theorem dX7_couponsWith_43 : decode cX7_couponsWith 43 = .ok (.iload_n 1, 1) := by decide +kernel
theorem dX7_couponsWith_44 : decode cX7_couponsWith 44 = .ok (.iload_n 2, 1) := by decide +kernel
theorem dX7_couponsWith_45 : decode cX7_couponsWith 45 = .ok (.invokestatic 169, 3) := by decide +kernel
theorem dX7_couponsWith_48 : decode cX7_couponsWith 48 = .ok (.iload_n 3, 1) := by decide +kernel
theorem dX7_couponsWith_49 : decode cX7_couponsWith 49 = .ok (.iadd, 1) := by decide +kernel
theorem dX7_couponsWith_50 : decode cX7_couponsWith 50 = .ok (.iaload, 1) := by decide +kernel
theorem dX7_couponsWith_51 : decode cX7_couponsWith 51 = .ok (.ireturn, 1) := by decide +kernel
theorem dX7_lapsing_0 : decode cX7_lapsing 0 = .ok (.aload_n 0, 1) := by decide +kernel
theorem dX7_lapsing_1 : decode cX7_lapsing 1 = .ok (.iload_n 1, 1) := by decide +kernel
theorem dX7_lapsing_2 : decode cX7_lapsing 2 = .ok (.invokevirtual 150, 3) := by decide +kernel
theorem dX7_lapsing_5 : decode cX7_lapsing 5 = .ok (.ifCond .eq 15, 3) := by decide +kernel
theorem dX7_lapsing_8 : decode cX7_lapsing 8 = .ok (.aload_n 0, 1) := by decide +kernel
theorem dX7_lapsing_9 : decode cX7_lapsing 9 = .ok (.iload_n 2, 1) := by decide +kernel
theorem dX7_lapsing_10 : decode cX7_lapsing 10 = .ok (.invokevirtual 115, 3) := by decide +kernel
theorem dX7_lapsing_13 : decode cX7_lapsing 13 = .ok (.ifCond .eq 7, 3) := by decide +kernel
theorem dX7_lapsing_16 : decode cX7_lapsing 16 = .ok (.iconst 1, 1) := by decide +kernel
theorem dX7_lapsing_17 : decode cX7_lapsing 17 = .ok (.goto 4, 3) := by decide +kernel
theorem dX7_lapsing_20 : decode cX7_lapsing 20 = .ok (.iconst 0, 1) := by decide +kernel
theorem dX7_lapsing_21 : decode cX7_lapsing 21 = .ok (.invokestatic 119, 3) := by decide +kernel
theorem dX7_lapsing_24 : decode cX7_lapsing 24 = .ok (.aload_n 0, 1) := by decide +kernel
theorem dX7_lapsing_25 : decode cX7_lapsing 25 = .ok (.iload_n 1, 1) := by decide +kernel
theorem dX7_lapsing_26 : decode cX7_lapsing 26 = .ok (.iload_n 2, 1) := by decide +kernel
theorem dX7_lapsing_27 : decode cX7_lapsing 27 = .ok (.invokevirtual 172, 3) := by decide +kernel
theorem dX7_lapsing_30 : decode cX7_lapsing 30 = .ok (.aload_n 0, 1) := by decide +kernel
theorem dX7_lapsing_31 : decode cX7_lapsing 31 = .ok (.iload_n 1, 1) := by decide +kernel
theorem dX7_lapsing_32 : decode cX7_lapsing 32 = .ok (.iload_n 2, 1) := by decide +kernel
theorem dX7_lapsing_33 : decode cX7_lapsing 33 = .ok (.invokevirtual 176, 3) := by decide +kernel
theorem dX7_lapsing_36 : decode cX7_lapsing 36 = .ok (.ireturn, 1) := by decide +kernel
theorem dX7_couponsAfter_0 : decode cX7_couponsAfter 0 = .ok (.aload_n 0, 1) := by decide +kernel
theorem dX7_couponsAfter_1 : decode cX7_couponsAfter 1 = .ok (.iload_n 1, 1) := by decide +kernel
theorem dX7_couponsAfter_2 : decode cX7_couponsAfter 2 = .ok (.invokevirtual 150, 3) := by decide +kernel
theorem dX7_couponsAfter_5 : decode cX7_couponsAfter 5 = .ok (.ifCond .eq 15, 3) := by decide +kernel
theorem dX7_couponsAfter_8 : decode cX7_couponsAfter 8 = .ok (.aload_n 0, 1) := by decide +kernel
theorem dX7_couponsAfter_9 : decode cX7_couponsAfter 9 = .ok (.iload_n 2, 1) := by decide +kernel
theorem dX7_couponsAfter_10 : decode cX7_couponsAfter 10 = .ok (.invokevirtual 115, 3) := by decide +kernel
theorem dX7_couponsAfter_13 : decode cX7_couponsAfter 13 = .ok (.ifCond .eq 7, 3) := by decide +kernel
theorem dX7_couponsAfter_16 : decode cX7_couponsAfter 16 = .ok (.iconst 1, 1) := by decide +kernel
theorem dX7_couponsAfter_17 : decode cX7_couponsAfter 17 = .ok (.goto 4, 3) := by decide +kernel
theorem dX7_couponsAfter_20 : decode cX7_couponsAfter 20 = .ok (.iconst 0, 1) := by decide +kernel
theorem dX7_couponsAfter_21 : decode cX7_couponsAfter 21 = .ok (.invokestatic 119, 3) := by decide +kernel
theorem dX7_couponsAfter_24 : decode cX7_couponsAfter 24 = .ok (.iload_n 3, 1) := by decide +kernel
theorem dX7_couponsAfter_25 : decode cX7_couponsAfter 25 = .ok (.ifCond .lt 9, 3) := by decide +kernel
theorem dX7_couponsAfter_28 : decode cX7_couponsAfter 28 = .ok (.iload_n 3, 1) := by decide +kernel
theorem dX7_couponsAfter_29 : decode cX7_couponsAfter 29 = .ok (.bipush 50, 2) := by decide +kernel
theorem dX7_couponsAfter_31 : decode cX7_couponsAfter 31 = .ok (.if_icmp .le 6, 3) := by decide +kernel
theorem dX7_couponsAfter_34 : decode cX7_couponsAfter 34 = .ok (.bipush (-2), 2) := by decide +kernel
theorem dX7_couponsAfter_36 : decode cX7_couponsAfter 36 = .ok (.ireturn, 1) := by decide +kernel
theorem dX7_couponsAfter_37 : decode cX7_couponsAfter 37 = .ok (.aload_n 0, 1) := by decide +kernel
theorem dX7_couponsAfter_38 : decode cX7_couponsAfter 38 = .ok (.iload_n 1, 1) := by decide +kernel
theorem dX7_couponsAfter_39 : decode cX7_couponsAfter 39 = .ok (.iload_n 2, 1) := by decide +kernel
theorem dX7_couponsAfter_40 : decode cX7_couponsAfter 40 = .ok (.invokevirtual 172, 3) := by decide +kernel
theorem dX7_couponsAfter_43 : decode cX7_couponsAfter 43 = .ok (.iconst 0, 1) := by decide +kernel
theorem dX7_couponsAfter_44 : decode cX7_couponsAfter 44 = .ok (.istore 4, 2) := by decide +kernel
theorem dX7_couponsAfter_46 : decode cX7_couponsAfter 46 = .ok (.iload 4, 2) := by decide +kernel
theorem dX7_couponsAfter_48 : decode cX7_couponsAfter 48 = .ok (.iload_n 3, 1) := by decide +kernel
theorem dX7_couponsAfter_49 : decode cX7_couponsAfter 49 = .ok (.if_icmp .ge 16, 3) := by decide +kernel
theorem dX7_couponsAfter_52 : decode cX7_couponsAfter 52 = .ok (.aload_n 0, 1) := by decide +kernel
theorem dX7_couponsAfter_53 : decode cX7_couponsAfter 53 = .ok (.iload_n 1, 1) := by decide +kernel
theorem dX7_couponsAfter_54 : decode cX7_couponsAfter 54 = .ok (.iload_n 2, 1) := by decide +kernel
theorem dX7_couponsAfter_55 : decode cX7_couponsAfter 55 = .ok (.invokevirtual 176, 3) := by decide +kernel
theorem dX7_couponsAfter_58 : decode cX7_couponsAfter 58 = .ok (.pop, 1) := by decide +kernel
theorem dX7_couponsAfter_59 : decode cX7_couponsAfter 59 = .ok (.iinc 4 1, 3) := by decide +kernel
theorem dX7_couponsAfter_62 : decode cX7_couponsAfter 62 = .ok (.goto (-16), 3) := by decide +kernel
theorem dX7_couponsAfter_65 : decode cX7_couponsAfter 65 = .ok (.aload_n 0, 1) := by decide +kernel
theorem dX7_couponsAfter_66 : decode cX7_couponsAfter 66 = .ok (.getfield 34, 3) := by decide +kernel
theorem dX7_couponsAfter_69 : decode cX7_couponsAfter 69 = .ok (.iconst 0, 1) := by decide +kernel
theorem dX7_couponsAfter_70 : decode cX7_couponsAfter 70 = .ok (.invokestatic 179, 3) := by decide +kernel
theorem dX7_couponsAfter_73 : decode cX7_couponsAfter 73 = .ok (.ireturn, 1) := by decide +kernel
theorem dX7_neediest_0 : decode cX7_neediest 0 = .ok (.aload_n 0, 1) := by decide +kernel
theorem dX7_neediest_1 : decode cX7_neediest 1 = .ok (.iload_n 1, 1) := by decide +kernel
theorem dX7_neediest_2 : decode cX7_neediest 2 = .ok (.invokevirtual 115, 3) := by decide +kernel
theorem dX7_neediest_5 : decode cX7_neediest 5 = .ok (.invokestatic 119, 3) := by decide +kernel
theorem dX7_neediest_8 : decode cX7_neediest 8 = .ok (.iconst (-1), 1) := by decide +kernel
theorem dX7_neediest_9 : decode cX7_neediest 9 = .ok (.istore_n 2, 1) := by decide +kernel
theorem dX7_neediest_10 : decode cX7_neediest 10 = .ok (.iconst 0, 1) := by decide +kernel
theorem dX7_neediest_11 : decode cX7_neediest 11 = .ok (.istore_n 3, 1) := by decide +kernel
theorem dX7_neediest_12 : decode cX7_neediest 12 = .ok (.iload_n 3, 1) := by decide +kernel
theorem dX7_neediest_13 : decode cX7_neediest 13 = .ok (.aload_n 0, 1) := by decide +kernel
theorem dX7_neediest_14 : decode cX7_neediest 14 = .ok (.getfield 40, 3) := by decide +kernel
theorem dX7_neediest_17 : decode cX7_neediest 17 = .ok (.getfield 87, 3) := by decide +kernel
theorem dX7_neediest_20 : decode cX7_neediest 20 = .ok (.if_icmp .ge 25, 3) := by decide +kernel
theorem dX7_neediest_23 : decode cX7_neediest 23 = .ok (.iload_n 2, 1) := by decide +kernel
theorem dX7_neediest_24 : decode cX7_neediest 24 = .ok (.ifCond .lt 13, 3) := by decide +kernel
theorem dX7_neediest_27 : decode cX7_neediest 27 = .ok (.aload_n 0, 1) := by decide +kernel
theorem dX7_neediest_28 : decode cX7_neediest 28 = .ok (.iload_n 3, 1) := by decide +kernel
theorem dX7_neediest_29 : decode cX7_neediest 29 = .ok (.iload_n 2, 1) := by decide +kernel
theorem dX7_neediest_30 : decode cX7_neediest 30 = .ok (.iload_n 1, 1) := by decide +kernel
theorem dX7_neediest_31 : decode cX7_neediest 31 = .ok (.invokevirtual 184, 3) := by decide +kernel
theorem dX7_neediest_34 : decode cX7_neediest 34 = .ok (.ifCond .eq 5, 3) := by decide +kernel
theorem dX7_neediest_37 : decode cX7_neediest 37 = .ok (.iload_n 3, 1) := by decide +kernel
theorem dX7_neediest_38 : decode cX7_neediest 38 = .ok (.istore_n 2, 1) := by decide +kernel
theorem dX7_neediest_39 : decode cX7_neediest 39 = .ok (.iinc 3 1, 3) := by decide +kernel
theorem dX7_neediest_42 : decode cX7_neediest 42 = .ok (.goto (-30), 3) := by decide +kernel
theorem dX7_neediest_45 : decode cX7_neediest 45 = .ok (.iload_n 2, 1) := by decide +kernel
theorem dX7_neediest_46 : decode cX7_neediest 46 = .ok (.ireturn, 1) := by decide +kernel
theorem dX7_isNeedier_0 : decode cX7_isNeedier 0 = .ok (.aload_n 0, 1) := by decide +kernel
theorem dX7_isNeedier_1 : decode cX7_isNeedier 1 = .ok (.iload_n 1, 1) := by decide +kernel
theorem dX7_isNeedier_2 : decode cX7_isNeedier 2 = .ok (.iload_n 3, 1) := by decide +kernel
theorem dX7_isNeedier_3 : decode cX7_isNeedier 3 = .ok (.invokevirtual 162, 3) := by decide +kernel
theorem dX7_isNeedier_6 : decode cX7_isNeedier 6 = .ok (.aload_n 0, 1) := by decide +kernel
theorem dX7_isNeedier_7 : decode cX7_isNeedier 7 = .ok (.getfield 47, 3) := by decide +kernel
theorem dX7_isNeedier_10 : decode cX7_isNeedier 10 = .ok (.getfield 153, 3) := by decide +kernel
theorem dX7_isNeedier_13 : decode cX7_isNeedier 13 = .ok (.iload_n 2, 1) := by decide +kernel
theorem dX7_isNeedier_14 : decode cX7_isNeedier 14 = .ok (.iaload, 1) := by decide +kernel
theorem dX7_isNeedier_15 : decode cX7_isNeedier 15 = .ok (.imul, 1) := by decide +kernel
theorem dX7_isNeedier_16 : decode cX7_isNeedier 16 = .ok (.aload_n 0, 1) := by decide +kernel
theorem dX7_isNeedier_17 : decode cX7_isNeedier 17 = .ok (.iload_n 2, 1) := by decide +kernel
theorem dX7_isNeedier_18 : decode cX7_isNeedier 18 = .ok (.iload_n 3, 1) := by decide +kernel
theorem dX7_isNeedier_19 : decode cX7_isNeedier 19 = .ok (.invokevirtual 162, 3) := by decide +kernel
theorem dX7_isNeedier_22 : decode cX7_isNeedier 22 = .ok (.aload_n 0, 1) := by decide +kernel
theorem dX7_isNeedier_23 : decode cX7_isNeedier 23 = .ok (.getfield 47, 3) := by decide +kernel
theorem dX7_isNeedier_26 : decode cX7_isNeedier 26 = .ok (.getfield 153, 3) := by decide +kernel
theorem dX7_isNeedier_29 : decode cX7_isNeedier 29 = .ok (.iload_n 1, 1) := by decide +kernel
theorem dX7_isNeedier_30 : decode cX7_isNeedier 30 = .ok (.iaload, 1) := by decide +kernel
theorem dX7_isNeedier_31 : decode cX7_isNeedier 31 = .ok (.imul, 1) := by decide +kernel
theorem dX7_isNeedier_32 : decode cX7_isNeedier 32 = .ok (.if_icmp .ge 7, 3) := by decide +kernel
theorem dX7_isNeedier_35 : decode cX7_isNeedier 35 = .ok (.iconst 1, 1) := by decide +kernel
theorem dX7_isNeedier_36 : decode cX7_isNeedier 36 = .ok (.goto 4, 3) := by decide +kernel
theorem dX7_isNeedier_39 : decode cX7_isNeedier 39 = .ok (.iconst 0, 1) := by decide +kernel
theorem dX7_isNeedier_40 : decode cX7_isNeedier 40 = .ok (.ireturn, 1) := by decide +kernel
theorem dX7_givenBy_0 : decode cX7_givenBy 0 = .ok (.aload_n 0, 1) := by decide +kernel
theorem dX7_givenBy_1 : decode cX7_givenBy 1 = .ok (.iload_n 1, 1) := by decide +kernel
theorem dX7_givenBy_2 : decode cX7_givenBy 2 = .ok (.invokevirtual 150, 3) := by decide +kernel
theorem dX7_givenBy_5 : decode cX7_givenBy 5 = .ok (.invokestatic 119, 3) := by decide +kernel
theorem dX7_givenBy_8 : decode cX7_givenBy 8 = .ok (.aload_n 0, 1) := by decide +kernel
theorem dX7_givenBy_9 : decode cX7_givenBy 9 = .ok (.getfield 47, 3) := by decide +kernel
theorem dX7_givenBy_12 : decode cX7_givenBy 12 = .ok (.getfield 188, 3) := by decide +kernel
theorem dX7_givenBy_15 : decode cX7_givenBy 15 = .ok (.iload_n 1, 1) := by decide +kernel
theorem dX7_givenBy_16 : decode cX7_givenBy 16 = .ok (.iaload, 1) := by decide +kernel
theorem dX7_givenBy_17 : decode cX7_givenBy 17 = .ok (.ireturn, 1) := by decide +kernel
theorem dX7_takenBy_0 : decode cX7_takenBy 0 = .ok (.aload_n 0, 1) := by decide +kernel
theorem dX7_takenBy_1 : decode cX7_takenBy 1 = .ok (.iload_n 1, 1) := by decide +kernel
theorem dX7_takenBy_2 : decode cX7_takenBy 2 = .ok (.invokevirtual 150, 3) := by decide +kernel
theorem dX7_takenBy_5 : decode cX7_takenBy 5 = .ok (.invokestatic 119, 3) := by decide +kernel
theorem dX7_takenBy_8 : decode cX7_takenBy 8 = .ok (.aload_n 0, 1) := by decide +kernel
theorem dX7_takenBy_9 : decode cX7_takenBy 9 = .ok (.getfield 47, 3) := by decide +kernel
theorem dX7_takenBy_12 : decode cX7_takenBy 12 = .ok (.getfield 191, 3) := by decide +kernel
theorem dX7_takenBy_15 : decode cX7_takenBy 15 = .ok (.iload_n 1, 1) := by decide +kernel
theorem dX7_takenBy_16 : decode cX7_takenBy 16 = .ok (.iaload, 1) := by decide +kernel
theorem dX7_takenBy_17 : decode cX7_takenBy 17 = .ok (.ireturn, 1) := by decide +kernel
theorem dX7_tradeRoom_0 : decode cX7_tradeRoom 0 = .ok (.aload_n 0, 1) := by decide +kernel
theorem dX7_tradeRoom_1 : decode cX7_tradeRoom 1 = .ok (.iload_n 1, 1) := by decide +kernel
theorem dX7_tradeRoom_2 : decode cX7_tradeRoom 2 = .ok (.invokevirtual 150, 3) := by decide +kernel
theorem dX7_tradeRoom_5 : decode cX7_tradeRoom 5 = .ok (.ifCond .eq 23, 3) := by decide +kernel
theorem dX7_tradeRoom_8 : decode cX7_tradeRoom 8 = .ok (.aload_n 0, 1) := by decide +kernel
theorem dX7_tradeRoom_9 : decode cX7_tradeRoom 9 = .ok (.iload_n 2, 1) := by decide +kernel
theorem dX7_tradeRoom_10 : decode cX7_tradeRoom 10 = .ok (.invokevirtual 150, 3) := by decide +kernel
theorem dX7_tradeRoom_13 : decode cX7_tradeRoom 13 = .ok (.ifCond .eq 15, 3) := by decide +kernel
theorem dX7_tradeRoom_16 : decode cX7_tradeRoom 16 = .ok (.aload_n 0, 1) := by decide +kernel
theorem dX7_tradeRoom_17 : decode cX7_tradeRoom 17 = .ok (.iload_n 3, 1) := by decide +kernel
theorem dX7_tradeRoom_18 : decode cX7_tradeRoom 18 = .ok (.invokevirtual 115, 3) := by decide +kernel
theorem dX7_tradeRoom_21 : decode cX7_tradeRoom 21 = .ok (.ifCond .eq 7, 3) := by decide +kernel
theorem dX7_tradeRoom_24 : decode cX7_tradeRoom 24 = .ok (.iconst 1, 1) := by decide +kernel
theorem dX7_tradeRoom_25 : decode cX7_tradeRoom 25 = .ok (.goto 4, 3) := by decide +kernel
theorem dX7_tradeRoom_28 : decode cX7_tradeRoom 28 = .ok (.iconst 0, 1) := by decide +kernel
theorem dX7_tradeRoom_29 : decode cX7_tradeRoom 29 = .ok (.invokestatic 119, 3) := by decide +kernel
theorem dX7_tradeRoom_32 : decode cX7_tradeRoom 32 = .ok (.iload_n 1, 1) := by decide +kernel
theorem dX7_tradeRoom_33 : decode cX7_tradeRoom 33 = .ok (.iload_n 2, 1) := by decide +kernel
theorem dX7_tradeRoom_34 : decode cX7_tradeRoom 34 = .ok (.if_icmp .ne 5, 3) := by decide +kernel
theorem dX7_tradeRoom_37 : decode cX7_tradeRoom 37 = .ok (.iconst 0, 1) := by decide +kernel
theorem dX7_tradeRoom_38 : decode cX7_tradeRoom 38 = .ok (.ireturn, 1) := by decide +kernel
theorem dX7_tradeRoom_39 : decode cX7_tradeRoom 39 = .ok (.aload_n 0, 1) := by decide +kernel
theorem dX7_tradeRoom_40 : decode cX7_tradeRoom 40 = .ok (.iload_n 1, 1) := by decide +kernel
theorem dX7_tradeRoom_41 : decode cX7_tradeRoom 41 = .ok (.iload_n 3, 1) := by decide +kernel
theorem dX7_tradeRoom_42 : decode cX7_tradeRoom 42 = .ok (.invokevirtual 194, 3) := by decide +kernel
theorem dX7_tradeRoom_45 : decode cX7_tradeRoom 45 = .ok (.aload_n 0, 1) := by decide +kernel
theorem dX7_tradeRoom_46 : decode cX7_tradeRoom 46 = .ok (.iload_n 2, 1) := by decide +kernel
theorem dX7_tradeRoom_47 : decode cX7_tradeRoom 47 = .ok (.invokevirtual 197, 3) := by decide +kernel
theorem dX7_tradeRoom_50 : decode cX7_tradeRoom 50 = .ok (.invokestatic 201, 3) := by decide +kernel
theorem dX7_tradeRoom_53 : decode cX7_tradeRoom 53 = .ok (.ireturn, 1) := by decide +kernel
theorem dX7_helpers_0 : decode cX7_helpers 0 = .ok (.aload_n 0, 1) := by decide +kernel
theorem dX7_helpers_1 : decode cX7_helpers 1 = .ok (.iload_n 1, 1) := by decide +kernel
theorem dX7_helpers_2 : decode cX7_helpers 2 = .ok (.invokevirtual 150, 3) := by decide +kernel
theorem dX7_helpers_5 : decode cX7_helpers 5 = .ok (.ifCond .eq 15, 3) := by decide +kernel
theorem dX7_helpers_8 : decode cX7_helpers 8 = .ok (.aload_n 0, 1) := by decide +kernel
theorem dX7_helpers_9 : decode cX7_helpers 9 = .ok (.iload_n 2, 1) := by decide +kernel
theorem dX7_helpers_10 : decode cX7_helpers 10 = .ok (.invokevirtual 115, 3) := by decide +kernel
theorem dX7_helpers_13 : decode cX7_helpers 13 = .ok (.ifCond .eq 7, 3) := by decide +kernel
theorem dX7_helpers_16 : decode cX7_helpers 16 = .ok (.iconst 1, 1) := by decide +kernel
theorem dX7_helpers_17 : decode cX7_helpers 17 = .ok (.goto 4, 3) := by decide +kernel
theorem dX7_helpers_20 : decode cX7_helpers 20 = .ok (.iconst 0, 1) := by decide +kernel
theorem dX7_helpers_21 : decode cX7_helpers 21 = .ok (.invokestatic 119, 3) := by decide +kernel
theorem dX7_helpers_24 : decode cX7_helpers 24 = .ok (.iload_n 3, 1) := by decide +kernel
theorem dX7_helpers_25 : decode cX7_helpers 25 = .ok (.ifCond .lt 10, 3) := by decide +kernel
theorem dX7_helpers_28 : decode cX7_helpers 28 = .ok (.iload_n 3, 1) := by decide +kernel
theorem dX7_helpers_29 : decode cX7_helpers 29 = .ok (.sipush 9999, 3) := by decide +kernel
theorem dX7_helpers_32 : decode cX7_helpers 32 = .ok (.if_icmp .le 6, 3) := by decide +kernel
theorem dX7_helpers_35 : decode cX7_helpers 35 = .ok (.bipush (-2), 2) := by decide +kernel
theorem dX7_helpers_37 : decode cX7_helpers 37 = .ok (.ireturn, 1) := by decide +kernel
theorem dX7_helpers_38 : decode cX7_helpers 38 = .ok (.iload_n 3, 1) := by decide +kernel
theorem dX7_helpers_39 : decode cX7_helpers 39 = .ok (.aload_n 0, 1) := by decide +kernel
theorem dX7_helpers_40 : decode cX7_helpers 40 = .ok (.iload_n 1, 1) := by decide +kernel
theorem dX7_helpers_41 : decode cX7_helpers 41 = .ok (.iload_n 2, 1) := by decide +kernel
theorem dX7_helpers_42 : decode cX7_helpers 42 = .ok (.invokevirtual 162, 3) := by decide +kernel
theorem dX7_helpers_45 : decode cX7_helpers 45 = .ok (.isub, 1) := by decide +kernel
theorem dX7_helpers_46 : decode cX7_helpers 46 = .ok (.istore 4, 2) := by decide +kernel
theorem dX7_helpers_48 : decode cX7_helpers 48 = .ok (.iload 4, 2) := by decide +kernel
theorem dX7_helpers_50 : decode cX7_helpers 50 = .ok (.ifCond .gt 5, 3) := by decide +kernel
theorem dX7_helpers_53 : decode cX7_helpers 53 = .ok (.iconst 0, 1) := by decide +kernel
theorem dX7_helpers_54 : decode cX7_helpers 54 = .ok (.ireturn, 1) := by decide +kernel
theorem dX7_helpers_55 : decode cX7_helpers 55 = .ok (.iload 4, 2) := by decide +kernel
theorem dX7_helpers_57 : decode cX7_helpers 57 = .ok (.aload_n 0, 1) := by decide +kernel
theorem dX7_helpers_58 : decode cX7_helpers 58 = .ok (.iload_n 1, 1) := by decide +kernel
theorem dX7_helpers_59 : decode cX7_helpers 59 = .ok (.invokevirtual 197, 3) := by decide +kernel
theorem dX7_helpers_62 : decode cX7_helpers 62 = .ok (.if_icmp .gt 14, 3) := by decide +kernel
theorem dX7_helpers_65 : decode cX7_helpers 65 = .ok (.aload_n 0, 1) := by decide +kernel
theorem dX7_helpers_66 : decode cX7_helpers 66 = .ok (.iload_n 1, 1) := by decide +kernel
theorem dX7_helpers_67 : decode cX7_helpers 67 = .ok (.iload_n 2, 1) := by decide +kernel
theorem dX7_helpers_68 : decode cX7_helpers 68 = .ok (.iload 4, 2) := by decide +kernel
theorem dX7_helpers_70 : decode cX7_helpers 70 = .ok (.invokevirtual 206, 3) := by decide +kernel
theorem dX7_helpers_73 : decode cX7_helpers 73 = .ok (.goto 4, 3) := by decide +kernel
theorem dX7_helpers_76 : decode cX7_helpers 76 = .ok (.iconst (-1), 1) := by decide +kernel
theorem dX7_helpers_77 : decode cX7_helpers 77 = .ok (.ireturn, 1) := by decide +kernel
theorem dX7_fewestGivers_0 : decode cX7_fewestGivers 0 = .ok (.iconst 1, 1) := by decide +kernel
theorem dX7_fewestGivers_1 : decode cX7_fewestGivers 1 = .ok (.iload_n 1, 1) := by decide +kernel
theorem dX7_fewestGivers_2 : decode cX7_fewestGivers 2 = .ok (.ishl, 1) := by decide +kernel
theorem dX7_fewestGivers_3 : decode cX7_fewestGivers 3 = .ok (.istore 4, 2) := by decide +kernel
theorem dX7_fewestGivers_5 : decode cX7_fewestGivers 5 = .ok (.iload_n 3, 1) := by decide +kernel
theorem dX7_fewestGivers_6 : decode cX7_fewestGivers 6 = .ok (.istore 5, 2) := by decide +kernel
theorem dX7_fewestGivers_8 : decode cX7_fewestGivers 8 = .ok (.iconst 1, 1) := by decide +kernel
theorem dX7_fewestGivers_9 : decode cX7_fewestGivers 9 = .ok (.istore 6, 2) := by decide +kernel
theorem dX7_fewestGivers_11 : decode cX7_fewestGivers 11 = .ok (.iload 6, 2) := by decide +kernel
theorem dX7_fewestGivers_13 : decode cX7_fewestGivers 13 = .ok (.aload_n 0, 1) := by decide +kernel
theorem dX7_fewestGivers_14 : decode cX7_fewestGivers 14 = .ok (.getfield 40, 3) := by decide +kernel
theorem dX7_fewestGivers_17 : decode cX7_fewestGivers 17 = .ok (.getfield 87, 3) := by decide +kernel
theorem dX7_fewestGivers_20 : decode cX7_fewestGivers 20 = .ok (.if_icmp .ge 54, 3) := by decide +kernel
theorem dX7_fewestGivers_23 : decode cX7_fewestGivers 23 = .ok (.aload_n 0, 1) := by decide +kernel
theorem dX7_fewestGivers_24 : decode cX7_fewestGivers 24 = .ok (.iload_n 2, 1) := by decide +kernel
theorem dX7_fewestGivers_25 : decode cX7_fewestGivers 25 = .ok (.iload 4, 2) := by decide +kernel
theorem dX7_fewestGivers_27 : decode cX7_fewestGivers 27 = .ok (.invokevirtual 210, 3) := by decide +kernel
theorem dX7_fewestGivers_30 : decode cX7_fewestGivers 30 = .ok (.istore 7, 2) := by decide +kernel
theorem dX7_fewestGivers_32 : decode cX7_fewestGivers 32 = .ok (.iload 7, 2) := by decide +kernel
theorem dX7_fewestGivers_34 : decode cX7_fewestGivers 34 = .ok (.ifCond .ge 5, 3) := by decide +kernel
theorem dX7_fewestGivers_37 : decode cX7_fewestGivers 37 = .ok (.iconst (-1), 1) := by decide +kernel
theorem dX7_fewestGivers_38 : decode cX7_fewestGivers 38 = .ok (.ireturn, 1) := by decide +kernel
theorem dX7_fewestGivers_39 : decode cX7_fewestGivers 39 = .ok (.iload 4, 2) := by decide +kernel
theorem dX7_fewestGivers_41 : decode cX7_fewestGivers 41 = .ok (.iconst 1, 1) := by decide +kernel
theorem dX7_fewestGivers_42 : decode cX7_fewestGivers 42 = .ok (.iload 7, 2) := by decide +kernel
theorem dX7_fewestGivers_44 : decode cX7_fewestGivers 44 = .ok (.ishl, 1) := by decide +kernel
theorem dX7_fewestGivers_45 : decode cX7_fewestGivers 45 = .ok (.ior, 1) := by decide +kernel
theorem dX7_fewestGivers_46 : decode cX7_fewestGivers 46 = .ok (.istore 4, 2) := by decide +kernel
theorem dX7_fewestGivers_48 : decode cX7_fewestGivers 48 = .ok (.iload 5, 2) := by decide +kernel
theorem dX7_fewestGivers_50 : decode cX7_fewestGivers 50 = .ok (.aload_n 0, 1) := by decide +kernel
theorem dX7_fewestGivers_51 : decode cX7_fewestGivers 51 = .ok (.iload 7, 2) := by decide +kernel
theorem dX7_fewestGivers_53 : decode cX7_fewestGivers 53 = .ok (.iload_n 2, 1) := by decide +kernel
theorem dX7_fewestGivers_54 : decode cX7_fewestGivers 54 = .ok (.invokevirtual 194, 3) := by decide +kernel
theorem dX7_fewestGivers_57 : decode cX7_fewestGivers 57 = .ok (.isub, 1) := by decide +kernel
theorem dX7_fewestGivers_58 : decode cX7_fewestGivers 58 = .ok (.istore 5, 2) := by decide +kernel
theorem dX7_fewestGivers_60 : decode cX7_fewestGivers 60 = .ok (.iload 5, 2) := by decide +kernel
theorem dX7_fewestGivers_62 : decode cX7_fewestGivers 62 = .ok (.ifCond .gt 6, 3) := by decide +kernel
theorem dX7_fewestGivers_65 : decode cX7_fewestGivers 65 = .ok (.iload 6, 2) := by decide +kernel
theorem dX7_fewestGivers_67 : decode cX7_fewestGivers 67 = .ok (.ireturn, 1) := by decide +kernel
theorem dX7_fewestGivers_68 : decode cX7_fewestGivers 68 = .ok (.iinc 6 1, 3) := by decide +kernel
theorem dX7_fewestGivers_71 : decode cX7_fewestGivers 71 = .ok (.goto (-60), 3) := by decide +kernel
theorem dX7_fewestGivers_74 : decode cX7_fewestGivers 74 = .ok (.iconst (-1), 1) := by decide +kernel
theorem dX7_fewestGivers_75 : decode cX7_fewestGivers 75 = .ok (.ireturn, 1) := by decide +kernel
theorem dX7_bestGiver_0 : decode cX7_bestGiver 0 = .ok (.iconst (-1), 1) := by decide +kernel
theorem dX7_bestGiver_1 : decode cX7_bestGiver 1 = .ok (.istore_n 3, 1) := by decide +kernel
theorem dX7_bestGiver_2 : decode cX7_bestGiver 2 = .ok (.iconst 0, 1) := by decide +kernel
theorem dX7_bestGiver_3 : decode cX7_bestGiver 3 = .ok (.istore 4, 2) := by decide +kernel
theorem dX7_bestGiver_5 : decode cX7_bestGiver 5 = .ok (.iload 4, 2) := by decide +kernel
theorem dX7_bestGiver_7 : decode cX7_bestGiver 7 = .ok (.aload_n 0, 1) := by decide +kernel
theorem dX7_bestGiver_8 : decode cX7_bestGiver 8 = .ok (.getfield 40, 3) := by decide +kernel
theorem dX7_bestGiver_11 : decode cX7_bestGiver 11 = .ok (.getfield 87, 3) := by decide +kernel
theorem dX7_bestGiver_14 : decode cX7_bestGiver 14 = .ok (.if_icmp .ge 53, 3) := by decide +kernel
theorem dX7_bestGiver_17 : decode cX7_bestGiver 17 = .ok (.iload_n 2, 1) := by decide +kernel
theorem dX7_bestGiver_18 : decode cX7_bestGiver 18 = .ok (.iconst 1, 1) := by decide +kernel
theorem dX7_bestGiver_19 : decode cX7_bestGiver 19 = .ok (.iload 4, 2) := by decide +kernel
theorem dX7_bestGiver_21 : decode cX7_bestGiver 21 = .ok (.ishl, 1) := by decide +kernel
theorem dX7_bestGiver_22 : decode cX7_bestGiver 22 = .ok (.iand, 1) := by decide +kernel
theorem dX7_bestGiver_23 : decode cX7_bestGiver 23 = .ok (.ifCond .ne 7, 3) := by decide +kernel
theorem dX7_bestGiver_26 : decode cX7_bestGiver 26 = .ok (.iconst 1, 1) := by decide +kernel
theorem dX7_bestGiver_27 : decode cX7_bestGiver 27 = .ok (.goto 4, 3) := by decide +kernel
theorem dX7_bestGiver_30 : decode cX7_bestGiver 30 = .ok (.iconst 0, 1) := by decide +kernel
theorem dX7_bestGiver_31 : decode cX7_bestGiver 31 = .ok (.istore 5, 2) := by decide +kernel
theorem dX7_bestGiver_33 : decode cX7_bestGiver 33 = .ok (.iload 5, 2) := by decide +kernel
theorem dX7_bestGiver_35 : decode cX7_bestGiver 35 = .ok (.ifCond .eq 26, 3) := by decide +kernel
theorem dX7_bestGiver_38 : decode cX7_bestGiver 38 = .ok (.iload_n 3, 1) := by decide +kernel
theorem dX7_bestGiver_39 : decode cX7_bestGiver 39 = .ok (.ifCond .lt 19, 3) := by decide +kernel
theorem dX7_bestGiver_42 : decode cX7_bestGiver 42 = .ok (.aload_n 0, 1) := by decide +kernel
theorem dX7_bestGiver_43 : decode cX7_bestGiver 43 = .ok (.iload 4, 2) := by decide +kernel
theorem dX7_bestGiver_45 : decode cX7_bestGiver 45 = .ok (.iload_n 1, 1) := by decide +kernel
theorem dX7_bestGiver_46 : decode cX7_bestGiver 46 = .ok (.invokevirtual 194, 3) := by decide +kernel
theorem dX7_bestGiver_49 : decode cX7_bestGiver 49 = .ok (.aload_n 0, 1) := by decide +kernel
theorem dX7_bestGiver_50 : decode cX7_bestGiver 50 = .ok (.iload_n 3, 1) := by decide +kernel
theorem dX7_bestGiver_51 : decode cX7_bestGiver 51 = .ok (.iload_n 1, 1) := by decide +kernel
theorem dX7_bestGiver_52 : decode cX7_bestGiver 52 = .ok (.invokevirtual 194, 3) := by decide +kernel
theorem dX7_bestGiver_55 : decode cX7_bestGiver 55 = .ok (.if_icmp .le 6, 3) := by decide +kernel
theorem dX7_bestGiver_58 : decode cX7_bestGiver 58 = .ok (.iload 4, 2) := by decide +kernel
theorem dX7_bestGiver_60 : decode cX7_bestGiver 60 = .ok (.istore_n 3, 1) := by decide +kernel
theorem dX7_bestGiver_61 : decode cX7_bestGiver 61 = .ok (.iinc 4 1, 3) := by decide +kernel
theorem dX7_bestGiver_64 : decode cX7_bestGiver 64 = .ok (.goto (-59), 3) := by decide +kernel
theorem dX7_bestGiver_67 : decode cX7_bestGiver 67 = .ok (.iload_n 3, 1) := by decide +kernel
theorem dX7_bestGiver_68 : decode cX7_bestGiver 68 = .ok (.ireturn, 1) := by decide +kernel
theorem dX7_stockOf_0 : decode cX7_stockOf 0 = .ok (.aload_n 0, 1) := by decide +kernel
theorem dX7_stockOf_1 : decode cX7_stockOf 1 = .ok (.iload_n 1, 1) := by decide +kernel
theorem dX7_stockOf_2 : decode cX7_stockOf 2 = .ok (.invokevirtual 213, 3) := by decide +kernel
theorem dX7_stockOf_5 : decode cX7_stockOf 5 = .ok (.ifCond .eq 15, 3) := by decide +kernel
theorem dX7_stockOf_8 : decode cX7_stockOf 8 = .ok (.aload_n 0, 1) := by decide +kernel
theorem dX7_stockOf_9 : decode cX7_stockOf 9 = .ok (.iload_n 2, 1) := by decide +kernel
theorem dX7_stockOf_10 : decode cX7_stockOf 10 = .ok (.invokevirtual 138, 3) := by decide +kernel
theorem dX7_stockOf_13 : decode cX7_stockOf 13 = .ok (.ifCond .eq 7, 3) := by decide +kernel
theorem dX7_stockOf_16 : decode cX7_stockOf 16 = .ok (.iconst 1, 1) := by decide +kernel
theorem dX7_stockOf_17 : decode cX7_stockOf 17 = .ok (.goto 4, 3) := by decide +kernel
theorem dX7_stockOf_20 : decode cX7_stockOf 20 = .ok (.iconst 0, 1) := by decide +kernel
theorem dX7_stockOf_21 : decode cX7_stockOf 21 = .ok (.invokestatic 119, 3) := by decide +kernel
theorem dX7_stockOf_24 : decode cX7_stockOf 24 = .ok (.aload_n 0, 1) := by decide +kernel
theorem dX7_stockOf_25 : decode cX7_stockOf 25 = .ok (.getfield 47, 3) := by decide +kernel
theorem dX7_stockOf_28 : decode cX7_stockOf 28 = .ok (.getfield 216, 3) := by decide +kernel
theorem dX7_stockOf_31 : decode cX7_stockOf 31 = .ok (.iload_n 1, 1) := by decide +kernel
theorem dX7_stockOf_32 : decode cX7_stockOf 32 = .ok (.iload_n 2, 1) := by decide +kernel
theorem dX7_stockOf_33 : decode cX7_stockOf 33 = .ok (.invokestatic 219, 3) := by decide +kernel
theorem dX7_stockOf_36 : decode cX7_stockOf 36 = .ok (.iaload, 1) := by decide +kernel
theorem dX7_stockOf_37 : decode cX7_stockOf 37 = .ok (.ireturn, 1) := by decide +kernel
theorem dX7_accountOf_0 : decode cX7_accountOf 0 = .ok (.aload_n 0, 1) := by decide +kernel
theorem dX7_accountOf_1 : decode cX7_accountOf 1 = .ok (.iload_n 1, 1) := by decide +kernel
theorem dX7_accountOf_2 : decode cX7_accountOf 2 = .ok (.invokevirtual 213, 3) := by decide +kernel
theorem dX7_accountOf_5 : decode cX7_accountOf 5 = .ok (.ifCond .eq 15, 3) := by decide +kernel
theorem dX7_accountOf_8 : decode cX7_accountOf 8 = .ok (.aload_n 0, 1) := by decide +kernel
theorem dX7_accountOf_9 : decode cX7_accountOf 9 = .ok (.iload_n 2, 1) := by decide +kernel
theorem dX7_accountOf_10 : decode cX7_accountOf 10 = .ok (.invokevirtual 115, 3) := by decide +kernel
theorem dX7_accountOf_13 : decode cX7_accountOf 13 = .ok (.ifCond .eq 7, 3) := by decide +kernel
theorem dX7_accountOf_16 : decode cX7_accountOf 16 = .ok (.iconst 1, 1) := by decide +kernel
theorem dX7_accountOf_17 : decode cX7_accountOf 17 = .ok (.goto 4, 3) := by decide +kernel
theorem dX7_accountOf_20 : decode cX7_accountOf 20 = .ok (.iconst 0, 1) := by decide +kernel
theorem dX7_accountOf_21 : decode cX7_accountOf 21 = .ok (.invokestatic 119, 3) := by decide +kernel
theorem dX7_accountOf_24 : decode cX7_accountOf 24 = .ok (.aload_n 0, 1) := by decide +kernel
theorem dX7_accountOf_25 : decode cX7_accountOf 25 = .ok (.getfield 47, 3) := by decide +kernel
theorem dX7_accountOf_28 : decode cX7_accountOf 28 = .ok (.getfield 222, 3) := by decide +kernel
theorem dX7_accountOf_31 : decode cX7_accountOf 31 = .ok (.iload_n 1, 1) := by decide +kernel
theorem dX7_accountOf_32 : decode cX7_accountOf 32 = .ok (.iload_n 2, 1) := by decide +kernel
theorem dX7_accountOf_33 : decode cX7_accountOf 33 = .ok (.invokestatic 225, 3) := by decide +kernel
theorem dX7_accountOf_36 : decode cX7_accountOf 36 = .ok (.iaload, 1) := by decide +kernel
theorem dX7_accountOf_37 : decode cX7_accountOf 37 = .ok (.ireturn, 1) := by decide +kernel
theorem dX7_penaltyOf_0 : decode cX7_penaltyOf 0 = .ok (.aload_n 0, 1) := by decide +kernel
theorem dX7_penaltyOf_1 : decode cX7_penaltyOf 1 = .ok (.iload_n 1, 1) := by decide +kernel
theorem dX7_penaltyOf_2 : decode cX7_penaltyOf 2 = .ok (.invokevirtual 213, 3) := by decide +kernel
theorem dX7_penaltyOf_5 : decode cX7_penaltyOf 5 = .ok (.invokestatic 119, 3) := by decide +kernel
theorem dX7_penaltyOf_8 : decode cX7_penaltyOf 8 = .ok (.aload_n 0, 1) := by decide +kernel
theorem dX7_penaltyOf_9 : decode cX7_penaltyOf 9 = .ok (.getfield 47, 3) := by decide +kernel
theorem dX7_penaltyOf_12 : decode cX7_penaltyOf 12 = .ok (.getfield 228, 3) := by decide +kernel
theorem dX7_penaltyOf_15 : decode cX7_penaltyOf 15 = .ok (.iload_n 1, 1) := by decide +kernel
theorem dX7_penaltyOf_16 : decode cX7_penaltyOf 16 = .ok (.iaload, 1) := by decide +kernel
theorem dX7_penaltyOf_17 : decode cX7_penaltyOf 17 = .ok (.ireturn, 1) := by decide +kernel
theorem dX7_isSuspended_0 : decode cX7_isSuspended 0 = .ok (.aload_n 0, 1) := by decide +kernel
theorem dX7_isSuspended_1 : decode cX7_isSuspended 1 = .ok (.iload_n 1, 1) := by decide +kernel
theorem dX7_isSuspended_2 : decode cX7_isSuspended 2 = .ok (.invokevirtual 213, 3) := by decide +kernel
theorem dX7_isSuspended_5 : decode cX7_isSuspended 5 = .ok (.invokestatic 119, 3) := by decide +kernel
theorem dX7_isSuspended_8 : decode cX7_isSuspended 8 = .ok (.aload_n 0, 1) := by decide +kernel
theorem dX7_isSuspended_9 : decode cX7_isSuspended 9 = .ok (.iload_n 1, 1) := by decide +kernel
theorem dX7_isSuspended_10 : decode cX7_isSuspended 10 = .ok (.invokevirtual 231, 3) := by decide +kernel
theorem dX7_isSuspended_13 : decode cX7_isSuspended 13 = .ok (.ireturn, 1) := by decide +kernel
theorem dX7_soldBy_0 : decode cX7_soldBy 0 = .ok (.aload_n 0, 1) := by decide +kernel
theorem dX7_soldBy_1 : decode cX7_soldBy 1 = .ok (.iload_n 1, 1) := by decide +kernel
theorem dX7_soldBy_2 : decode cX7_soldBy 2 = .ok (.invokevirtual 213, 3) := by decide +kernel
theorem dX7_soldBy_5 : decode cX7_soldBy 5 = .ok (.ifCond .eq 15, 3) := by decide +kernel
theorem dX7_soldBy_8 : decode cX7_soldBy 8 = .ok (.aload_n 0, 1) := by decide +kernel
theorem dX7_soldBy_9 : decode cX7_soldBy 9 = .ok (.iload_n 2, 1) := by decide +kernel
theorem dX7_soldBy_10 : decode cX7_soldBy 10 = .ok (.invokevirtual 138, 3) := by decide +kernel
theorem dX7_soldBy_13 : decode cX7_soldBy 13 = .ok (.ifCond .eq 7, 3) := by decide +kernel
theorem dX7_soldBy_16 : decode cX7_soldBy 16 = .ok (.iconst 1, 1) := by decide +kernel
theorem dX7_soldBy_17 : decode cX7_soldBy 17 = .ok (.goto 4, 3) := by decide +kernel
theorem dX7_soldBy_20 : decode cX7_soldBy 20 = .ok (.iconst 0, 1) := by decide +kernel
theorem dX7_soldBy_21 : decode cX7_soldBy 21 = .ok (.invokestatic 119, 3) := by decide +kernel
theorem dX7_soldBy_24 : decode cX7_soldBy 24 = .ok (.aload_n 0, 1) := by decide +kernel
theorem dX7_soldBy_25 : decode cX7_soldBy 25 = .ok (.getfield 47, 3) := by decide +kernel
theorem dX7_soldBy_28 : decode cX7_soldBy 28 = .ok (.getfield 234, 3) := by decide +kernel
theorem dX7_soldBy_31 : decode cX7_soldBy 31 = .ok (.iload_n 1, 1) := by decide +kernel
theorem dX7_soldBy_32 : decode cX7_soldBy 32 = .ok (.iload_n 2, 1) := by decide +kernel
theorem dX7_soldBy_33 : decode cX7_soldBy 33 = .ok (.invokestatic 219, 3) := by decide +kernel
theorem dX7_soldBy_36 : decode cX7_soldBy 36 = .ok (.iaload, 1) := by decide +kernel
theorem dX7_soldBy_37 : decode cX7_soldBy 37 = .ok (.ireturn, 1) := by decide +kernel
theorem dX7_deliveredTo_0 : decode cX7_deliveredTo 0 = .ok (.aload_n 0, 1) := by decide +kernel
theorem dX7_deliveredTo_1 : decode cX7_deliveredTo 1 = .ok (.iload_n 1, 1) := by decide +kernel
theorem dX7_deliveredTo_2 : decode cX7_deliveredTo 2 = .ok (.invokevirtual 213, 3) := by decide +kernel
theorem dX7_deliveredTo_5 : decode cX7_deliveredTo 5 = .ok (.ifCond .eq 15, 3) := by decide +kernel
theorem dX7_deliveredTo_8 : decode cX7_deliveredTo 8 = .ok (.aload_n 0, 1) := by decide +kernel
theorem dX7_deliveredTo_9 : decode cX7_deliveredTo 9 = .ok (.iload_n 2, 1) := by decide +kernel
theorem dX7_deliveredTo_10 : decode cX7_deliveredTo 10 = .ok (.invokevirtual 138, 3) := by decide +kernel
theorem dX7_deliveredTo_13 : decode cX7_deliveredTo 13 = .ok (.ifCond .eq 7, 3) := by decide +kernel
theorem dX7_deliveredTo_16 : decode cX7_deliveredTo 16 = .ok (.iconst 1, 1) := by decide +kernel
theorem dX7_deliveredTo_17 : decode cX7_deliveredTo 17 = .ok (.goto 4, 3) := by decide +kernel
theorem dX7_deliveredTo_20 : decode cX7_deliveredTo 20 = .ok (.iconst 0, 1) := by decide +kernel
theorem dX7_deliveredTo_21 : decode cX7_deliveredTo 21 = .ok (.invokestatic 119, 3) := by decide +kernel
theorem dX7_deliveredTo_24 : decode cX7_deliveredTo 24 = .ok (.aload_n 0, 1) := by decide +kernel
theorem dX7_deliveredTo_25 : decode cX7_deliveredTo 25 = .ok (.getfield 47, 3) := by decide +kernel
theorem dX7_deliveredTo_28 : decode cX7_deliveredTo 28 = .ok (.getfield 237, 3) := by decide +kernel
theorem dX7_deliveredTo_31 : decode cX7_deliveredTo 31 = .ok (.iload_n 1, 1) := by decide +kernel
theorem dX7_deliveredTo_32 : decode cX7_deliveredTo 32 = .ok (.iload_n 2, 1) := by decide +kernel
theorem dX7_deliveredTo_33 : decode cX7_deliveredTo 33 = .ok (.invokestatic 219, 3) := by decide +kernel
theorem dX7_deliveredTo_36 : decode cX7_deliveredTo 36 = .ok (.iaload, 1) := by decide +kernel
theorem dX7_deliveredTo_37 : decode cX7_deliveredTo 37 = .ok (.ireturn, 1) := by decide +kernel
theorem dX7_turnover_0 : decode cX7_turnover 0 = .ok (.aload_n 0, 1) := by decide +kernel
theorem dX7_turnover_1 : decode cX7_turnover 1 = .ok (.iload_n 1, 1) := by decide +kernel
theorem dX7_turnover_2 : decode cX7_turnover 2 = .ok (.invokevirtual 213, 3) := by decide +kernel
theorem dX7_turnover_5 : decode cX7_turnover 5 = .ok (.invokestatic 119, 3) := by decide +kernel
theorem dX7_turnover_8 : decode cX7_turnover 8 = .ok (.iconst 0, 1) := by decide +kernel
theorem dX7_turnover_9 : decode cX7_turnover 9 = .ok (.istore_n 2, 1) := by decide +kernel
theorem dX7_turnover_10 : decode cX7_turnover 10 = .ok (.iconst 0, 1) := by decide +kernel
theorem dX7_turnover_11 : decode cX7_turnover 11 = .ok (.istore_n 3, 1) := by decide +kernel
theorem dX7_turnover_12 : decode cX7_turnover 12 = .ok (.iload_n 3, 1) := by decide +kernel
theorem dX7_turnover_13 : decode cX7_turnover 13 = .ok (.aload_n 0, 1) := by decide +kernel
theorem dX7_turnover_14 : decode cX7_turnover 14 = .ok (.getfield 40, 3) := by decide +kernel
theorem dX7_turnover_17 : decode cX7_turnover 17 = .ok (.getfield 84, 3) := by decide +kernel
theorem dX7_turnover_20 : decode cX7_turnover 20 = .ok (.if_icmp .ge 35, 3) := by decide +kernel
theorem dX7_turnover_23 : decode cX7_turnover 23 = .ok (.iload_n 2, 1) := by decide +kernel
theorem dX7_turnover_24 : decode cX7_turnover 24 = .ok (.aload_n 0, 1) := by decide +kernel
theorem dX7_turnover_25 : decode cX7_turnover 25 = .ok (.getfield 47, 3) := by decide +kernel
theorem dX7_turnover_28 : decode cX7_turnover 28 = .ok (.getfield 234, 3) := by decide +kernel
theorem dX7_turnover_31 : decode cX7_turnover 31 = .ok (.iload_n 1, 1) := by decide +kernel
theorem dX7_turnover_32 : decode cX7_turnover 32 = .ok (.iload_n 3, 1) := by decide +kernel
theorem dX7_turnover_33 : decode cX7_turnover 33 = .ok (.invokestatic 219, 3) := by decide +kernel
theorem dX7_turnover_36 : decode cX7_turnover 36 = .ok (.iaload, 1) := by decide +kernel
theorem dX7_turnover_37 : decode cX7_turnover 37 = .ok (.aload_n 0, 1) := by decide +kernel
theorem dX7_turnover_38 : decode cX7_turnover 38 = .ok (.getfield 40, 3) := by decide +kernel
theorem dX7_turnover_41 : decode cX7_turnover 41 = .ok (.getfield 144, 3) := by decide +kernel
theorem dX7_turnover_44 : decode cX7_turnover 44 = .ok (.iload_n 3, 1) := by decide +kernel
theorem dX7_turnover_45 : decode cX7_turnover 45 = .ok (.iaload, 1) := by decide +kernel
theorem dX7_turnover_46 : decode cX7_turnover 46 = .ok (.imul, 1) := by decide +kernel
theorem dX7_turnover_47 : decode cX7_turnover 47 = .ok (.iadd, 1) := by decide +kernel
theorem dX7_turnover_48 : decode cX7_turnover 48 = .ok (.istore_n 2, 1) := by decide +kernel
theorem dX7_turnover_49 : decode cX7_turnover 49 = .ok (.iinc 3 1, 3) := by decide +kernel
theorem dX7_turnover_52 : decode cX7_turnover 52 = .ok (.goto (-40), 3) := by decide +kernel
theorem dX7_turnover_55 : decode cX7_turnover 55 = .ok (.iload_n 2, 1) := by decide +kernel
theorem dX7_turnover_56 : decode cX7_turnover 56 = .ok (.ireturn, 1) := by decide +kernel
theorem dX7_issued_0 : decode cX7_issued 0 = .ok (.aload_n 0, 1) := by decide +kernel
theorem dX7_issued_1 : decode cX7_issued 1 = .ok (.iload_n 1, 1) := by decide +kernel
theorem dX7_issued_2 : decode cX7_issued 2 = .ok (.invokevirtual 115, 3) := by decide +kernel
theorem dX7_issued_5 : decode cX7_issued 5 = .ok (.invokestatic 119, 3) := by decide +kernel
theorem dX7_issued_8 : decode cX7_issued 8 = .ok (.aload_n 0, 1) := by decide +kernel
theorem dX7_issued_9 : decode cX7_issued 9 = .ok (.getfield 47, 3) := by decide +kernel
theorem dX7_issued_12 : decode cX7_issued 12 = .ok (.getfield 240, 3) := by decide +kernel
theorem dX7_issued_15 : decode cX7_issued 15 = .ok (.iload_n 1, 1) := by decide +kernel
theorem dX7_issued_16 : decode cX7_issued 16 = .ok (.iaload, 1) := by decide +kernel
theorem dX7_issued_17 : decode cX7_issued 17 = .ok (.ireturn, 1) := by decide +kernel
theorem dX7_spent_0 : decode cX7_spent 0 = .ok (.aload_n 0, 1) := by decide +kernel
theorem dX7_spent_1 : decode cX7_spent 1 = .ok (.iload_n 1, 1) := by decide +kernel
theorem dX7_spent_2 : decode cX7_spent 2 = .ok (.invokevirtual 115, 3) := by decide +kernel
theorem dX7_spent_5 : decode cX7_spent 5 = .ok (.invokestatic 119, 3) := by decide +kernel
theorem dX7_spent_8 : decode cX7_spent 8 = .ok (.aload_n 0, 1) := by decide +kernel
theorem dX7_spent_9 : decode cX7_spent 9 = .ok (.getfield 47, 3) := by decide +kernel
theorem dX7_spent_12 : decode cX7_spent 12 = .ok (.getfield 243, 3) := by decide +kernel
theorem dX7_spent_15 : decode cX7_spent 15 = .ok (.iload_n 1, 1) := by decide +kernel
theorem dX7_spent_16 : decode cX7_spent 16 = .ok (.iaload, 1) := by decide +kernel
theorem dX7_spent_17 : decode cX7_spent 17 = .ok (.ireturn, 1) := by decide +kernel
theorem dX7_lapsed_0 : decode cX7_lapsed 0 = .ok (.aload_n 0, 1) := by decide +kernel
theorem dX7_lapsed_1 : decode cX7_lapsed 1 = .ok (.iload_n 1, 1) := by decide +kernel
theorem dX7_lapsed_2 : decode cX7_lapsed 2 = .ok (.invokevirtual 115, 3) := by decide +kernel
theorem dX7_lapsed_5 : decode cX7_lapsed 5 = .ok (.invokestatic 119, 3) := by decide +kernel
theorem dX7_lapsed_8 : decode cX7_lapsed 8 = .ok (.aload_n 0, 1) := by decide +kernel
theorem dX7_lapsed_9 : decode cX7_lapsed 9 = .ok (.getfield 47, 3) := by decide +kernel
theorem dX7_lapsed_12 : decode cX7_lapsed 12 = .ok (.getfield 246, 3) := by decide +kernel
theorem dX7_lapsed_15 : decode cX7_lapsed 15 = .ok (.iload_n 1, 1) := by decide +kernel
theorem dX7_lapsed_16 : decode cX7_lapsed 16 = .ok (.iaload, 1) := by decide +kernel
theorem dX7_lapsed_17 : decode cX7_lapsed 17 = .ok (.ireturn, 1) := by decide +kernel
theorem dX7_held_0 : decode cX7_held 0 = .ok (.aload_n 0, 1) := by decide +kernel
theorem dX7_held_1 : decode cX7_held 1 = .ok (.iload_n 1, 1) := by decide +kernel
theorem dX7_held_2 : decode cX7_held 2 = .ok (.invokevirtual 115, 3) := by decide +kernel
theorem dX7_held_5 : decode cX7_held 5 = .ok (.invokestatic 119, 3) := by decide +kernel
theorem dX7_held_8 : decode cX7_held 8 = .ok (.aload_n 0, 1) := by decide +kernel
theorem dX7_held_9 : decode cX7_held 9 = .ok (.iload_n 1, 1) := by decide +kernel
theorem dX7_held_10 : decode cX7_held 10 = .ok (.invokevirtual 249, 3) := by decide +kernel
theorem dX7_held_13 : decode cX7_held 13 = .ok (.ireturn, 1) := by decide +kernel
theorem dX7_reasonFor_0 : decode cX7_reasonFor 0 = .ok (.aload_n 0, 1) := by decide +kernel
theorem dX7_reasonFor_1 : decode cX7_reasonFor 1 = .ok (.iload_n 1, 1) := by decide +kernel
theorem dX7_reasonFor_2 : decode cX7_reasonFor 2 = .ok (.invokevirtual 150, 3) := by decide +kernel
theorem dX7_reasonFor_5 : decode cX7_reasonFor 5 = .ok (.ifCond .eq 23, 3) := by decide +kernel
theorem dX7_reasonFor_8 : decode cX7_reasonFor 8 = .ok (.aload_n 0, 1) := by decide +kernel
theorem dX7_reasonFor_9 : decode cX7_reasonFor 9 = .ok (.iload_n 2, 1) := by decide +kernel
theorem dX7_reasonFor_10 : decode cX7_reasonFor 10 = .ok (.invokevirtual 213, 3) := by decide +kernel
theorem dX7_reasonFor_13 : decode cX7_reasonFor 13 = .ok (.ifCond .eq 15, 3) := by decide +kernel
theorem dX7_reasonFor_16 : decode cX7_reasonFor 16 = .ok (.aload_n 0, 1) := by decide +kernel
theorem dX7_reasonFor_17 : decode cX7_reasonFor 17 = .ok (.iload_n 3, 1) := by decide +kernel
theorem dX7_reasonFor_18 : decode cX7_reasonFor 18 = .ok (.invokevirtual 138, 3) := by decide +kernel
theorem dX7_reasonFor_21 : decode cX7_reasonFor 21 = .ok (.ifCond .eq 7, 3) := by decide +kernel
theorem dX7_reasonFor_24 : decode cX7_reasonFor 24 = .ok (.iconst 1, 1) := by decide +kernel
theorem dX7_reasonFor_25 : decode cX7_reasonFor 25 = .ok (.goto 4, 3) := by decide +kernel
theorem dX7_reasonFor_28 : decode cX7_reasonFor 28 = .ok (.iconst 0, 1) := by decide +kernel
theorem dX7_reasonFor_29 : decode cX7_reasonFor 29 = .ok (.invokestatic 119, 3) := by decide +kernel
theorem dX7_reasonFor_32 : decode cX7_reasonFor 32 = .ok (.iload 4, 2) := by decide +kernel
theorem dX7_reasonFor_34 : decode cX7_reasonFor 34 = .ok (.invokestatic 252, 3) := by decide +kernel
theorem dX7_reasonFor_37 : decode cX7_reasonFor 37 = .ok (.ifCond .eq 15, 3) := by decide +kernel
theorem dX7_reasonFor_40 : decode cX7_reasonFor 40 = .ok (.aload_n 0, 1) := by decide +kernel
theorem dX7_reasonFor_41 : decode cX7_reasonFor 41 = .ok (.iload_n 1, 1) := by decide +kernel
theorem dX7_reasonFor_42 : decode cX7_reasonFor 42 = .ok (.iload_n 2, 1) := by decide +kernel
theorem dX7_reasonFor_43 : decode cX7_reasonFor 43 = .ok (.iload_n 3, 1) := by decide +kernel
theorem dX7_reasonFor_44 : decode cX7_reasonFor 44 = .ok (.iload 4, 2) := by decide +kernel
theorem dX7_reasonFor_46 : decode cX7_reasonFor 46 = .ok (.invokevirtual 255, 3) := by decide +kernel
theorem dX7_reasonFor_49 : decode cX7_reasonFor 49 = .ok (.goto 5, 3) := by decide +kernel
theorem dX7_reasonFor_52 : decode cX7_reasonFor 52 = .ok (.bipush (-2), 2) := by decide +kernel
theorem dX7_reasonFor_54 : decode cX7_reasonFor 54 = .ok (.ireturn, 1) := by decide +kernel
theorem dX7_reasonAgainst_0 : decode cX7_reasonAgainst 0 = .ok (.aload_n 0, 1) := by decide +kernel
theorem dX7_reasonAgainst_1 : decode cX7_reasonAgainst 1 = .ok (.iload_n 2, 1) := by decide +kernel
theorem dX7_reasonAgainst_2 : decode cX7_reasonAgainst 2 = .ok (.invokevirtual 231, 3) := by decide +kernel
theorem dX7_reasonAgainst_5 : decode cX7_reasonAgainst 5 = .ok (.ifCond .eq 5, 3) := by decide +kernel
theorem dX7_reasonAgainst_8 : decode cX7_reasonAgainst 8 = .ok (.iconst 1, 1) := by decide +kernel
theorem dX7_reasonAgainst_9 : decode cX7_reasonAgainst 9 = .ok (.ireturn, 1) := by decide +kernel
theorem dX7_reasonAgainst_10 : decode cX7_reasonAgainst 10 = .ok (.aload_n 0, 1) := by decide +kernel
theorem dX7_reasonAgainst_11 : decode cX7_reasonAgainst 11 = .ok (.getfield 47, 3) := by decide +kernel
theorem dX7_reasonAgainst_14 : decode cX7_reasonAgainst 14 = .ok (.getfield 216, 3) := by decide +kernel
theorem dX7_reasonAgainst_17 : decode cX7_reasonAgainst 17 = .ok (.iload_n 2, 1) := by decide +kernel
theorem dX7_reasonAgainst_18 : decode cX7_reasonAgainst 18 = .ok (.iload_n 3, 1) := by decide +kernel
theorem dX7_reasonAgainst_19 : decode cX7_reasonAgainst 19 = .ok (.invokestatic 219, 3) := by decide +kernel
theorem dX7_reasonAgainst_22 : decode cX7_reasonAgainst 22 = .ok (.iaload, 1) := by decide +kernel
theorem dX7_reasonAgainst_23 : decode cX7_reasonAgainst 23 = .ok (.iload 4, 2) := by decide +kernel
theorem dX7_reasonAgainst_25 : decode cX7_reasonAgainst 25 = .ok (.if_icmp .ge 5, 3) := by decide +kernel
theorem dX7_reasonAgainst_28 : decode cX7_reasonAgainst 28 = .ok (.iconst 2, 1) := by decide +kernel
theorem dX7_reasonAgainst_29 : decode cX7_reasonAgainst 29 = .ok (.ireturn, 1) := by decide +kernel
theorem dX7_reasonAgainst_30 : decode cX7_reasonAgainst 30 = .ok (.aload_n 0, 1) := by decide +kernel
theorem dX7_reasonAgainst_31 : decode cX7_reasonAgainst 31 = .ok (.iload_n 1, 1) := by decide +kernel
theorem dX7_reasonAgainst_32 : decode cX7_reasonAgainst 32 = .ok (.iload_n 3, 1) := by decide +kernel
theorem dX7_reasonAgainst_33 : decode cX7_reasonAgainst 33 = .ok (.iload 4, 2) := by decide +kernel
theorem dX7_reasonAgainst_35 : decode cX7_reasonAgainst 35 = .ok (.invokevirtual 259, 3) := by decide +kernel
theorem dX7_reasonAgainst_38 : decode cX7_reasonAgainst 38 = .ok (.ifCond .eq 7, 3) := by decide +kernel
theorem dX7_reasonAgainst_41 : decode cX7_reasonAgainst 41 = .ok (.iconst 0, 1) := by decide +kernel
theorem dX7_reasonAgainst_42 : decode cX7_reasonAgainst 42 = .ok (.goto 4, 3) := by decide +kernel
theorem dX7_reasonAgainst_45 : decode cX7_reasonAgainst 45 = .ok (.iconst 3, 1) := by decide +kernel
theorem dX7_reasonAgainst_46 : decode cX7_reasonAgainst 46 = .ok (.ireturn, 1) := by decide +kernel
theorem dX7_mostUnits_0 : decode cX7_mostUnits 0 = .ok (.aload_n 0, 1) := by decide +kernel
theorem dX7_mostUnits_1 : decode cX7_mostUnits 1 = .ok (.iload_n 1, 1) := by decide +kernel
theorem dX7_mostUnits_2 : decode cX7_mostUnits 2 = .ok (.invokevirtual 150, 3) := by decide +kernel
theorem dX7_mostUnits_5 : decode cX7_mostUnits 5 = .ok (.ifCond .eq 23, 3) := by decide +kernel
theorem dX7_mostUnits_8 : decode cX7_mostUnits 8 = .ok (.aload_n 0, 1) := by decide +kernel
theorem dX7_mostUnits_9 : decode cX7_mostUnits 9 = .ok (.iload_n 2, 1) := by decide +kernel
theorem dX7_mostUnits_10 : decode cX7_mostUnits 10 = .ok (.invokevirtual 213, 3) := by decide +kernel
theorem dX7_mostUnits_13 : decode cX7_mostUnits 13 = .ok (.ifCond .eq 15, 3) := by decide +kernel
theorem dX7_mostUnits_16 : decode cX7_mostUnits 16 = .ok (.aload_n 0, 1) := by decide +kernel
theorem dX7_mostUnits_17 : decode cX7_mostUnits 17 = .ok (.iload_n 3, 1) := by decide +kernel
theorem dX7_mostUnits_18 : decode cX7_mostUnits 18 = .ok (.invokevirtual 138, 3) := by decide +kernel
theorem dX7_mostUnits_21 : decode cX7_mostUnits 21 = .ok (.ifCond .eq 7, 3) := by decide +kernel
theorem dX7_mostUnits_24 : decode cX7_mostUnits 24 = .ok (.iconst 1, 1) := by decide +kernel
theorem dX7_mostUnits_25 : decode cX7_mostUnits 25 = .ok (.goto 4, 3) := by decide +kernel
theorem dX7_mostUnits_28 : decode cX7_mostUnits 28 = .ok (.iconst 0, 1) := by decide +kernel
theorem dX7_mostUnits_29 : decode cX7_mostUnits 29 = .ok (.invokestatic 119, 3) := by decide +kernel
theorem dX7_mostUnits_32 : decode cX7_mostUnits 32 = .ok (.aload_n 0, 1) := by decide +kernel
theorem dX7_mostUnits_33 : decode cX7_mostUnits 33 = .ok (.iload_n 1, 1) := by decide +kernel
theorem dX7_mostUnits_34 : decode cX7_mostUnits 34 = .ok (.iload_n 2, 1) := by decide +kernel
theorem dX7_mostUnits_35 : decode cX7_mostUnits 35 = .ok (.iload_n 3, 1) := by decide +kernel
theorem dX7_mostUnits_36 : decode cX7_mostUnits 36 = .ok (.invokevirtual 262, 3) := by decide +kernel
theorem dX7_mostUnits_39 : decode cX7_mostUnits 39 = .ok (.ireturn, 1) := by decide +kernel
theorem dX7_mostToBuy_0 : decode cX7_mostToBuy 0 = .ok (.aload_n 0, 1) := by decide +kernel
theorem dX7_mostToBuy_1 : decode cX7_mostToBuy 1 = .ok (.iload_n 2, 1) := by decide +kernel
theorem dX7_mostToBuy_2 : decode cX7_mostToBuy 2 = .ok (.invokevirtual 231, 3) := by decide +kernel
theorem dX7_mostToBuy_5 : decode cX7_mostToBuy 5 = .ok (.ifCond .eq 5, 3) := by decide +kernel
theorem dX7_mostToBuy_8 : decode cX7_mostToBuy 8 = .ok (.iconst 0, 1) := by decide +kernel
theorem dX7_mostToBuy_9 : decode cX7_mostToBuy 9 = .ok (.ireturn, 1) := by decide +kernel
theorem dX7_mostToBuy_10 : decode cX7_mostToBuy 10 = .ok (.aload_n 0, 1) := by decide +kernel
theorem dX7_mostToBuy_11 : decode cX7_mostToBuy 11 = .ok (.getfield 40, 3) := by decide +kernel
theorem dX7_mostToBuy_14 : decode cX7_mostToBuy 14 = .ok (.getfield 141, 3) := by decide +kernel
theorem dX7_mostToBuy_17 : decode cX7_mostToBuy 17 = .ok (.iload_n 3, 1) := by decide +kernel
theorem dX7_mostToBuy_18 : decode cX7_mostToBuy 18 = .ok (.iaload, 1) := by decide +kernel
theorem dX7_mostToBuy_19 : decode cX7_mostToBuy 19 = .ok (.istore 4, 2) := by decide +kernel
theorem dX7_mostToBuy_21 : decode cX7_mostToBuy 21 = .ok (.aload_n 0, 1) := by decide +kernel
theorem dX7_mostToBuy_22 : decode cX7_mostToBuy 22 = .ok (.getfield 40, 3) := by decide +kernel
theorem dX7_mostToBuy_25 : decode cX7_mostToBuy 25 = .ok (.getfield 132, 3) := by decide +kernel
theorem dX7_mostToBuy_28 : decode cX7_mostToBuy 28 = .ok (.iload 4, 2) := by decide +kernel
theorem dX7_mostToBuy_30 : decode cX7_mostToBuy 30 = .ok (.iaload, 1) := by decide +kernel
theorem dX7_mostToBuy_31 : decode cX7_mostToBuy 31 = .ok (.istore 5, 2) := by decide +kernel
theorem dX7_mostToBuy_33 : decode cX7_mostToBuy 33 = .ok (.aload_n 0, 1) := by decide +kernel
theorem dX7_mostToBuy_34 : decode cX7_mostToBuy 34 = .ok (.iload_n 1, 1) := by decide +kernel
theorem dX7_mostToBuy_35 : decode cX7_mostToBuy 35 = .ok (.iload 4, 2) := by decide +kernel
theorem dX7_mostToBuy_37 : decode cX7_mostToBuy 37 = .ok (.invokevirtual 162, 3) := by decide +kernel
theorem dX7_mostToBuy_40 : decode cX7_mostToBuy 40 = .ok (.istore 6, 2) := by decide +kernel
theorem dX7_mostToBuy_42 : decode cX7_mostToBuy 42 = .ok (.iload 5, 2) := by decide +kernel
theorem dX7_mostToBuy_44 : decode cX7_mostToBuy 44 = .ok (.ifCond .lt 28, 3) := by decide +kernel
theorem dX7_mostToBuy_47 : decode cX7_mostToBuy 47 = .ok (.iload 6, 2) := by decide +kernel
theorem dX7_mostToBuy_49 : decode cX7_mostToBuy 49 = .ok (.aload_n 0, 1) := by decide +kernel
theorem dX7_mostToBuy_50 : decode cX7_mostToBuy 50 = .ok (.iload_n 1, 1) := by decide +kernel
theorem dX7_mostToBuy_51 : decode cX7_mostToBuy 51 = .ok (.iload 5, 2) := by decide +kernel
theorem dX7_mostToBuy_53 : decode cX7_mostToBuy 53 = .ok (.invokevirtual 162, 3) := by decide +kernel
theorem dX7_mostToBuy_56 : decode cX7_mostToBuy 56 = .ok (.aload_n 0, 1) := by decide +kernel
theorem dX7_mostToBuy_57 : decode cX7_mostToBuy 57 = .ok (.getfield 40, 3) := by decide +kernel
theorem dX7_mostToBuy_60 : decode cX7_mostToBuy 60 = .ok (.getfield 135, 3) := by decide +kernel
theorem dX7_mostToBuy_63 : decode cX7_mostToBuy 63 = .ok (.iload 4, 2) := by decide +kernel
theorem dX7_mostToBuy_65 : decode cX7_mostToBuy 65 = .ok (.iaload, 1) := by decide +kernel
theorem dX7_mostToBuy_66 : decode cX7_mostToBuy 66 = .ok (.invokestatic 265, 3) := by decide +kernel
theorem dX7_mostToBuy_69 : decode cX7_mostToBuy 69 = .ok (.iadd, 1) := by decide +kernel
theorem dX7_mostToBuy_70 : decode cX7_mostToBuy 70 = .ok (.istore 6, 2) := by decide +kernel
theorem dX7_mostToBuy_72 : decode cX7_mostToBuy 72 = .ok (.iload 6, 2) := by decide +kernel
theorem dX7_mostToBuy_74 : decode cX7_mostToBuy 74 = .ok (.aload_n 0, 1) := by decide +kernel
theorem dX7_mostToBuy_75 : decode cX7_mostToBuy 75 = .ok (.getfield 40, 3) := by decide +kernel
theorem dX7_mostToBuy_78 : decode cX7_mostToBuy 78 = .ok (.getfield 144, 3) := by decide +kernel
theorem dX7_mostToBuy_81 : decode cX7_mostToBuy 81 = .ok (.iload_n 3, 1) := by decide +kernel
theorem dX7_mostToBuy_82 : decode cX7_mostToBuy 82 = .ok (.iaload, 1) := by decide +kernel
theorem dX7_mostToBuy_83 : decode cX7_mostToBuy 83 = .ok (.invokestatic 265, 3) := by decide +kernel
theorem dX7_mostToBuy_86 : decode cX7_mostToBuy 86 = .ok (.aload_n 0, 1) := by decide +kernel
theorem dX7_mostToBuy_87 : decode cX7_mostToBuy 87 = .ok (.getfield 47, 3) := by decide +kernel
theorem dX7_mostToBuy_90 : decode cX7_mostToBuy 90 = .ok (.getfield 216, 3) := by decide +kernel
theorem dX7_mostToBuy_93 : decode cX7_mostToBuy 93 = .ok (.iload_n 2, 1) := by decide +kernel
theorem dX7_mostToBuy_94 : decode cX7_mostToBuy 94 = .ok (.iload_n 3, 1) := by decide +kernel
theorem dX7_mostToBuy_95 : decode cX7_mostToBuy 95 = .ok (.invokestatic 219, 3) := by decide +kernel
theorem dX7_mostToBuy_98 : decode cX7_mostToBuy 98 = .ok (.iaload, 1) := by decide +kernel
theorem dX7_mostToBuy_99 : decode cX7_mostToBuy 99 = .ok (.invokestatic 201, 3) := by decide +kernel
theorem dX7_mostToBuy_102 : decode cX7_mostToBuy 102 = .ok (.istore 7, 2) := by decide +kernel
theorem dX7_mostToBuy_104 : decode cX7_mostToBuy 104 = .ok (.iload 7, 2) := by decide +kernel
theorem dX7_mostToBuy_106 : decode cX7_mostToBuy 106 = .ok (.sipush 9999, 3) := by decide +kernel
theorem dX7_mostToBuy_109 : decode cX7_mostToBuy 109 = .ok (.invokestatic 201, 3) := by decide +kernel
theorem dX7_mostToBuy_112 : decode cX7_mostToBuy 112 = .ok (.ireturn, 1) := by decide +kernel
theorem dX7_substituted_0 : decode cX7_substituted 0 = .ok (.aload_n 0, 1) := by decide +kernel
theorem dX7_substituted_1 : decode cX7_substituted 1 = .ok (.iload_n 1, 1) := by decide +kernel
theorem dX7_substituted_2 : decode cX7_substituted 2 = .ok (.invokevirtual 150, 3) := by decide +kernel
theorem dX7_substituted_5 : decode cX7_substituted 5 = .ok (.ifCond .eq 15, 3) := by decide +kernel
theorem dX7_substituted_8 : decode cX7_substituted 8 = .ok (.aload_n 0, 1) := by decide +kernel
theorem dX7_substituted_9 : decode cX7_substituted 9 = .ok (.iload_n 2, 1) := by decide +kernel
theorem dX7_substituted_10 : decode cX7_substituted 10 = .ok (.invokevirtual 138, 3) := by decide +kernel
theorem dX7_substituted_13 : decode cX7_substituted 13 = .ok (.ifCond .eq 7, 3) := by decide +kernel
theorem dX7_substituted_16 : decode cX7_substituted 16 = .ok (.iconst 1, 1) := by decide +kernel
theorem dX7_substituted_17 : decode cX7_substituted 17 = .ok (.goto 4, 3) := by decide +kernel
theorem dX7_substituted_20 : decode cX7_substituted 20 = .ok (.iconst 0, 1) := by decide +kernel
theorem dX7_substituted_21 : decode cX7_substituted 21 = .ok (.invokestatic 119, 3) := by decide +kernel
theorem dX7_substituted_24 : decode cX7_substituted 24 = .ok (.iload_n 3, 1) := by decide +kernel
theorem dX7_substituted_25 : decode cX7_substituted 25 = .ok (.invokestatic 252, 3) := by decide +kernel
theorem dX7_substituted_28 : decode cX7_substituted 28 = .ok (.ifCond .ne 6, 3) := by decide +kernel
theorem dX7_substituted_31 : decode cX7_substituted 31 = .ok (.bipush (-2), 2) := by decide +kernel
theorem dX7_substituted_33 : decode cX7_substituted 33 = .ok (.ireturn, 1) := by decide +kernel
theorem dX7_substituted_34 : decode cX7_substituted 34 = .ok (.aload_n 0, 1) := by decide +kernel
theorem dX7_substituted_35 : decode cX7_substituted 35 = .ok (.iload_n 1, 1) := by decide +kernel
theorem dX7_substituted_36 : decode cX7_substituted 36 = .ok (.iload_n 2, 1) := by decide +kernel
theorem dX7_substituted_37 : decode cX7_substituted 37 = .ok (.iload_n 3, 1) := by decide +kernel
theorem dX7_substituted_38 : decode cX7_substituted 38 = .ok (.invokevirtual 259, 3) := by decide +kernel
theorem dX7_substituted_41 : decode cX7_substituted 41 = .ok (.ifCond .eq 13, 3) := by decide +kernel
theorem dX7_substituted_44 : decode cX7_substituted 44 = .ok (.aload_n 0, 1) := by decide +kernel
theorem dX7_substituted_45 : decode cX7_substituted 45 = .ok (.iload_n 1, 1) := by decide +kernel
theorem dX7_substituted_46 : decode cX7_substituted 46 = .ok (.iload_n 2, 1) := by decide +kernel
theorem dX7_substituted_47 : decode cX7_substituted 47 = .ok (.iload_n 3, 1) := by decide +kernel
theorem dX7_substituted_48 : decode cX7_substituted 48 = .ok (.invokevirtual 268, 3) := by decide +kernel
theorem dX7_substituted_51 : decode cX7_substituted 51 = .ok (.goto 4, 3) := by decide +kernel
theorem dX7_substituted_54 : decode cX7_substituted 54 = .ok (.iconst (-1), 1) := by decide +kernel
theorem dX7_substituted_55 : decode cX7_substituted 55 = .ok (.ireturn, 1) := by decide +kernel
theorem dX7_served_0 : decode cX7_served 0 = .ok (.aload_n 0, 1) := by decide +kernel
theorem dX7_served_1 : decode cX7_served 1 = .ok (.iload_n 1, 1) := by decide +kernel
theorem dX7_served_2 : decode cX7_served 2 = .ok (.invokevirtual 213, 3) := by decide +kernel
theorem dX7_served_5 : decode cX7_served 5 = .ok (.ifCond .eq 15, 3) := by decide +kernel
theorem dX7_served_8 : decode cX7_served 8 = .ok (.aload_n 0, 1) := by decide +kernel
theorem dX7_served_9 : decode cX7_served 9 = .ok (.iload_n 2, 1) := by decide +kernel
theorem dX7_served_10 : decode cX7_served 10 = .ok (.invokevirtual 138, 3) := by decide +kernel
theorem dX7_served_13 : decode cX7_served 13 = .ok (.ifCond .eq 7, 3) := by decide +kernel
theorem dX7_served_16 : decode cX7_served 16 = .ok (.iconst 1, 1) := by decide +kernel
theorem dX7_served_17 : decode cX7_served 17 = .ok (.goto 4, 3) := by decide +kernel
theorem dX7_served_20 : decode cX7_served 20 = .ok (.iconst 0, 1) := by decide +kernel
theorem dX7_served_21 : decode cX7_served 21 = .ok (.invokestatic 119, 3) := by decide +kernel
theorem dX7_served_24 : decode cX7_served 24 = .ok (.iload_n 3, 1) := by decide +kernel
theorem dX7_served_25 : decode cX7_served 25 = .ok (.invokestatic 252, 3) := by decide +kernel
theorem dX7_served_28 : decode cX7_served 28 = .ok (.ifCond .ne 6, 3) := by decide +kernel
theorem dX7_served_31 : decode cX7_served 31 = .ok (.bipush (-2), 2) := by decide +kernel
theorem dX7_served_33 : decode cX7_served 33 = .ok (.ireturn, 1) := by decide +kernel
theorem dX7_served_34 : decode cX7_served 34 = .ok (.aload_n 0, 1) := by decide +kernel
theorem dX7_served_35 : decode cX7_served 35 = .ok (.iload_n 1, 1) := by decide +kernel
theorem dX7_served_36 : decode cX7_served 36 = .ok (.invokevirtual 231, 3) := by decide +kernel
theorem dX7_served_39 : decode cX7_served 39 = .ok (.ifCond .eq 5, 3) := by decide +kernel
theorem dX7_served_42 : decode cX7_served 42 = .ok (.iconst 0, 1) := by decide +kernel
theorem dX7_served_43 : decode cX7_served 43 = .ok (.ireturn, 1) := by decide +kernel
theorem dX7_served_44 : decode cX7_served 44 = .ok (.iconst 0, 1) := by decide +kernel
theorem dX7_served_45 : decode cX7_served 45 = .ok (.istore 4, 2) := by decide +kernel
theorem dX7_served_47 : decode cX7_served 47 = .ok (.iconst 0, 1) := by decide +kernel
theorem dX7_served_48 : decode cX7_served 48 = .ok (.istore 5, 2) := by decide +kernel
theorem dX7_served_50 : decode cX7_served 50 = .ok (.iload 5, 2) := by decide +kernel
theorem dX7_served_52 : decode cX7_served 52 = .ok (.aload_n 0, 1) := by decide +kernel
theorem dX7_served_53 : decode cX7_served 53 = .ok (.getfield 40, 3) := by decide +kernel
theorem dX7_served_56 : decode cX7_served 56 = .ok (.getfield 87, 3) := by decide +kernel
theorem dX7_served_59 : decode cX7_served 59 = .ok (.if_icmp .ge 23, 3) := by decide +kernel
theorem dX7_served_62 : decode cX7_served 62 = .ok (.aload_n 0, 1) := by decide +kernel
theorem dX7_served_63 : decode cX7_served 63 = .ok (.iload 5, 2) := by decide +kernel
theorem dX7_served_65 : decode cX7_served 65 = .ok (.iload_n 2, 1) := by decide +kernel
theorem dX7_served_66 : decode cX7_served 66 = .ok (.iload_n 3, 1) := by decide +kernel
theorem dX7_served_67 : decode cX7_served 67 = .ok (.invokevirtual 259, 3) := by decide +kernel
theorem dX7_served_70 : decode cX7_served 70 = .ok (.ifCond .eq 6, 3) := by decide +kernel
theorem dX7_served_73 : decode cX7_served 73 = .ok (.iinc 4 1, 3) := by decide +kernel
theorem dX7_served_76 : decode cX7_served 76 = .ok (.iinc 5 1, 3) := by decide +kernel
theorem dX7_served_79 : decode cX7_served 79 = .ok (.goto (-29), 3) := by decide +kernel
theorem dX7_served_82 : decode cX7_served 82 = .ok (.iload 4, 2) := by decide +kernel
theorem dX7_served_84 : decode cX7_served 84 = .ok (.aload_n 0, 1) := by decide +kernel
theorem dX7_served_85 : decode cX7_served 85 = .ok (.getfield 47, 3) := by decide +kernel
theorem dX7_served_88 : decode cX7_served 88 = .ok (.getfield 216, 3) := by decide +kernel
theorem dX7_served_91 : decode cX7_served 91 = .ok (.iload_n 1, 1) := by decide +kernel
theorem dX7_served_92 : decode cX7_served 92 = .ok (.iload_n 2, 1) := by decide +kernel
theorem dX7_served_93 : decode cX7_served 93 = .ok (.invokestatic 219, 3) := by decide +kernel
theorem dX7_served_96 : decode cX7_served 96 = .ok (.iaload, 1) := by decide +kernel
theorem dX7_served_97 : decode cX7_served 97 = .ok (.iload_n 3, 1) := by decide +kernel
theorem dX7_served_98 : decode cX7_served 98 = .ok (.invokestatic 265, 3) := by decide +kernel
theorem dX7_served_101 : decode cX7_served 101 = .ok (.invokestatic 201, 3) := by decide +kernel
theorem dX7_served_104 : decode cX7_served 104 = .ok (.ireturn, 1) := by decide +kernel
theorem dX7_basketValue_0 : decode cX7_basketValue 0 = .ok (.aload_n 0, 1) := by decide +kernel
theorem dX7_basketValue_1 : decode cX7_basketValue 1 = .ok (.iload_n 1, 1) := by decide +kernel
theorem dX7_basketValue_2 : decode cX7_basketValue 2 = .ok (.invokevirtual 150, 3) := by decide +kernel
theorem dX7_basketValue_5 : decode cX7_basketValue 5 = .ok (.ifCond .eq 15, 3) := by decide +kernel
theorem dX7_basketValue_8 : decode cX7_basketValue 8 = .ok (.aload_n 0, 1) := by decide +kernel
theorem dX7_basketValue_9 : decode cX7_basketValue 9 = .ok (.iload_n 2, 1) := by decide +kernel
theorem dX7_basketValue_10 : decode cX7_basketValue 10 = .ok (.invokevirtual 213, 3) := by decide +kernel
theorem dX7_basketValue_13 : decode cX7_basketValue 13 = .ok (.ifCond .eq 7, 3) := by decide +kernel
theorem dX7_basketValue_16 : decode cX7_basketValue 16 = .ok (.iconst 1, 1) := by decide +kernel
theorem dX7_basketValue_17 : decode cX7_basketValue 17 = .ok (.goto 4, 3) := by decide +kernel
theorem dX7_basketValue_20 : decode cX7_basketValue 20 = .ok (.iconst 0, 1) := by decide +kernel
theorem dX7_basketValue_21 : decode cX7_basketValue 21 = .ok (.invokestatic 119, 3) := by decide +kernel
theorem dX7_basketValue_24 : decode cX7_basketValue 24 = .ok (.aload_n 0, 1) := by decide +kernel
theorem dX7_basketValue_25 : decode cX7_basketValue 25 = .ok (.iload_n 1, 1) := by decide +kernel
theorem dX7_basketValue_26 : decode cX7_basketValue 26 = .ok (.iload_n 2, 1) := by decide +kernel
theorem dX7_basketValue_27 : decode cX7_basketValue 27 = .ok (.invokevirtual 271, 3) := by decide +kernel
theorem dX7_basketValue_30 : decode cX7_basketValue 30 = .ok (.istore_n 3, 1) := by decide +kernel
theorem dX7_basketValue_31 : decode cX7_basketValue 31 = .ok (.iload_n 3, 1) := by decide +kernel
theorem dX7_basketValue_32 : decode cX7_basketValue 32 = .ok (.ifCond .eq 7, 3) := by decide +kernel
theorem dX7_basketValue_35 : decode cX7_basketValue 35 = .ok (.iload_n 3, 1) := by decide +kernel
theorem dX7_basketValue_36 : decode cX7_basketValue 36 = .ok (.goto 10, 3) := by decide +kernel
theorem dX7_basketValue_39 : decode cX7_basketValue 39 = .ok (.aload_n 0, 1) := by decide +kernel
theorem dX7_basketValue_40 : decode cX7_basketValue 40 = .ok (.getfield 30, 3) := by decide +kernel
theorem dX7_basketValue_43 : decode cX7_basketValue 43 = .ok (.getfield 274, 3) := by decide +kernel
theorem dX7_basketValue_46 : decode cX7_basketValue 46 = .ok (.ireturn, 1) := by decide +kernel
theorem dX7_basketUnits_0 : decode cX7_basketUnits 0 = .ok (.aload_n 0, 1) := by decide +kernel
theorem dX7_basketUnits_1 : decode cX7_basketUnits 1 = .ok (.iload_n 1, 1) := by decide +kernel
theorem dX7_basketUnits_2 : decode cX7_basketUnits 2 = .ok (.invokevirtual 150, 3) := by decide +kernel
theorem dX7_basketUnits_5 : decode cX7_basketUnits 5 = .ok (.ifCond .eq 23, 3) := by decide +kernel
theorem dX7_basketUnits_8 : decode cX7_basketUnits 8 = .ok (.aload_n 0, 1) := by decide +kernel
theorem dX7_basketUnits_9 : decode cX7_basketUnits 9 = .ok (.iload_n 2, 1) := by decide +kernel
theorem dX7_basketUnits_10 : decode cX7_basketUnits 10 = .ok (.invokevirtual 213, 3) := by decide +kernel
theorem dX7_basketUnits_13 : decode cX7_basketUnits 13 = .ok (.ifCond .eq 15, 3) := by decide +kernel
theorem dX7_basketUnits_16 : decode cX7_basketUnits 16 = .ok (.aload_n 0, 1) := by decide +kernel
theorem dX7_basketUnits_17 : decode cX7_basketUnits 17 = .ok (.iload_n 3, 1) := by decide +kernel
theorem dX7_basketUnits_18 : decode cX7_basketUnits 18 = .ok (.invokevirtual 138, 3) := by decide +kernel
theorem dX7_basketUnits_21 : decode cX7_basketUnits 21 = .ok (.ifCond .eq 7, 3) := by decide +kernel
theorem dX7_basketUnits_24 : decode cX7_basketUnits 24 = .ok (.iconst 1, 1) := by decide +kernel
theorem dX7_basketUnits_25 : decode cX7_basketUnits 25 = .ok (.goto 4, 3) := by decide +kernel
theorem dX7_basketUnits_28 : decode cX7_basketUnits 28 = .ok (.iconst 0, 1) := by decide +kernel
theorem dX7_basketUnits_29 : decode cX7_basketUnits 29 = .ok (.invokestatic 119, 3) := by decide +kernel
theorem dX7_basketUnits_32 : decode cX7_basketUnits 32 = .ok (.aload_n 0, 1) := by decide +kernel
theorem dX7_basketUnits_33 : decode cX7_basketUnits 33 = .ok (.iload_n 1, 1) := by decide +kernel
theorem dX7_basketUnits_34 : decode cX7_basketUnits 34 = .ok (.iload_n 2, 1) := by decide +kernel
theorem dX7_basketUnits_35 : decode cX7_basketUnits 35 = .ok (.invokevirtual 271, 3) := by decide +kernel
theorem dX7_basketUnits_38 : decode cX7_basketUnits 38 = .ok (.istore 4, 2) := by decide +kernel
theorem dX7_basketUnits_40 : decode cX7_basketUnits 40 = .ok (.iload 4, 2) := by decide +kernel
theorem dX7_basketUnits_42 : decode cX7_basketUnits 42 = .ok (.ifCond .eq 8, 3) := by decide +kernel
theorem dX7_basketUnits_45 : decode cX7_basketUnits 45 = .ok (.iload 4, 2) := by decide +kernel
theorem dX7_basketUnits_47 : decode cX7_basketUnits 47 = .ok (.goto 12, 3) := by decide +kernel
theorem dX7_basketUnits_50 : decode cX7_basketUnits 50 = .ok (.aload_n 0, 1) := by decide +kernel
theorem dX7_basketUnits_51 : decode cX7_basketUnits 51 = .ok (.getfield 30, 3) := by decide +kernel
theorem dX7_basketUnits_54 : decode cX7_basketUnits 54 = .ok (.getfield 276, 3) := by decide +kernel
theorem dX7_basketUnits_57 : decode cX7_basketUnits 57 = .ok (.iload_n 3, 1) := by decide +kernel
theorem dX7_basketUnits_58 : decode cX7_basketUnits 58 = .ok (.iaload, 1) := by decide +kernel
theorem dX7_basketUnits_59 : decode cX7_basketUnits 59 = .ok (.ireturn, 1) := by decide +kernel
theorem dX7_fillBasket_0 : decode cX7_fillBasket 0 = .ok (.aload_n 0, 1) := by decide +kernel
theorem dX7_fillBasket_1 : decode cX7_fillBasket 1 = .ok (.iload_n 2, 1) := by decide +kernel
theorem dX7_fillBasket_2 : decode cX7_fillBasket 2 = .ok (.invokevirtual 231, 3) := by decide +kernel
theorem dX7_fillBasket_5 : decode cX7_fillBasket 5 = .ok (.ifCond .eq 6, 3) := by decide +kernel
theorem dX7_fillBasket_8 : decode cX7_fillBasket 8 = .ok (.bipush (-6), 2) := by decide +kernel
theorem dX7_fillBasket_10 : decode cX7_fillBasket 10 = .ok (.ireturn, 1) := by decide +kernel
theorem dX7_fillBasket_11 : decode cX7_fillBasket 11 = .ok (.iconst 0, 1) := by decide +kernel
theorem dX7_fillBasket_12 : decode cX7_fillBasket 12 = .ok (.istore_n 3, 1) := by decide +kernel
theorem dX7_fillBasket_13 : decode cX7_fillBasket 13 = .ok (.iload_n 3, 1) := by decide +kernel
theorem dX7_fillBasket_14 : decode cX7_fillBasket 14 = .ok (.aload_n 0, 1) := by decide +kernel
theorem dX7_fillBasket_15 : decode cX7_fillBasket 15 = .ok (.getfield 40, 3) := by decide +kernel
theorem dX7_fillBasket_18 : decode cX7_fillBasket 18 = .ok (.getfield 81, 3) := by decide +kernel
theorem dX7_fillBasket_21 : decode cX7_fillBasket 21 = .ok (.if_icmp .ge 24, 3) := by decide +kernel
theorem dX7_fillBasket_24 : decode cX7_fillBasket 24 = .ok (.aload_n 0, 1) := by decide +kernel
theorem dX7_fillBasket_25 : decode cX7_fillBasket 25 = .ok (.iload_n 1, 1) := by decide +kernel
theorem dX7_fillBasket_26 : decode cX7_fillBasket 26 = .ok (.iload_n 3, 1) := by decide +kernel
theorem dX7_fillBasket_27 : decode cX7_fillBasket 27 = .ok (.invokevirtual 162, 3) := by decide +kernel
theorem dX7_fillBasket_30 : decode cX7_fillBasket 30 = .ok (.sipush 400, 3) := by decide +kernel
theorem dX7_fillBasket_33 : decode cX7_fillBasket 33 = .ok (.if_icmp .le 6, 3) := by decide +kernel
theorem dX7_fillBasket_36 : decode cX7_fillBasket 36 = .ok (.bipush (-4), 2) := by decide +kernel
theorem dX7_fillBasket_38 : decode cX7_fillBasket 38 = .ok (.ireturn, 1) := by decide +kernel
theorem dX7_fillBasket_39 : decode cX7_fillBasket 39 = .ok (.iinc 3 1, 3) := by decide +kernel
theorem dX7_fillBasket_42 : decode cX7_fillBasket 42 = .ok (.goto (-29), 3) := by decide +kernel
theorem dX7_fillBasket_45 : decode cX7_fillBasket 45 = .ok (.aload_n 0, 1) := by decide +kernel
theorem dX7_fillBasket_46 : decode cX7_fillBasket 46 = .ok (.getfield 30, 3) := by decide +kernel
theorem dX7_fillBasket_49 : decode cX7_fillBasket 49 = .ok (.aload_n 0, 1) := by decide +kernel
theorem dX7_fillBasket_50 : decode cX7_fillBasket 50 = .ok (.getfield 40, 3) := by decide +kernel
theorem dX7_fillBasket_53 : decode cX7_fillBasket 53 = .ok (.aload_n 0, 1) := by decide +kernel
theorem dX7_fillBasket_54 : decode cX7_fillBasket 54 = .ok (.getfield 47, 3) := by decide +kernel
theorem dX7_fillBasket_57 : decode cX7_fillBasket 57 = .ok (.iload_n 1, 1) := by decide +kernel
theorem dX7_fillBasket_58 : decode cX7_fillBasket 58 = .ok (.iload_n 2, 1) := by decide +kernel
theorem dX7_fillBasket_59 : decode cX7_fillBasket 59 = .ok (.invokevirtual 279, 3) := by decide +kernel
theorem dX7_fillBasket_62 : decode cX7_fillBasket 62 = .ok (.iconst 0, 1) := by decide +kernel
theorem dX7_fillBasket_63 : decode cX7_fillBasket 63 = .ok (.ireturn, 1) := by decide +kernel
theorem dX7_waitFor_0 : decode cX7_waitFor 0 = .ok (.aload_n 0, 1) := by decide +kernel
theorem dX7_waitFor_1 : decode cX7_waitFor 1 = .ok (.iload_n 1, 1) := by decide +kernel
theorem dX7_waitFor_2 : decode cX7_waitFor 2 = .ok (.invokevirtual 150, 3) := by decide +kernel
theorem dX7_waitFor_5 : decode cX7_waitFor 5 = .ok (.ifCond .eq 15, 3) := by decide +kernel
theorem dX7_waitFor_8 : decode cX7_waitFor 8 = .ok (.aload_n 0, 1) := by decide +kernel
theorem dX7_waitFor_9 : decode cX7_waitFor 9 = .ok (.iload_n 2, 1) := by decide +kernel
theorem dX7_waitFor_10 : decode cX7_waitFor 10 = .ok (.invokevirtual 138, 3) := by decide +kernel
theorem dX7_waitFor_13 : decode cX7_waitFor 13 = .ok (.ifCond .eq 7, 3) := by decide +kernel
theorem dX7_waitFor_16 : decode cX7_waitFor 16 = .ok (.iconst 1, 1) := by decide +kernel
theorem dX7_waitFor_17 : decode cX7_waitFor 17 = .ok (.goto 4, 3) := by decide +kernel
theorem dX7_waitFor_20 : decode cX7_waitFor 20 = .ok (.iconst 0, 1) := by decide +kernel
theorem dX7_waitFor_21 : decode cX7_waitFor 21 = .ok (.invokestatic 119, 3) := by decide +kernel
theorem dX7_waitFor_24 : decode cX7_waitFor 24 = .ok (.iload_n 3, 1) := by decide +kernel
theorem dX7_waitFor_25 : decode cX7_waitFor 25 = .ok (.invokestatic 252, 3) := by decide +kernel
theorem dX7_waitFor_28 : decode cX7_waitFor 28 = .ok (.ifCond .ne 6, 3) := by decide +kernel
theorem dX7_waitFor_31 : decode cX7_waitFor 31 = .ok (.bipush (-2), 2) := by decide +kernel
theorem dX7_waitFor_33 : decode cX7_waitFor 33 = .ok (.ireturn, 1) := by decide +kernel
theorem dX7_waitFor_34 : decode cX7_waitFor 34 = .ok (.aload_n 0, 1) := by decide +kernel
theorem dX7_waitFor_35 : decode cX7_waitFor 35 = .ok (.getfield 40, 3) := by decide +kernel
theorem dX7_waitFor_38 : decode cX7_waitFor 38 = .ok (.getfield 141, 3) := by decide +kernel
theorem dX7_waitFor_41 : decode cX7_waitFor 41 = .ok (.iload_n 2, 1) := by decide +kernel
theorem dX7_waitFor_42 : decode cX7_waitFor 42 = .ok (.iaload, 1) := by decide +kernel
theorem dX7_waitFor_43 : decode cX7_waitFor 43 = .ok (.istore 4, 2) := by decide +kernel
theorem dX7_waitFor_45 : decode cX7_waitFor 45 = .ok (.iload_n 3, 1) := by decide +kernel
theorem dX7_waitFor_46 : decode cX7_waitFor 46 = .ok (.aload_n 0, 1) := by decide +kernel
theorem dX7_waitFor_47 : decode cX7_waitFor 47 = .ok (.getfield 40, 3) := by decide +kernel
theorem dX7_waitFor_50 : decode cX7_waitFor 50 = .ok (.getfield 144, 3) := by decide +kernel
theorem dX7_waitFor_53 : decode cX7_waitFor 53 = .ok (.iload_n 2, 1) := by decide +kernel
theorem dX7_waitFor_54 : decode cX7_waitFor 54 = .ok (.iaload, 1) := by decide +kernel
theorem dX7_waitFor_55 : decode cX7_waitFor 55 = .ok (.imul, 1) := by decide +kernel
theorem dX7_waitFor_56 : decode cX7_waitFor 56 = .ok (.istore 5, 2) := by decide +kernel
theorem dX7_waitFor_58 : decode cX7_waitFor 58 = .ok (.aload_n 0, 1) := by decide +kernel
theorem dX7_waitFor_59 : decode cX7_waitFor 59 = .ok (.iload_n 1, 1) := by decide +kernel
theorem dX7_waitFor_60 : decode cX7_waitFor 60 = .ok (.iload 4, 2) := by decide +kernel
theorem dX7_waitFor_62 : decode cX7_waitFor 62 = .ok (.invokevirtual 172, 3) := by decide +kernel
theorem dX7_waitFor_65 : decode cX7_waitFor 65 = .ok (.iconst 0, 1) := by decide +kernel
theorem dX7_waitFor_66 : decode cX7_waitFor 66 = .ok (.istore 6, 2) := by decide +kernel
theorem dX7_waitFor_68 : decode cX7_waitFor 68 = .ok (.iload 6, 2) := by decide +kernel
theorem dX7_waitFor_70 : decode cX7_waitFor 70 = .ok (.bipush 50, 2) := by decide +kernel
theorem dX7_waitFor_72 : decode cX7_waitFor 72 = .ok (.if_icmp .gt 33, 3) := by decide +kernel
theorem dX7_waitFor_75 : decode cX7_waitFor 75 = .ok (.aload_n 0, 1) := by decide +kernel
theorem dX7_waitFor_76 : decode cX7_waitFor 76 = .ok (.getfield 34, 3) := by decide +kernel
theorem dX7_waitFor_79 : decode cX7_waitFor 79 = .ok (.iconst 0, 1) := by decide +kernel
theorem dX7_waitFor_80 : decode cX7_waitFor 80 = .ok (.invokestatic 179, 3) := by decide +kernel
theorem dX7_waitFor_83 : decode cX7_waitFor 83 = .ok (.iload 5, 2) := by decide +kernel
theorem dX7_waitFor_85 : decode cX7_waitFor 85 = .ok (.if_icmp .lt 6, 3) := by decide +kernel
theorem dX7_waitFor_88 : decode cX7_waitFor 88 = .ok (.iload 6, 2) := by decide +kernel
theorem dX7_waitFor_90 : decode cX7_waitFor 90 = .ok (.ireturn, 1) := by decide +kernel
theorem dX7_waitFor_91 : decode cX7_waitFor 91 = .ok (.aload_n 0, 1) := by decide +kernel
theorem dX7_waitFor_92 : decode cX7_waitFor 92 = .ok (.iload_n 1, 1) := by decide +kernel
theorem dX7_waitFor_93 : decode cX7_waitFor 93 = .ok (.iload 4, 2) := by decide +kernel
theorem dX7_waitFor_95 : decode cX7_waitFor 95 = .ok (.invokevirtual 176, 3) := by decide +kernel
theorem dX7_waitFor_98 : decode cX7_waitFor 98 = .ok (.pop, 1) := by decide +kernel
theorem dX7_waitFor_99 : decode cX7_waitFor 99 = .ok (.iinc 6 1, 3) := by decide +kernel
theorem dX7_waitFor_102 : decode cX7_waitFor 102 = .ok (.goto (-34), 3) := by decide +kernel
theorem dX7_waitFor_105 : decode cX7_waitFor 105 = .ok (.iconst (-1), 1) := by decide +kernel
theorem dX7_waitFor_106 : decode cX7_waitFor 106 = .ok (.ireturn, 1) := by decide +kernel
theorem dX7_bestShop_0 : decode cX7_bestShop 0 = .ok (.aload_n 0, 1) := by decide +kernel
theorem dX7_bestShop_1 : decode cX7_bestShop 1 = .ok (.iload_n 1, 1) := by decide +kernel
theorem dX7_bestShop_2 : decode cX7_bestShop 2 = .ok (.invokevirtual 138, 3) := by decide +kernel
theorem dX7_bestShop_5 : decode cX7_bestShop 5 = .ok (.invokestatic 119, 3) := by decide +kernel
theorem dX7_bestShop_8 : decode cX7_bestShop 8 = .ok (.iconst (-1), 1) := by decide +kernel
theorem dX7_bestShop_9 : decode cX7_bestShop 9 = .ok (.istore_n 2, 1) := by decide +kernel
theorem dX7_bestShop_10 : decode cX7_bestShop 10 = .ok (.iconst 0, 1) := by decide +kernel
theorem dX7_bestShop_11 : decode cX7_bestShop 11 = .ok (.istore_n 3, 1) := by decide +kernel
theorem dX7_bestShop_12 : decode cX7_bestShop 12 = .ok (.iconst 0, 1) := by decide +kernel
theorem dX7_bestShop_13 : decode cX7_bestShop 13 = .ok (.istore 4, 2) := by decide +kernel
theorem dX7_bestShop_15 : decode cX7_bestShop 15 = .ok (.iload 4, 2) := by decide +kernel
theorem dX7_bestShop_17 : decode cX7_bestShop 17 = .ok (.aload_n 0, 1) := by decide +kernel
theorem dX7_bestShop_18 : decode cX7_bestShop 18 = .ok (.getfield 40, 3) := by decide +kernel
theorem dX7_bestShop_21 : decode cX7_bestShop 21 = .ok (.getfield 90, 3) := by decide +kernel
theorem dX7_bestShop_24 : decode cX7_bestShop 24 = .ok (.if_icmp .ge 46, 3) := by decide +kernel
theorem dX7_bestShop_27 : decode cX7_bestShop 27 = .ok (.aload_n 0, 1) := by decide +kernel
theorem dX7_bestShop_28 : decode cX7_bestShop 28 = .ok (.getfield 47, 3) := by decide +kernel
theorem dX7_bestShop_31 : decode cX7_bestShop 31 = .ok (.getfield 216, 3) := by decide +kernel
theorem dX7_bestShop_34 : decode cX7_bestShop 34 = .ok (.iload 4, 2) := by decide +kernel
theorem dX7_bestShop_36 : decode cX7_bestShop 36 = .ok (.iload_n 1, 1) := by decide +kernel
theorem dX7_bestShop_37 : decode cX7_bestShop 37 = .ok (.invokestatic 219, 3) := by decide +kernel
theorem dX7_bestShop_40 : decode cX7_bestShop 40 = .ok (.iaload, 1) := by decide +kernel
theorem dX7_bestShop_41 : decode cX7_bestShop 41 = .ok (.istore 5, 2) := by decide +kernel
theorem dX7_bestShop_43 : decode cX7_bestShop 43 = .ok (.iload 5, 2) := by decide +kernel
theorem dX7_bestShop_45 : decode cX7_bestShop 45 = .ok (.iload_n 3, 1) := by decide +kernel
theorem dX7_bestShop_46 : decode cX7_bestShop 46 = .ok (.if_icmp .le 18, 3) := by decide +kernel
theorem dX7_bestShop_49 : decode cX7_bestShop 49 = .ok (.aload_n 0, 1) := by decide +kernel
theorem dX7_bestShop_50 : decode cX7_bestShop 50 = .ok (.iload 4, 2) := by decide +kernel
theorem dX7_bestShop_52 : decode cX7_bestShop 52 = .ok (.invokevirtual 231, 3) := by decide +kernel
theorem dX7_bestShop_55 : decode cX7_bestShop 55 = .ok (.ifCond .ne 9, 3) := by decide +kernel
theorem dX7_bestShop_58 : decode cX7_bestShop 58 = .ok (.iload 4, 2) := by decide +kernel
theorem dX7_bestShop_60 : decode cX7_bestShop 60 = .ok (.istore_n 2, 1) := by decide +kernel
theorem dX7_bestShop_61 : decode cX7_bestShop 61 = .ok (.iload 5, 2) := by decide +kernel
theorem dX7_bestShop_63 : decode cX7_bestShop 63 = .ok (.istore_n 3, 1) := by decide +kernel
theorem dX7_bestShop_64 : decode cX7_bestShop 64 = .ok (.iinc 4 1, 3) := by decide +kernel
theorem dX7_bestShop_67 : decode cX7_bestShop 67 = .ok (.goto (-52), 3) := by decide +kernel
theorem dX7_bestShop_70 : decode cX7_bestShop 70 = .ok (.iload_n 2, 1) := by decide +kernel
theorem dX7_bestShop_71 : decode cX7_bestShop 71 = .ok (.ireturn, 1) := by decide +kernel
theorem dX7_bestHouse_0 : decode cX7_bestHouse 0 = .ok (.aload_n 0, 1) := by decide +kernel
theorem dX7_bestHouse_1 : decode cX7_bestHouse 1 = .ok (.iload_n 1, 1) := by decide +kernel
theorem dX7_bestHouse_2 : decode cX7_bestHouse 2 = .ok (.invokevirtual 213, 3) := by decide +kernel
theorem dX7_bestHouse_5 : decode cX7_bestHouse 5 = .ok (.ifCond .eq 15, 3) := by decide +kernel
theorem dX7_bestHouse_8 : decode cX7_bestHouse 8 = .ok (.aload_n 0, 1) := by decide +kernel
theorem dX7_bestHouse_9 : decode cX7_bestHouse 9 = .ok (.iload_n 2, 1) := by decide +kernel
theorem dX7_bestHouse_10 : decode cX7_bestHouse 10 = .ok (.invokevirtual 138, 3) := by decide +kernel
theorem dX7_bestHouse_13 : decode cX7_bestHouse 13 = .ok (.ifCond .eq 7, 3) := by decide +kernel
theorem dX7_bestHouse_16 : decode cX7_bestHouse 16 = .ok (.iconst 1, 1) := by decide +kernel
theorem dX7_bestHouse_17 : decode cX7_bestHouse 17 = .ok (.goto 4, 3) := by decide +kernel
theorem dX7_bestHouse_20 : decode cX7_bestHouse 20 = .ok (.iconst 0, 1) := by decide +kernel
theorem dX7_bestHouse_21 : decode cX7_bestHouse 21 = .ok (.invokestatic 119, 3) := by decide +kernel
theorem dX7_bestHouse_24 : decode cX7_bestHouse 24 = .ok (.iconst (-1), 1) := by decide +kernel
theorem dX7_bestHouse_25 : decode cX7_bestHouse 25 = .ok (.istore_n 3, 1) := by decide +kernel
theorem dX7_bestHouse_26 : decode cX7_bestHouse 26 = .ok (.iconst 0, 1) := by decide +kernel
theorem dX7_bestHouse_27 : decode cX7_bestHouse 27 = .ok (.istore 4, 2) := by decide +kernel
theorem dX7_bestHouse_29 : decode cX7_bestHouse 29 = .ok (.iconst 0, 1) := by decide +kernel
theorem dX7_bestHouse_30 : decode cX7_bestHouse 30 = .ok (.istore 5, 2) := by decide +kernel
theorem dX7_bestHouse_32 : decode cX7_bestHouse 32 = .ok (.iload 5, 2) := by decide +kernel
theorem dX7_bestHouse_34 : decode cX7_bestHouse 34 = .ok (.aload_n 0, 1) := by decide +kernel
theorem dX7_bestHouse_35 : decode cX7_bestHouse 35 = .ok (.getfield 40, 3) := by decide +kernel
theorem dX7_bestHouse_38 : decode cX7_bestHouse 38 = .ok (.getfield 87, 3) := by decide +kernel
theorem dX7_bestHouse_41 : decode cX7_bestHouse 41 = .ok (.if_icmp .ge 33, 3) := by decide +kernel
theorem dX7_bestHouse_44 : decode cX7_bestHouse 44 = .ok (.aload_n 0, 1) := by decide +kernel
theorem dX7_bestHouse_45 : decode cX7_bestHouse 45 = .ok (.iload 5, 2) := by decide +kernel
theorem dX7_bestHouse_47 : decode cX7_bestHouse 47 = .ok (.iload_n 1, 1) := by decide +kernel
theorem dX7_bestHouse_48 : decode cX7_bestHouse 48 = .ok (.iload_n 2, 1) := by decide +kernel
theorem dX7_bestHouse_49 : decode cX7_bestHouse 49 = .ok (.invokevirtual 262, 3) := by decide +kernel
theorem dX7_bestHouse_52 : decode cX7_bestHouse 52 = .ok (.istore 6, 2) := by decide +kernel
theorem dX7_bestHouse_54 : decode cX7_bestHouse 54 = .ok (.iload 6, 2) := by decide +kernel
theorem dX7_bestHouse_56 : decode cX7_bestHouse 56 = .ok (.iload 4, 2) := by decide +kernel
theorem dX7_bestHouse_58 : decode cX7_bestHouse 58 = .ok (.if_icmp .le 10, 3) := by decide +kernel
theorem dX7_bestHouse_61 : decode cX7_bestHouse 61 = .ok (.iload 5, 2) := by decide +kernel
theorem dX7_bestHouse_63 : decode cX7_bestHouse 63 = .ok (.istore_n 3, 1) := by decide +kernel
theorem dX7_bestHouse_64 : decode cX7_bestHouse 64 = .ok (.iload 6, 2) := by decide +kernel
theorem dX7_bestHouse_66 : decode cX7_bestHouse 66 = .ok (.istore 4, 2) := by decide +kernel
theorem dX7_bestHouse_68 : decode cX7_bestHouse 68 = .ok (.iinc 5 1, 3) := by decide +kernel
theorem dX7_bestHouse_71 : decode cX7_bestHouse 71 = .ok (.goto (-39), 3) := by decide +kernel
theorem dX7_bestHouse_74 : decode cX7_bestHouse 74 = .ok (.iload_n 3, 1) := by decide +kernel
theorem dX7_bestHouse_75 : decode cX7_bestHouse 75 = .ok (.ireturn, 1) := by decide +kernel
theorem dX7_basketCost_0 : decode cX7_basketCost 0 = .ok (.aload_n 0, 1) := by decide +kernel
theorem dX7_basketCost_1 : decode cX7_basketCost 1 = .ok (.iload_n 1, 1) := by decide +kernel
theorem dX7_basketCost_2 : decode cX7_basketCost 2 = .ok (.invokevirtual 150, 3) := by decide +kernel
theorem dX7_basketCost_5 : decode cX7_basketCost 5 = .ok (.ifCond .eq 15, 3) := by decide +kernel
theorem dX7_basketCost_8 : decode cX7_basketCost 8 = .ok (.aload_n 0, 1) := by decide +kernel
theorem dX7_basketCost_9 : decode cX7_basketCost 9 = .ok (.iload_n 2, 1) := by decide +kernel
theorem dX7_basketCost_10 : decode cX7_basketCost 10 = .ok (.invokevirtual 213, 3) := by decide +kernel
theorem dX7_basketCost_13 : decode cX7_basketCost 13 = .ok (.ifCond .eq 7, 3) := by decide +kernel
theorem dX7_basketCost_16 : decode cX7_basketCost 16 = .ok (.iconst 1, 1) := by decide +kernel
theorem dX7_basketCost_17 : decode cX7_basketCost 17 = .ok (.goto 4, 3) := by decide +kernel
theorem dX7_basketCost_20 : decode cX7_basketCost 20 = .ok (.iconst 0, 1) := by decide +kernel
theorem dX7_basketCost_21 : decode cX7_basketCost 21 = .ok (.invokestatic 119, 3) := by decide +kernel
theorem dX7_basketCost_24 : decode cX7_basketCost 24 = .ok (.aload_n 0, 1) := by decide +kernel
theorem dX7_basketCost_25 : decode cX7_basketCost 25 = .ok (.iload_n 1, 1) := by decide +kernel
theorem dX7_basketCost_26 : decode cX7_basketCost 26 = .ok (.iload_n 2, 1) := by decide +kernel
theorem dX7_basketCost_27 : decode cX7_basketCost 27 = .ok (.invokevirtual 271, 3) := by decide +kernel
theorem dX7_basketCost_30 : decode cX7_basketCost 30 = .ok (.istore_n 3, 1) := by decide +kernel
theorem dX7_basketCost_31 : decode cX7_basketCost 31 = .ok (.iload_n 3, 1) := by decide +kernel
theorem dX7_basketCost_32 : decode cX7_basketCost 32 = .ok (.ifCond .eq 5, 3) := by decide +kernel
theorem dX7_basketCost_35 : decode cX7_basketCost 35 = .ok (.iload_n 3, 1) := by decide +kernel
theorem dX7_basketCost_36 : decode cX7_basketCost 36 = .ok (.ireturn, 1) := by decide +kernel
theorem dX7_basketCost_37 : decode cX7_basketCost 37 = .ok (.iconst 0, 1) := by decide +kernel
theorem dX7_basketCost_38 : decode cX7_basketCost 38 = .ok (.istore 4, 2) := by decide +kernel
theorem dX7_basketCost_40 : decode cX7_basketCost 40 = .ok (.iconst 0, 1) := by decide +kernel
theorem dX7_basketCost_41 : decode cX7_basketCost 41 = .ok (.istore 5, 2) := by decide +kernel
theorem dX7_basketCost_43 : decode cX7_basketCost 43 = .ok (.iload 5, 2) := by decide +kernel
theorem dX7_basketCost_45 : decode cX7_basketCost 45 = .ok (.aload_n 0, 1) := by decide +kernel
theorem dX7_basketCost_46 : decode cX7_basketCost 46 = .ok (.getfield 40, 3) := by decide +kernel
theorem dX7_basketCost_49 : decode cX7_basketCost 49 = .ok (.getfield 81, 3) := by decide +kernel
theorem dX7_basketCost_52 : decode cX7_basketCost 52 = .ok (.if_icmp .ge 24, 3) := by decide +kernel
theorem dX7_basketCost_55 : decode cX7_basketCost 55 = .ok (.iload 4, 2) := by decide +kernel
theorem dX7_basketCost_57 : decode cX7_basketCost 57 = .ok (.aload_n 0, 1) := by decide +kernel
theorem dX7_basketCost_58 : decode cX7_basketCost 58 = .ok (.getfield 30, 3) := by decide +kernel
theorem dX7_basketCost_61 : decode cX7_basketCost 61 = .ok (.getfield 283, 3) := by decide +kernel
theorem dX7_basketCost_64 : decode cX7_basketCost 64 = .ok (.iload 5, 2) := by decide +kernel
theorem dX7_basketCost_66 : decode cX7_basketCost 66 = .ok (.iaload, 1) := by decide +kernel
theorem dX7_basketCost_67 : decode cX7_basketCost 67 = .ok (.iadd, 1) := by decide +kernel
theorem dX7_basketCost_68 : decode cX7_basketCost 68 = .ok (.istore 4, 2) := by decide +kernel
theorem dX7_basketCost_70 : decode cX7_basketCost 70 = .ok (.iinc 5 1, 3) := by decide +kernel
theorem dX7_basketCost_73 : decode cX7_basketCost 73 = .ok (.goto (-30), 3) := by decide +kernel
theorem dX7_basketCost_76 : decode cX7_basketCost 76 = .ok (.iload 4, 2) := by decide +kernel
theorem dX7_basketCost_78 : decode cX7_basketCost 78 = .ok (.ireturn, 1) := by decide +kernel
theorem dX7_basketLeft_0 : decode cX7_basketLeft 0 = .ok (.aload_n 0, 1) := by decide +kernel
theorem dX7_basketLeft_1 : decode cX7_basketLeft 1 = .ok (.iload_n 1, 1) := by decide +kernel
theorem dX7_basketLeft_2 : decode cX7_basketLeft 2 = .ok (.invokevirtual 150, 3) := by decide +kernel
theorem dX7_basketLeft_5 : decode cX7_basketLeft 5 = .ok (.ifCond .eq 23, 3) := by decide +kernel
theorem dX7_basketLeft_8 : decode cX7_basketLeft 8 = .ok (.aload_n 0, 1) := by decide +kernel
theorem dX7_basketLeft_9 : decode cX7_basketLeft 9 = .ok (.iload_n 2, 1) := by decide +kernel
theorem dX7_basketLeft_10 : decode cX7_basketLeft 10 = .ok (.invokevirtual 213, 3) := by decide +kernel
theorem dX7_basketLeft_13 : decode cX7_basketLeft 13 = .ok (.ifCond .eq 15, 3) := by decide +kernel
theorem dX7_basketLeft_16 : decode cX7_basketLeft 16 = .ok (.aload_n 0, 1) := by decide +kernel
theorem dX7_basketLeft_17 : decode cX7_basketLeft 17 = .ok (.iload_n 3, 1) := by decide +kernel
theorem dX7_basketLeft_18 : decode cX7_basketLeft 18 = .ok (.invokevirtual 115, 3) := by decide +kernel
theorem dX7_basketLeft_21 : decode cX7_basketLeft 21 = .ok (.ifCond .eq 7, 3) := by decide +kernel
theorem dX7_basketLeft_24 : decode cX7_basketLeft 24 = .ok (.iconst 1, 1) := by decide +kernel
theorem dX7_basketLeft_25 : decode cX7_basketLeft 25 = .ok (.goto 4, 3) := by decide +kernel
theorem dX7_basketLeft_28 : decode cX7_basketLeft 28 = .ok (.iconst 0, 1) := by decide +kernel
theorem dX7_basketLeft_29 : decode cX7_basketLeft 29 = .ok (.invokestatic 119, 3) := by decide +kernel
theorem dX7_basketLeft_32 : decode cX7_basketLeft 32 = .ok (.aload_n 0, 1) := by decide +kernel
theorem dX7_basketLeft_33 : decode cX7_basketLeft 33 = .ok (.iload_n 1, 1) := by decide +kernel
theorem dX7_basketLeft_34 : decode cX7_basketLeft 34 = .ok (.iload_n 2, 1) := by decide +kernel
theorem dX7_basketLeft_35 : decode cX7_basketLeft 35 = .ok (.invokevirtual 271, 3) := by decide +kernel
theorem dX7_basketLeft_38 : decode cX7_basketLeft 38 = .ok (.istore 4, 2) := by decide +kernel
theorem dX7_basketLeft_40 : decode cX7_basketLeft 40 = .ok (.iload 4, 2) := by decide +kernel
theorem dX7_basketLeft_42 : decode cX7_basketLeft 42 = .ok (.ifCond .eq 8, 3) := by decide +kernel
theorem dX7_basketLeft_45 : decode cX7_basketLeft 45 = .ok (.iload 4, 2) := by decide +kernel
theorem dX7_basketLeft_47 : decode cX7_basketLeft 47 = .ok (.goto 19, 3) := by decide +kernel
theorem dX7_basketLeft_50 : decode cX7_basketLeft 50 = .ok (.aload_n 0, 1) := by decide +kernel
theorem dX7_basketLeft_51 : decode cX7_basketLeft 51 = .ok (.iload_n 1, 1) := by decide +kernel
theorem dX7_basketLeft_52 : decode cX7_basketLeft 52 = .ok (.iload_n 3, 1) := by decide +kernel
theorem dX7_basketLeft_53 : decode cX7_basketLeft 53 = .ok (.invokevirtual 162, 3) := by decide +kernel
theorem dX7_basketLeft_56 : decode cX7_basketLeft 56 = .ok (.aload_n 0, 1) := by decide +kernel
theorem dX7_basketLeft_57 : decode cX7_basketLeft 57 = .ok (.getfield 30, 3) := by decide +kernel
theorem dX7_basketLeft_60 : decode cX7_basketLeft 60 = .ok (.getfield 283, 3) := by decide +kernel
theorem dX7_basketLeft_63 : decode cX7_basketLeft 63 = .ok (.iload_n 3, 1) := by decide +kernel
theorem dX7_basketLeft_64 : decode cX7_basketLeft 64 = .ok (.iaload, 1) := by decide +kernel
theorem dX7_basketLeft_65 : decode cX7_basketLeft 65 = .ok (.isub, 1) := by decide +kernel
theorem dX7_basketLeft_66 : decode cX7_basketLeft 66 = .ok (.ireturn, 1) := by decide +kernel
theorem dX7_swapChain_0 : decode cX7_swapChain 0 = .ok (.aload_n 0, 1) := by decide +kernel
theorem dX7_swapChain_1 : decode cX7_swapChain 1 = .ok (.iload_n 1, 1) := by decide +kernel
theorem dX7_swapChain_2 : decode cX7_swapChain 2 = .ok (.invokevirtual 115, 3) := by decide +kernel
theorem dX7_swapChain_5 : decode cX7_swapChain 5 = .ok (.invokestatic 119, 3) := by decide +kernel
theorem dX7_swapChain_8 : decode cX7_swapChain 8 = .ok (.iconst 1, 1) := by decide +kernel
theorem dX7_swapChain_9 : decode cX7_swapChain 9 = .ok (.iload_n 1, 1) := by decide +kernel
theorem dX7_swapChain_10 : decode cX7_swapChain 10 = .ok (.ishl, 1) := by decide +kernel
theorem dX7_swapChain_11 : decode cX7_swapChain 11 = .ok (.istore_n 2, 1) := by decide +kernel
theorem dX7_swapChain_12 : decode cX7_swapChain 12 = .ok (.aload_n 0, 1) := by decide +kernel
theorem dX7_swapChain_13 : decode cX7_swapChain 13 = .ok (.getfield 40, 3) := by decide +kernel
theorem dX7_swapChain_16 : decode cX7_swapChain 16 = .ok (.getfield 132, 3) := by decide +kernel
theorem dX7_swapChain_19 : decode cX7_swapChain 19 = .ok (.iload_n 1, 1) := by decide +kernel
theorem dX7_swapChain_20 : decode cX7_swapChain 20 = .ok (.iaload, 1) := by decide +kernel
theorem dX7_swapChain_21 : decode cX7_swapChain 21 = .ok (.istore_n 3, 1) := by decide +kernel
theorem dX7_swapChain_22 : decode cX7_swapChain 22 = .ok (.iconst 0, 1) := by decide +kernel
theorem dX7_swapChain_23 : decode cX7_swapChain 23 = .ok (.istore 4, 2) := by decide +kernel
theorem dX7_swapChain_25 : decode cX7_swapChain 25 = .ok (.iload 4, 2) := by decide +kernel
theorem dX7_swapChain_27 : decode cX7_swapChain 27 = .ok (.iconst 4, 1) := by decide +kernel
theorem dX7_swapChain_28 : decode cX7_swapChain 28 = .ok (.if_icmp .ge 40, 3) := by decide +kernel
theorem dX7_swapChain_31 : decode cX7_swapChain 31 = .ok (.iload_n 3, 1) := by decide +kernel
theorem dX7_swapChain_32 : decode cX7_swapChain 32 = .ok (.ifCond .lt 11, 3) := by decide +kernel
theorem dX7_swapChain_35 : decode cX7_swapChain 35 = .ok (.iload_n 2, 1) := by decide +kernel
theorem dX7_swapChain_36 : decode cX7_swapChain 36 = .ok (.iconst 1, 1) := by decide +kernel
theorem dX7_swapChain_37 : decode cX7_swapChain 37 = .ok (.iload_n 3, 1) := by decide +kernel
theorem dX7_swapChain_38 : decode cX7_swapChain 38 = .ok (.ishl, 1) := by decide +kernel
theorem dX7_swapChain_39 : decode cX7_swapChain 39 = .ok (.iand, 1) := by decide +kernel
theorem dX7_swapChain_40 : decode cX7_swapChain 40 = .ok (.ifCond .eq 6, 3) := by decide +kernel
theorem dX7_swapChain_43 : decode cX7_swapChain 43 = .ok (.iload 4, 2) := by decide +kernel
theorem dX7_swapChain_45 : decode cX7_swapChain 45 = .ok (.ireturn, 1) := by decide +kernel
theorem dX7_swapChain_46 : decode cX7_swapChain 46 = .ok (.iload_n 2, 1) := by decide +kernel
theorem dX7_swapChain_47 : decode cX7_swapChain 47 = .ok (.iconst 1, 1) := by decide +kernel
theorem dX7_swapChain_48 : decode cX7_swapChain 48 = .ok (.iload_n 3, 1) := by decide +kernel
theorem dX7_swapChain_49 : decode cX7_swapChain 49 = .ok (.ishl, 1) := by decide +kernel
theorem dX7_swapChain_50 : decode cX7_swapChain 50 = .ok (.ior, 1) := by decide +kernel
theorem dX7_swapChain_51 : decode cX7_swapChain 51 = .ok (.istore_n 2, 1) := by decide +kernel
theorem dX7_swapChain_52 : decode cX7_swapChain 52 = .ok (.aload_n 0, 1) := by decide +kernel
theorem dX7_swapChain_53 : decode cX7_swapChain 53 = .ok (.getfield 40, 3) := by decide +kernel
theorem dX7_swapChain_56 : decode cX7_swapChain 56 = .ok (.getfield 132, 3) := by decide +kernel
theorem dX7_swapChain_59 : decode cX7_swapChain 59 = .ok (.iload_n 3, 1) := by decide +kernel
theorem dX7_swapChain_60 : decode cX7_swapChain 60 = .ok (.iaload, 1) := by decide +kernel
theorem dX7_swapChain_61 : decode cX7_swapChain 61 = .ok (.istore_n 3, 1) := by decide +kernel
theorem dX7_swapChain_62 : decode cX7_swapChain 62 = .ok (.iinc 4 1, 3) := by decide +kernel
theorem dX7_swapChain_65 : decode cX7_swapChain 65 = .ok (.goto (-40), 3) := by decide +kernel
theorem dX7_swapChain_68 : decode cX7_swapChain 68 = .ok (.iconst 3, 1) := by decide +kernel
theorem dX7_swapChain_69 : decode cX7_swapChain 69 = .ok (.ireturn, 1) := by decide +kernel
theorem dX7_mostDeliverable_0 : decode cX7_mostDeliverable 0 = .ok (.aload_n 0, 1) := by decide +kernel
theorem dX7_mostDeliverable_1 : decode cX7_mostDeliverable 1 = .ok (.iload_n 1, 1) := by decide +kernel
theorem dX7_mostDeliverable_2 : decode cX7_mostDeliverable 2 = .ok (.invokevirtual 213, 3) := by decide +kernel
theorem dX7_mostDeliverable_5 : decode cX7_mostDeliverable 5 = .ok (.ifCond .eq 15, 3) := by decide +kernel
theorem dX7_mostDeliverable_8 : decode cX7_mostDeliverable 8 = .ok (.aload_n 0, 1) := by decide +kernel
theorem dX7_mostDeliverable_9 : decode cX7_mostDeliverable 9 = .ok (.iload_n 2, 1) := by decide +kernel
theorem dX7_mostDeliverable_10 : decode cX7_mostDeliverable 10 = .ok (.invokevirtual 138, 3) := by decide +kernel
theorem dX7_mostDeliverable_13 : decode cX7_mostDeliverable 13 = .ok (.ifCond .eq 7, 3) := by decide +kernel
theorem dX7_mostDeliverable_16 : decode cX7_mostDeliverable 16 = .ok (.iconst 1, 1) := by decide +kernel
theorem dX7_mostDeliverable_17 : decode cX7_mostDeliverable 17 = .ok (.goto 4, 3) := by decide +kernel
theorem dX7_mostDeliverable_20 : decode cX7_mostDeliverable 20 = .ok (.iconst 0, 1) := by decide +kernel
theorem dX7_mostDeliverable_21 : decode cX7_mostDeliverable 21 = .ok (.invokestatic 119, 3) := by decide +kernel
theorem dX7_mostDeliverable_24 : decode cX7_mostDeliverable 24 = .ok (.aload_n 0, 1) := by decide +kernel
theorem dX7_mostDeliverable_25 : decode cX7_mostDeliverable 25 = .ok (.getfield 47, 3) := by decide +kernel
theorem dX7_mostDeliverable_28 : decode cX7_mostDeliverable 28 = .ok (.getfield 222, 3) := by decide +kernel
theorem dX7_mostDeliverable_31 : decode cX7_mostDeliverable 31 = .ok (.iload_n 1, 1) := by decide +kernel
theorem dX7_mostDeliverable_32 : decode cX7_mostDeliverable 32 = .ok (.aload_n 0, 1) := by decide +kernel
theorem dX7_mostDeliverable_33 : decode cX7_mostDeliverable 33 = .ok (.getfield 40, 3) := by decide +kernel
theorem dX7_mostDeliverable_36 : decode cX7_mostDeliverable 36 = .ok (.getfield 141, 3) := by decide +kernel
theorem dX7_mostDeliverable_39 : decode cX7_mostDeliverable 39 = .ok (.iload_n 2, 1) := by decide +kernel
theorem dX7_mostDeliverable_40 : decode cX7_mostDeliverable 40 = .ok (.iaload, 1) := by decide +kernel
theorem dX7_mostDeliverable_41 : decode cX7_mostDeliverable 41 = .ok (.invokestatic 225, 3) := by decide +kernel
theorem dX7_mostDeliverable_44 : decode cX7_mostDeliverable 44 = .ok (.iaload, 1) := by decide +kernel
theorem dX7_mostDeliverable_45 : decode cX7_mostDeliverable 45 = .ok (.istore_n 3, 1) := by decide +kernel
theorem dX7_mostDeliverable_46 : decode cX7_mostDeliverable 46 = .ok (.ldc_w 286, 3) := by decide +kernel
theorem dX7_mostDeliverable_49 : decode cX7_mostDeliverable 49 = .ok (.aload_n 0, 1) := by decide +kernel
theorem dX7_mostDeliverable_50 : decode cX7_mostDeliverable 50 = .ok (.getfield 47, 3) := by decide +kernel
theorem dX7_mostDeliverable_53 : decode cX7_mostDeliverable 53 = .ok (.getfield 216, 3) := by decide +kernel
theorem dX7_mostDeliverable_56 : decode cX7_mostDeliverable 56 = .ok (.iload_n 1, 1) := by decide +kernel
theorem dX7_mostDeliverable_57 : decode cX7_mostDeliverable 57 = .ok (.iload_n 2, 1) := by decide +kernel
theorem dX7_mostDeliverable_58 : decode cX7_mostDeliverable 58 = .ok (.invokestatic 219, 3) := by decide +kernel
theorem dX7_mostDeliverable_61 : decode cX7_mostDeliverable 61 = .ok (.iaload, 1) := by decide +kernel
theorem dX7_mostDeliverable_62 : decode cX7_mostDeliverable 62 = .ok (.isub, 1) := by decide +kernel
theorem dX7_mostDeliverable_63 : decode cX7_mostDeliverable 63 = .ok (.istore 4, 2) := by decide +kernel
theorem dX7_mostDeliverable_65 : decode cX7_mostDeliverable 65 = .ok (.iload_n 3, 1) := by decide +kernel
theorem dX7_mostDeliverable_66 : decode cX7_mostDeliverable 66 = .ok (.aload_n 0, 1) := by decide +kernel
theorem dX7_mostDeliverable_67 : decode cX7_mostDeliverable 67 = .ok (.getfield 40, 3) := by decide +kernel
theorem dX7_mostDeliverable_70 : decode cX7_mostDeliverable 70 = .ok (.getfield 144, 3) := by decide +kernel
theorem dX7_mostDeliverable_73 : decode cX7_mostDeliverable 73 = .ok (.iload_n 2, 1) := by decide +kernel
theorem dX7_mostDeliverable_74 : decode cX7_mostDeliverable 74 = .ok (.iaload, 1) := by decide +kernel
theorem dX7_mostDeliverable_75 : decode cX7_mostDeliverable 75 = .ok (.invokestatic 265, 3) := by decide +kernel
theorem dX7_mostDeliverable_78 : decode cX7_mostDeliverable 78 = .ok (.iload 4, 2) := by decide +kernel
theorem dX7_mostDeliverable_80 : decode cX7_mostDeliverable 80 = .ok (.invokestatic 201, 3) := by decide +kernel
theorem dX7_mostDeliverable_83 : decode cX7_mostDeliverable 83 = .ok (.sipush 9999, 3) := by decide +kernel
theorem dX7_mostDeliverable_86 : decode cX7_mostDeliverable 86 = .ok (.invokestatic 201, 3) := by decide +kernel
theorem dX7_mostDeliverable_89 : decode cX7_mostDeliverable 89 = .ok (.ireturn, 1) := by decide +kernel
theorem dX7_spreadOf_0 : decode cX7_spreadOf 0 = .ok (.aload_n 0, 1) := by decide +kernel
theorem dX7_spreadOf_1 : decode cX7_spreadOf 1 = .ok (.iload_n 1, 1) := by decide +kernel
theorem dX7_spreadOf_2 : decode cX7_spreadOf 2 = .ok (.invokevirtual 115, 3) := by decide +kernel
theorem dX7_spreadOf_5 : decode cX7_spreadOf 5 = .ok (.invokestatic 119, 3) := by decide +kernel
theorem dX7_spreadOf_8 : decode cX7_spreadOf 8 = .ok (.aload_n 0, 1) := by decide +kernel
theorem dX7_spreadOf_9 : decode cX7_spreadOf 9 = .ok (.getfield 40, 3) := by decide +kernel
theorem dX7_spreadOf_12 : decode cX7_spreadOf 12 = .ok (.getfield 87, 3) := by decide +kernel
theorem dX7_spreadOf_15 : decode cX7_spreadOf 15 = .ok (.ifCond .ne 5, 3) := by decide +kernel
theorem dX7_spreadOf_18 : decode cX7_spreadOf 18 = .ok (.iconst 0, 1) := by decide +kernel
theorem dX7_spreadOf_19 : decode cX7_spreadOf 19 = .ok (.ireturn, 1) := by decide +kernel
theorem dX7_spreadOf_20 : decode cX7_spreadOf 20 = .ok (.aload_n 0, 1) := by decide +kernel
theorem dX7_spreadOf_21 : decode cX7_spreadOf 21 = .ok (.iconst 0, 1) := by decide +kernel
theorem dX7_spreadOf_22 : decode cX7_spreadOf 22 = .ok (.iload_n 1, 1) := by decide +kernel
theorem dX7_spreadOf_23 : decode cX7_spreadOf 23 = .ok (.invokevirtual 287, 3) := by decide +kernel
theorem dX7_spreadOf_26 : decode cX7_spreadOf 26 = .ok (.istore_n 2, 1) := by decide +kernel
theorem dX7_spreadOf_27 : decode cX7_spreadOf 27 = .ok (.iload_n 2, 1) := by decide +kernel
theorem dX7_spreadOf_28 : decode cX7_spreadOf 28 = .ok (.istore_n 3, 1) := by decide +kernel
theorem dX7_spreadOf_29 : decode cX7_spreadOf 29 = .ok (.iconst 1, 1) := by decide +kernel
theorem dX7_spreadOf_30 : decode cX7_spreadOf 30 = .ok (.istore 4, 2) := by decide +kernel
theorem dX7_spreadOf_32 : decode cX7_spreadOf 32 = .ok (.iload 4, 2) := by decide +kernel
theorem dX7_spreadOf_34 : decode cX7_spreadOf 34 = .ok (.aload_n 0, 1) := by decide +kernel
theorem dX7_spreadOf_35 : decode cX7_spreadOf 35 = .ok (.getfield 40, 3) := by decide +kernel
theorem dX7_spreadOf_38 : decode cX7_spreadOf 38 = .ok (.getfield 87, 3) := by decide +kernel
theorem dX7_spreadOf_41 : decode cX7_spreadOf 41 = .ok (.if_icmp .ge 32, 3) := by decide +kernel
theorem dX7_spreadOf_44 : decode cX7_spreadOf 44 = .ok (.aload_n 0, 1) := by decide +kernel
theorem dX7_spreadOf_45 : decode cX7_spreadOf 45 = .ok (.iload 4, 2) := by decide +kernel
theorem dX7_spreadOf_47 : decode cX7_spreadOf 47 = .ok (.iload_n 1, 1) := by decide +kernel
theorem dX7_spreadOf_48 : decode cX7_spreadOf 48 = .ok (.invokevirtual 287, 3) := by decide +kernel
theorem dX7_spreadOf_51 : decode cX7_spreadOf 51 = .ok (.istore 5, 2) := by decide +kernel
theorem dX7_spreadOf_53 : decode cX7_spreadOf 53 = .ok (.iload_n 2, 1) := by decide +kernel
theorem dX7_spreadOf_54 : decode cX7_spreadOf 54 = .ok (.iload 5, 2) := by decide +kernel
theorem dX7_spreadOf_56 : decode cX7_spreadOf 56 = .ok (.invokestatic 201, 3) := by decide +kernel
theorem dX7_spreadOf_59 : decode cX7_spreadOf 59 = .ok (.istore_n 2, 1) := by decide +kernel
theorem dX7_spreadOf_60 : decode cX7_spreadOf 60 = .ok (.iload_n 3, 1) := by decide +kernel
theorem dX7_spreadOf_61 : decode cX7_spreadOf 61 = .ok (.iload 5, 2) := by decide +kernel
theorem dX7_spreadOf_63 : decode cX7_spreadOf 63 = .ok (.invokestatic 290, 3) := by decide +kernel
theorem dX7_spreadOf_66 : decode cX7_spreadOf 66 = .ok (.istore_n 3, 1) := by decide +kernel
theorem dX7_spreadOf_67 : decode cX7_spreadOf 67 = .ok (.iinc 4 1, 3) := by decide +kernel
theorem dX7_spreadOf_70 : decode cX7_spreadOf 70 = .ok (.goto (-38), 3) := by decide +kernel
theorem dX7_spreadOf_73 : decode cX7_spreadOf 73 = .ok (.iload_n 3, 1) := by decide +kernel
theorem dX7_spreadOf_74 : decode cX7_spreadOf 74 = .ok (.iload_n 2, 1) := by decide +kernel
theorem dX7_spreadOf_75 : decode cX7_spreadOf 75 = .ok (.isub, 1) := by decide +kernel
theorem dX7_spreadOf_76 : decode cX7_spreadOf 76 = .ok (.ireturn, 1) := by decide +kernel
theorem dX7_percentEach_0 : decode cX7_percentEach 0 = .ok (.bipush 100, 2) := by decide +kernel
theorem dX7_percentEach_2 : decode cX7_percentEach 2 = .ok (.aload_n 0, 1) := by decide +kernel
theorem dX7_percentEach_3 : decode cX7_percentEach 3 = .ok (.iload_n 1, 1) := by decide +kernel
theorem dX7_percentEach_4 : decode cX7_percentEach 4 = .ok (.iload_n 2, 1) := by decide +kernel
theorem dX7_percentEach_5 : decode cX7_percentEach 5 = .ok (.invokevirtual 162, 3) := by decide +kernel
theorem dX7_percentEach_8 : decode cX7_percentEach 8 = .ok (.imul, 1) := by decide +kernel
theorem dX7_percentEach_9 : decode cX7_percentEach 9 = .ok (.aload_n 0, 1) := by decide +kernel
theorem dX7_percentEach_10 : decode cX7_percentEach 10 = .ok (.getfield 47, 3) := by decide +kernel
theorem dX7_percentEach_13 : decode cX7_percentEach 13 = .ok (.getfield 153, 3) := by decide +kernel
theorem dX7_percentEach_16 : decode cX7_percentEach 16 = .ok (.iload_n 1, 1) := by decide +kernel
theorem dX7_percentEach_17 : decode cX7_percentEach 17 = .ok (.iaload, 1) := by decide +kernel
theorem dX7_percentEach_18 : decode cX7_percentEach 18 = .ok (.invokestatic 265, 3) := by decide +kernel
theorem dX7_percentEach_21 : decode cX7_percentEach 21 = .ok (.ireturn, 1) := by decide +kernel
theorem dX7_levelMoves_0 : decode cX7_levelMoves 0 = .ok (.aload_n 0, 1) := by decide +kernel
theorem dX7_levelMoves_1 : decode cX7_levelMoves 1 = .ok (.iload_n 1, 1) := by decide +kernel
theorem dX7_levelMoves_2 : decode cX7_levelMoves 2 = .ok (.invokevirtual 115, 3) := by decide +kernel
theorem dX7_levelMoves_5 : decode cX7_levelMoves 5 = .ok (.invokestatic 119, 3) := by decide +kernel
theorem dX7_levelMoves_8 : decode cX7_levelMoves 8 = .ok (.iload_n 2, 1) := by decide +kernel
theorem dX7_levelMoves_9 : decode cX7_levelMoves 9 = .ok (.ifCond .lt 10, 3) := by decide +kernel
theorem dX7_levelMoves_12 : decode cX7_levelMoves 12 = .ok (.iload_n 2, 1) := by decide +kernel
theorem dX7_levelMoves_13 : decode cX7_levelMoves 13 = .ok (.sipush 999, 3) := by decide +kernel
theorem dX7_levelMoves_16 : decode cX7_levelMoves 16 = .ok (.if_icmp .le 6, 3) := by decide +kernel
theorem dX7_levelMoves_19 : decode cX7_levelMoves 19 = .ok (.bipush (-2), 2) := by decide +kernel
theorem dX7_levelMoves_21 : decode cX7_levelMoves 21 = .ok (.ireturn, 1) := by decide +kernel
theorem dX7_levelMoves_22 : decode cX7_levelMoves 22 = .ok (.iconst 0, 1) := by decide +kernel
theorem dX7_levelMoves_23 : decode cX7_levelMoves 23 = .ok (.istore_n 3, 1) := by decide +kernel
theorem dX7_levelMoves_24 : decode cX7_levelMoves 24 = .ok (.iconst 0, 1) := by decide +kernel
theorem dX7_levelMoves_25 : decode cX7_levelMoves 25 = .ok (.istore 4, 2) := by decide +kernel
theorem dX7_levelMoves_27 : decode cX7_levelMoves 27 = .ok (.iconst 0, 1) := by decide +kernel
theorem dX7_levelMoves_28 : decode cX7_levelMoves 28 = .ok (.istore 5, 2) := by decide +kernel
theorem dX7_levelMoves_30 : decode cX7_levelMoves 30 = .ok (.iload 5, 2) := by decide +kernel
theorem dX7_levelMoves_32 : decode cX7_levelMoves 32 = .ok (.aload_n 0, 1) := by decide +kernel
theorem dX7_levelMoves_33 : decode cX7_levelMoves 33 = .ok (.getfield 40, 3) := by decide +kernel
theorem dX7_levelMoves_36 : decode cX7_levelMoves 36 = .ok (.getfield 87, 3) := by decide +kernel
theorem dX7_levelMoves_39 : decode cX7_levelMoves 39 = .ok (.if_icmp .ge 47, 3) := by decide +kernel
theorem dX7_levelMoves_42 : decode cX7_levelMoves 42 = .ok (.iload_n 2, 1) := by decide +kernel
theorem dX7_levelMoves_43 : decode cX7_levelMoves 43 = .ok (.aload_n 0, 1) := by decide +kernel
theorem dX7_levelMoves_44 : decode cX7_levelMoves 44 = .ok (.getfield 47, 3) := by decide +kernel
theorem dX7_levelMoves_47 : decode cX7_levelMoves 47 = .ok (.getfield 153, 3) := by decide +kernel
theorem dX7_levelMoves_50 : decode cX7_levelMoves 50 = .ok (.iload 5, 2) := by decide +kernel
theorem dX7_levelMoves_52 : decode cX7_levelMoves 52 = .ok (.iaload, 1) := by decide +kernel
theorem dX7_levelMoves_53 : decode cX7_levelMoves 53 = .ok (.imul, 1) := by decide +kernel
theorem dX7_levelMoves_54 : decode cX7_levelMoves 54 = .ok (.istore 6, 2) := by decide +kernel
theorem dX7_levelMoves_56 : decode cX7_levelMoves 56 = .ok (.iload_n 3, 1) := by decide +kernel
theorem dX7_levelMoves_57 : decode cX7_levelMoves 57 = .ok (.iload 6, 2) := by decide +kernel
theorem dX7_levelMoves_59 : decode cX7_levelMoves 59 = .ok (.iadd, 1) := by decide +kernel
theorem dX7_levelMoves_60 : decode cX7_levelMoves 60 = .ok (.istore_n 3, 1) := by decide +kernel
theorem dX7_levelMoves_61 : decode cX7_levelMoves 61 = .ok (.iload 4, 2) := by decide +kernel
theorem dX7_levelMoves_63 : decode cX7_levelMoves 63 = .ok (.iconst 0, 1) := by decide +kernel
theorem dX7_levelMoves_64 : decode cX7_levelMoves 64 = .ok (.iload 6, 2) := by decide +kernel
theorem dX7_levelMoves_66 : decode cX7_levelMoves 66 = .ok (.aload_n 0, 1) := by decide +kernel
theorem dX7_levelMoves_67 : decode cX7_levelMoves 67 = .ok (.iload 5, 2) := by decide +kernel
theorem dX7_levelMoves_69 : decode cX7_levelMoves 69 = .ok (.iload_n 1, 1) := by decide +kernel
theorem dX7_levelMoves_70 : decode cX7_levelMoves 70 = .ok (.invokevirtual 162, 3) := by decide +kernel
theorem dX7_levelMoves_73 : decode cX7_levelMoves 73 = .ok (.isub, 1) := by decide +kernel
theorem dX7_levelMoves_74 : decode cX7_levelMoves 74 = .ok (.invokestatic 290, 3) := by decide +kernel
theorem dX7_levelMoves_77 : decode cX7_levelMoves 77 = .ok (.iadd, 1) := by decide +kernel
theorem dX7_levelMoves_78 : decode cX7_levelMoves 78 = .ok (.istore 4, 2) := by decide +kernel
theorem dX7_levelMoves_80 : decode cX7_levelMoves 80 = .ok (.iinc 5 1, 3) := by decide +kernel
theorem dX7_levelMoves_83 : decode cX7_levelMoves 83 = .ok (.goto (-53), 3) := by decide +kernel
theorem dX7_levelMoves_86 : decode cX7_levelMoves 86 = .ok (.iload_n 3, 1) := by decide +kernel
theorem dX7_levelMoves_87 : decode cX7_levelMoves 87 = .ok (.aload_n 0, 1) := by decide +kernel
theorem dX7_levelMoves_88 : decode cX7_levelMoves 88 = .ok (.iload_n 1, 1) := by decide +kernel
theorem dX7_levelMoves_89 : decode cX7_levelMoves 89 = .ok (.invokevirtual 249, 3) := by decide +kernel
theorem dX7_levelMoves_92 : decode cX7_levelMoves 92 = .ok (.if_icmp .gt 8, 3) := by decide +kernel
theorem dX7_levelMoves_95 : decode cX7_levelMoves 95 = .ok (.iload 4, 2) := by decide +kernel
theorem dX7_levelMoves_97 : decode cX7_levelMoves 97 = .ok (.goto 4, 3) := by decide +kernel
theorem dX7_levelMoves_100 : decode cX7_levelMoves 100 = .ok (.iconst (-1), 1) := by decide +kernel
theorem dX7_levelMoves_101 : decode cX7_levelMoves 101 = .ok (.ireturn, 1) := by decide +kernel
theorem dX7_lapseAfter_0 : decode cX7_lapseAfter 0 = .ok (.aload_n 0, 1) := by decide +kernel
theorem dX7_lapseAfter_1 : decode cX7_lapseAfter 1 = .ok (.iload_n 1, 1) := by decide +kernel
theorem dX7_lapseAfter_2 : decode cX7_lapseAfter 2 = .ok (.invokevirtual 150, 3) := by decide +kernel
theorem dX7_lapseAfter_5 : decode cX7_lapseAfter 5 = .ok (.ifCond .eq 15, 3) := by decide +kernel
theorem dX7_lapseAfter_8 : decode cX7_lapseAfter 8 = .ok (.aload_n 0, 1) := by decide +kernel
theorem dX7_lapseAfter_9 : decode cX7_lapseAfter 9 = .ok (.iload_n 2, 1) := by decide +kernel
theorem dX7_lapseAfter_10 : decode cX7_lapseAfter 10 = .ok (.invokevirtual 115, 3) := by decide +kernel
theorem dX7_lapseAfter_13 : decode cX7_lapseAfter 13 = .ok (.ifCond .eq 7, 3) := by decide +kernel
theorem dX7_lapseAfter_16 : decode cX7_lapseAfter 16 = .ok (.iconst 1, 1) := by decide +kernel
theorem dX7_lapseAfter_17 : decode cX7_lapseAfter 17 = .ok (.goto 4, 3) := by decide +kernel
theorem dX7_lapseAfter_20 : decode cX7_lapseAfter 20 = .ok (.iconst 0, 1) := by decide +kernel
theorem dX7_lapseAfter_21 : decode cX7_lapseAfter 21 = .ok (.invokestatic 119, 3) := by decide +kernel
theorem dX7_lapseAfter_24 : decode cX7_lapseAfter 24 = .ok (.iload_n 3, 1) := by decide +kernel
theorem dX7_lapseAfter_25 : decode cX7_lapseAfter 25 = .ok (.ifCond .lt 9, 3) := by decide +kernel
theorem dX7_lapseAfter_28 : decode cX7_lapseAfter 28 = .ok (.iload_n 3, 1) := by decide +kernel
theorem dX7_lapseAfter_29 : decode cX7_lapseAfter 29 = .ok (.bipush 50, 2) := by decide +kernel
theorem dX7_lapseAfter_31 : decode cX7_lapseAfter 31 = .ok (.if_icmp .le 6, 3) := by decide +kernel
theorem dX7_lapseAfter_34 : decode cX7_lapseAfter 34 = .ok (.bipush (-2), 2) := by decide +kernel
theorem dX7_lapseAfter_36 : decode cX7_lapseAfter 36 = .ok (.ireturn, 1) := by decide +kernel
theorem dX7_lapseAfter_37 : decode cX7_lapseAfter 37 = .ok (.aload_n 0, 1) := by decide +kernel
theorem dX7_lapseAfter_38 : decode cX7_lapseAfter 38 = .ok (.iload_n 1, 1) := by decide +kernel
theorem dX7_lapseAfter_39 : decode cX7_lapseAfter 39 = .ok (.iload_n 2, 1) := by decide +kernel
theorem dX7_lapseAfter_40 : decode cX7_lapseAfter 40 = .ok (.invokevirtual 172, 3) := by decide +kernel
theorem dX7_lapseAfter_43 : decode cX7_lapseAfter 43 = .ok (.iconst 0, 1) := by decide +kernel
theorem dX7_lapseAfter_44 : decode cX7_lapseAfter 44 = .ok (.istore 4, 2) := by decide +kernel
theorem dX7_lapseAfter_46 : decode cX7_lapseAfter 46 = .ok (.iconst 0, 1) := by decide +kernel
theorem dX7_lapseAfter_47 : decode cX7_lapseAfter 47 = .ok (.istore 5, 2) := by decide +kernel
theorem dX7_lapseAfter_49 : decode cX7_lapseAfter 49 = .ok (.iload 5, 2) := by decide +kernel
theorem dX7_lapseAfter_51 : decode cX7_lapseAfter 51 = .ok (.iload_n 3, 1) := by decide +kernel
theorem dX7_lapseAfter_52 : decode cX7_lapseAfter 52 = .ok (.if_icmp .ge 20, 3) := by decide +kernel
theorem dX7_lapseAfter_55 : decode cX7_lapseAfter 55 = .ok (.iload 4, 2) := by decide +kernel
theorem dX7_lapseAfter_57 : decode cX7_lapseAfter 57 = .ok (.aload_n 0, 1) := by decide +kernel
theorem dX7_lapseAfter_58 : decode cX7_lapseAfter 58 = .ok (.iload_n 1, 1) := by decide +kernel
theorem dX7_lapseAfter_59 : decode cX7_lapseAfter 59 = .ok (.iload_n 2, 1) := by decide +kernel
theorem dX7_lapseAfter_60 : decode cX7_lapseAfter 60 = .ok (.invokevirtual 176, 3) := by decide +kernel
theorem dX7_lapseAfter_63 : decode cX7_lapseAfter 63 = .ok (.iadd, 1) := by decide +kernel
theorem dX7_lapseAfter_64 : decode cX7_lapseAfter 64 = .ok (.istore 4, 2) := by decide +kernel
theorem dX7_lapseAfter_66 : decode cX7_lapseAfter 66 = .ok (.iinc 5 1, 3) := by decide +kernel
theorem dX7_lapseAfter_69 : decode cX7_lapseAfter 69 = .ok (.goto (-20), 3) := by decide +kernel
theorem dX7_lapseAfter_72 : decode cX7_lapseAfter 72 = .ok (.iload 4, 2) := by decide +kernel
theorem dX7_lapseAfter_74 : decode cX7_lapseAfter 74 = .ok (.ireturn, 1) := by decide +kernel
theorem dX7_supplyPeriods_0 : decode cX7_supplyPeriods 0 = .ok (.aload_n 0, 1) := by decide +kernel
theorem dX7_supplyPeriods_1 : decode cX7_supplyPeriods 1 = .ok (.iload_n 1, 1) := by decide +kernel
theorem dX7_supplyPeriods_2 : decode cX7_supplyPeriods 2 = .ok (.invokevirtual 150, 3) := by decide +kernel
theorem dX7_supplyPeriods_5 : decode cX7_supplyPeriods 5 = .ok (.ifCond .eq 15, 3) := by decide +kernel
theorem dX7_supplyPeriods_8 : decode cX7_supplyPeriods 8 = .ok (.aload_n 0, 1) := by decide +kernel
theorem dX7_supplyPeriods_9 : decode cX7_supplyPeriods 9 = .ok (.iload_n 2, 1) := by decide +kernel
theorem dX7_supplyPeriods_10 : decode cX7_supplyPeriods 10 = .ok (.invokevirtual 138, 3) := by decide +kernel
theorem dX7_supplyPeriods_13 : decode cX7_supplyPeriods 13 = .ok (.ifCond .eq 7, 3) := by decide +kernel
theorem dX7_supplyPeriods_16 : decode cX7_supplyPeriods 16 = .ok (.iconst 1, 1) := by decide +kernel
theorem dX7_supplyPeriods_17 : decode cX7_supplyPeriods 17 = .ok (.goto 4, 3) := by decide +kernel
theorem dX7_supplyPeriods_20 : decode cX7_supplyPeriods 20 = .ok (.iconst 0, 1) := by decide +kernel
theorem dX7_supplyPeriods_21 : decode cX7_supplyPeriods 21 = .ok (.invokestatic 119, 3) := by decide +kernel
theorem dX7_supplyPeriods_24 : decode cX7_supplyPeriods 24 = .ok (.iload_n 3, 1) := by decide +kernel
theorem dX7_supplyPeriods_25 : decode cX7_supplyPeriods 25 = .ok (.invokestatic 252, 3) := by decide +kernel
theorem dX7_supplyPeriods_28 : decode cX7_supplyPeriods 28 = .ok (.ifCond .ne 6, 3) := by decide +kernel
theorem dX7_supplyPeriods_31 : decode cX7_supplyPeriods 31 = .ok (.bipush (-2), 2) := by decide +kernel
theorem dX7_supplyPeriods_33 : decode cX7_supplyPeriods 33 = .ok (.ireturn, 1) := by decide +kernel
theorem dX7_supplyPeriods_34 : decode cX7_supplyPeriods 34 = .ok (.aload_n 0, 1) := by decide +kernel
theorem dX7_supplyPeriods_35 : decode cX7_supplyPeriods 35 = .ok (.getfield 40, 3) := by decide +kernel
theorem dX7_supplyPeriods_38 : decode cX7_supplyPeriods 38 = .ok (.getfield 141, 3) := by decide +kernel
theorem dX7_supplyPeriods_41 : decode cX7_supplyPeriods 41 = .ok (.iload_n 2, 1) := by decide +kernel
theorem dX7_supplyPeriods_42 : decode cX7_supplyPeriods 42 = .ok (.iaload, 1) := by decide +kernel
theorem dX7_supplyPeriods_43 : decode cX7_supplyPeriods 43 = .ok (.istore 4, 2) := by decide +kernel
theorem dX7_supplyPeriods_45 : decode cX7_supplyPeriods 45 = .ok (.iload_n 3, 1) := by decide +kernel
theorem dX7_supplyPeriods_46 : decode cX7_supplyPeriods 46 = .ok (.aload_n 0, 1) := by decide +kernel
theorem dX7_supplyPeriods_47 : decode cX7_supplyPeriods 47 = .ok (.getfield 40, 3) := by decide +kernel
theorem dX7_supplyPeriods_50 : decode cX7_supplyPeriods 50 = .ok (.getfield 144, 3) := by decide +kernel
theorem dX7_supplyPeriods_53 : decode cX7_supplyPeriods 53 = .ok (.iload_n 2, 1) := by decide +kernel
theorem dX7_supplyPeriods_54 : decode cX7_supplyPeriods 54 = .ok (.iaload, 1) := by decide +kernel
theorem dX7_supplyPeriods_55 : decode cX7_supplyPeriods 55 = .ok (.imul, 1) := by decide +kernel
theorem dX7_supplyPeriods_56 : decode cX7_supplyPeriods 56 = .ok (.istore 5, 2) := by decide +kernel
theorem dX7_supplyPeriods_58 : decode cX7_supplyPeriods 58 = .ok (.aload_n 0, 1) := by decide +kernel
theorem dX7_supplyPeriods_59 : decode cX7_supplyPeriods 59 = .ok (.iload_n 1, 1) := by decide +kernel
theorem dX7_supplyPeriods_60 : decode cX7_supplyPeriods 60 = .ok (.iload 4, 2) := by decide +kernel
theorem dX7_supplyPeriods_62 : decode cX7_supplyPeriods 62 = .ok (.invokevirtual 172, 3) := by decide +kernel
theorem dX7_supplyPeriods_65 : decode cX7_supplyPeriods 65 = .ok (.iconst 0, 1) := by decide +kernel
theorem dX7_supplyPeriods_66 : decode cX7_supplyPeriods 66 = .ok (.istore 6, 2) := by decide +kernel
theorem dX7_supplyPeriods_68 : decode cX7_supplyPeriods 68 = .ok (.iload 6, 2) := by decide +kernel
theorem dX7_supplyPeriods_70 : decode cX7_supplyPeriods 70 = .ok (.bipush 50, 2) := by decide +kernel
theorem dX7_supplyPeriods_72 : decode cX7_supplyPeriods 72 = .ok (.if_icmp .ge 43, 3) := by decide +kernel
theorem dX7_supplyPeriods_75 : decode cX7_supplyPeriods 75 = .ok (.aload_n 0, 1) := by decide +kernel
theorem dX7_supplyPeriods_76 : decode cX7_supplyPeriods 76 = .ok (.getfield 34, 3) := by decide +kernel
theorem dX7_supplyPeriods_79 : decode cX7_supplyPeriods 79 = .ok (.iconst 0, 1) := by decide +kernel
theorem dX7_supplyPeriods_80 : decode cX7_supplyPeriods 80 = .ok (.invokestatic 179, 3) := by decide +kernel
theorem dX7_supplyPeriods_83 : decode cX7_supplyPeriods 83 = .ok (.iload 5, 2) := by decide +kernel
theorem dX7_supplyPeriods_85 : decode cX7_supplyPeriods 85 = .ok (.if_icmp .ge 6, 3) := by decide +kernel
theorem dX7_supplyPeriods_88 : decode cX7_supplyPeriods 88 = .ok (.iload 6, 2) := by decide +kernel
theorem dX7_supplyPeriods_90 : decode cX7_supplyPeriods 90 = .ok (.ireturn, 1) := by decide +kernel
theorem dX7_supplyPeriods_91 : decode cX7_supplyPeriods 91 = .ok (.aload_n 0, 1) := by decide +kernel
theorem dX7_supplyPeriods_92 : decode cX7_supplyPeriods 92 = .ok (.getfield 34, 3) := by decide +kernel
theorem dX7_supplyPeriods_95 : decode cX7_supplyPeriods 95 = .ok (.iconst 0, 1) := by decide +kernel
theorem dX7_supplyPeriods_96 : decode cX7_supplyPeriods 96 = .ok (.iload 5, 2) := by decide +kernel
theorem dX7_supplyPeriods_98 : decode cX7_supplyPeriods 98 = .ok (.invokestatic 293, 3) := by decide +kernel
theorem dX7_supplyPeriods_101 : decode cX7_supplyPeriods 101 = .ok (.aload_n 0, 1) := by decide +kernel
theorem dX7_supplyPeriods_102 : decode cX7_supplyPeriods 102 = .ok (.iload_n 1, 1) := by decide +kernel
theorem dX7_supplyPeriods_103 : decode cX7_supplyPeriods 103 = .ok (.iload 4, 2) := by decide +kernel
theorem dX7_supplyPeriods_105 : decode cX7_supplyPeriods 105 = .ok (.invokevirtual 176, 3) := by decide +kernel
theorem dX7_supplyPeriods_108 : decode cX7_supplyPeriods 108 = .ok (.pop, 1) := by decide +kernel
theorem dX7_supplyPeriods_109 : decode cX7_supplyPeriods 109 = .ok (.iinc 6 1, 3) := by decide +kernel
theorem dX7_supplyPeriods_112 : decode cX7_supplyPeriods 112 = .ok (.goto (-44), 3) := by decide +kernel
theorem dX7_supplyPeriods_115 : decode cX7_supplyPeriods 115 = .ok (.bipush 50, 2) := by decide +kernel
theorem dX7_supplyPeriods_117 : decode cX7_supplyPeriods 117 = .ok (.ireturn, 1) := by decide +kernel
theorem dX7_buy_0 : decode cX7_buy 0 = .ok (.aload_n 0, 1) := by decide +kernel
theorem dX7_buy_1 : decode cX7_buy 1 = .ok (.iload_n 1, 1) := by decide +kernel
theorem dX7_buy_2 : decode cX7_buy 2 = .ok (.invokevirtual 150, 3) := by decide +kernel
theorem dX7_buy_5 : decode cX7_buy 5 = .ok (.ifCond .eq 19, 3) := by decide +kernel
theorem dX7_buy_8 : decode cX7_buy 8 = .ok (.aload_n 0, 1) := by decide +kernel
theorem dX7_buy_9 : decode cX7_buy 9 = .ok (.iload_n 2, 1) := by decide +kernel
theorem dX7_buy_10 : decode cX7_buy 10 = .ok (.invokevirtual 213, 3) := by decide +kernel
theorem dX7_buy_13 : decode cX7_buy 13 = .ok (.ifCond .eq 11, 3) := by decide +kernel
theorem dX7_buy_16 : decode cX7_buy 16 = .ok (.aload_n 0, 1) := by decide +kernel
theorem dX7_buy_17 : decode cX7_buy 17 = .ok (.iload_n 3, 1) := by decide +kernel
theorem dX7_buy_18 : decode cX7_buy 18 = .ok (.invokevirtual 138, 3) := by decide +kernel
theorem dX7_buy_21 : decode cX7_buy 21 = .ok (.ifCond .ne 5, 3) := by decide +kernel
theorem dX7_buy_24 : decode cX7_buy 24 = .ok (.iconst (-1), 1) := by decide +kernel
theorem dX7_buy_25 : decode cX7_buy 25 = .ok (.ireturn, 1) := by decide +kernel
theorem dX7_buy_26 : decode cX7_buy 26 = .ok (.iload 4, 2) := by decide +kernel
theorem dX7_buy_28 : decode cX7_buy 28 = .ok (.invokestatic 252, 3) := by decide +kernel
theorem dX7_buy_31 : decode cX7_buy 31 = .ok (.ifCond .ne 6, 3) := by decide +kernel
theorem dX7_buy_34 : decode cX7_buy 34 = .ok (.bipush (-2), 2) := by decide +kernel
theorem dX7_buy_36 : decode cX7_buy 36 = .ok (.ireturn, 1) := by decide +kernel
theorem dX7_buy_37 : decode cX7_buy 37 = .ok (.aload_n 0, 1) := by decide +kernel
theorem dX7_buy_38 : decode cX7_buy 38 = .ok (.iload_n 1, 1) := by decide +kernel
theorem dX7_buy_39 : decode cX7_buy 39 = .ok (.iload_n 2, 1) := by decide +kernel
theorem dX7_buy_40 : decode cX7_buy 40 = .ok (.iload_n 3, 1) := by decide +kernel
theorem dX7_buy_41 : decode cX7_buy 41 = .ok (.iload 4, 2) := by decide +kernel
theorem dX7_buy_43 : decode cX7_buy 43 = .ok (.invokevirtual 255, 3) := by decide +kernel
theorem dX7_buy_46 : decode cX7_buy 46 = .ok (.istore 5, 2) := by decide +kernel
theorem dX7_buy_48 : decode cX7_buy 48 = .ok (.iload 5, 2) := by decide +kernel
theorem dX7_buy_50 : decode cX7_buy 50 = .ok (.ifCond .eq 17, 3) := by decide +kernel
theorem dX7_buy_53 : decode cX7_buy 53 = .ok (.iload 5, 2) := by decide +kernel
theorem dX7_buy_55 : decode cX7_buy 55 = .ok (.iconst 3, 1) := by decide +kernel
theorem dX7_buy_56 : decode cX7_buy 56 = .ok (.if_icmp .ne 8, 3) := by decide +kernel
theorem dX7_buy_59 : decode cX7_buy 59 = .ok (.bipush (-5), 2) := by decide +kernel
theorem dX7_buy_61 : decode cX7_buy 61 = .ok (.goto 5, 3) := by decide +kernel
theorem dX7_buy_64 : decode cX7_buy 64 = .ok (.bipush (-6), 2) := by decide +kernel
theorem dX7_buy_66 : decode cX7_buy 66 = .ok (.ireturn, 1) := by decide +kernel
theorem dX7_buy_67 : decode cX7_buy 67 = .ok (.aload_n 0, 1) := by decide +kernel
theorem dX7_buy_68 : decode cX7_buy 68 = .ok (.getfield 23, 3) := by decide +kernel
theorem dX7_buy_71 : decode cX7_buy 71 = .ok (.aload_n 0, 1) := by decide +kernel
theorem dX7_buy_72 : decode cX7_buy 72 = .ok (.getfield 47, 3) := by decide +kernel
theorem dX7_buy_75 : decode cX7_buy 75 = .ok (.invokevirtual 297, 3) := by decide +kernel
theorem dX7_buy_78 : decode cX7_buy 78 = .ok (.iload_n 2, 1) := by decide +kernel
theorem dX7_buy_79 : decode cX7_buy 79 = .ok (.iload_n 3, 1) := by decide +kernel
theorem dX7_buy_80 : decode cX7_buy 80 = .ok (.invokestatic 219, 3) := by decide +kernel
theorem dX7_buy_83 : decode cX7_buy 83 = .ok (.istore 6, 2) := by decide +kernel
theorem dX7_buy_85 : decode cX7_buy 85 = .ok (.aload_n 0, 1) := by decide +kernel
theorem dX7_buy_86 : decode cX7_buy 86 = .ok (.getfield 47, 3) := by decide +kernel
theorem dX7_buy_89 : decode cX7_buy 89 = .ok (.getfield 216, 3) := by decide +kernel
theorem dX7_buy_92 : decode cX7_buy 92 = .ok (.iload 6, 2) := by decide +kernel
theorem dX7_buy_94 : decode cX7_buy 94 = .ok (.dup2, 1) := by decide +kernel
theorem dX7_buy_95 : decode cX7_buy 95 = .ok (.iaload, 1) := by decide +kernel
theorem dX7_buy_96 : decode cX7_buy 96 = .ok (.iload 4, 2) := by decide +kernel
theorem dX7_buy_98 : decode cX7_buy 98 = .ok (.isub, 1) := by decide +kernel
theorem dX7_buy_99 : decode cX7_buy 99 = .ok (.iastore, 1) := by decide +kernel
theorem dX7_buy_100 : decode cX7_buy 100 = .ok (.aload_n 0, 1) := by decide +kernel
theorem dX7_buy_101 : decode cX7_buy 101 = .ok (.getfield 47, 3) := by decide +kernel
theorem dX7_buy_104 : decode cX7_buy 104 = .ok (.getfield 234, 3) := by decide +kernel
theorem dX7_buy_107 : decode cX7_buy 107 = .ok (.iload 6, 2) := by decide +kernel
theorem dX7_buy_109 : decode cX7_buy 109 = .ok (.dup2, 1) := by decide +kernel
theorem dX7_buy_110 : decode cX7_buy 110 = .ok (.iaload, 1) := by decide +kernel
theorem dX7_buy_111 : decode cX7_buy 111 = .ok (.iload 4, 2) := by decide +kernel
theorem dX7_buy_113 : decode cX7_buy 113 = .ok (.iadd, 1) := by decide +kernel
theorem dX7_buy_114 : decode cX7_buy 114 = .ok (.iastore, 1) := by decide +kernel
theorem dX7_buy_115 : decode cX7_buy 115 = .ok (.aload_n 0, 1) := by decide +kernel
theorem dX7_buy_116 : decode cX7_buy 116 = .ok (.getfield 47, 3) := by decide +kernel
theorem dX7_buy_119 : decode cX7_buy 119 = .ok (.getfield 222, 3) := by decide +kernel
theorem dX7_buy_122 : decode cX7_buy 122 = .ok (.iload_n 2, 1) := by decide +kernel
theorem dX7_buy_123 : decode cX7_buy 123 = .ok (.aload_n 0, 1) := by decide +kernel
theorem dX7_buy_124 : decode cX7_buy 124 = .ok (.getfield 40, 3) := by decide +kernel
theorem dX7_buy_127 : decode cX7_buy 127 = .ok (.getfield 141, 3) := by decide +kernel
theorem dX7_buy_130 : decode cX7_buy 130 = .ok (.iload_n 3, 1) := by decide +kernel
theorem dX7_buy_131 : decode cX7_buy 131 = .ok (.iaload, 1) := by decide +kernel
theorem dX7_buy_132 : decode cX7_buy 132 = .ok (.invokestatic 225, 3) := by decide +kernel
theorem dX7_buy_135 : decode cX7_buy 135 = .ok (.dup2, 1) := by decide +kernel
theorem dX7_buy_136 : decode cX7_buy 136 = .ok (.iaload, 1) := by decide +kernel
theorem dX7_buy_137 : decode cX7_buy 137 = .ok (.iload 4, 2) := by decide +kernel
theorem dX7_buy_139 : decode cX7_buy 139 = .ok (.aload_n 0, 1) := by decide +kernel
theorem dX7_buy_140 : decode cX7_buy 140 = .ok (.getfield 40, 3) := by decide +kernel
theorem dX7_buy_143 : decode cX7_buy 143 = .ok (.getfield 144, 3) := by decide +kernel
theorem dX7_buy_146 : decode cX7_buy 146 = .ok (.iload_n 3, 1) := by decide +kernel
theorem dX7_buy_147 : decode cX7_buy 147 = .ok (.iaload, 1) := by decide +kernel
theorem dX7_buy_148 : decode cX7_buy 148 = .ok (.imul, 1) := by decide +kernel
theorem dX7_buy_149 : decode cX7_buy 149 = .ok (.iadd, 1) := by decide +kernel
theorem dX7_buy_150 : decode cX7_buy 150 = .ok (.iastore, 1) := by decide +kernel
theorem dX7_buy_151 : decode cX7_buy 151 = .ok (.aload_n 0, 1) := by decide +kernel
theorem dX7_buy_152 : decode cX7_buy 152 = .ok (.iload_n 1, 1) := by decide +kernel
theorem dX7_buy_153 : decode cX7_buy 153 = .ok (.iload_n 3, 1) := by decide +kernel
theorem dX7_buy_154 : decode cX7_buy 154 = .ok (.iload 4, 2) := by decide +kernel
theorem dX7_buy_156 : decode cX7_buy 156 = .ok (.invokevirtual 301, 3) := by decide +kernel
theorem dX7_buy_159 : decode cX7_buy 159 = .ok (.aload_n 0, 1) := by decide +kernel
theorem dX7_buy_160 : decode cX7_buy 160 = .ok (.iload_n 1, 1) := by decide +kernel
theorem dX7_buy_161 : decode cX7_buy 161 = .ok (.aload_n 0, 1) := by decide +kernel
theorem dX7_buy_162 : decode cX7_buy 162 = .ok (.getfield 40, 3) := by decide +kernel
theorem dX7_buy_165 : decode cX7_buy 165 = .ok (.getfield 141, 3) := by decide +kernel
theorem dX7_buy_168 : decode cX7_buy 168 = .ok (.iload_n 3, 1) := by decide +kernel
theorem dX7_buy_169 : decode cX7_buy 169 = .ok (.iaload, 1) := by decide +kernel
theorem dX7_buy_170 : decode cX7_buy 170 = .ok (.invokevirtual 162, 3) := by decide +kernel
theorem dX7_buy_173 : decode cX7_buy 173 = .ok (.ireturn, 1) := by decide +kernel
theorem dX7_pay_0 : decode cX7_pay 0 = .ok (.aload_n 0, 1) := by decide +kernel
theorem dX7_pay_1 : decode cX7_pay 1 = .ok (.getfield 40, 3) := by decide +kernel
theorem dX7_pay_4 : decode cX7_pay 4 = .ok (.getfield 141, 3) := by decide +kernel
theorem dX7_pay_7 : decode cX7_pay 7 = .ok (.iload_n 2, 1) := by decide +kernel
theorem dX7_pay_8 : decode cX7_pay 8 = .ok (.iaload, 1) := by decide +kernel
theorem dX7_pay_9 : decode cX7_pay 9 = .ok (.istore 4, 2) := by decide +kernel
theorem dX7_pay_11 : decode cX7_pay 11 = .ok (.aload_n 0, 1) := by decide +kernel
theorem dX7_pay_12 : decode cX7_pay 12 = .ok (.getfield 40, 3) := by decide +kernel
theorem dX7_pay_15 : decode cX7_pay 15 = .ok (.getfield 132, 3) := by decide +kernel
theorem dX7_pay_18 : decode cX7_pay 18 = .ok (.iload 4, 2) := by decide +kernel
theorem dX7_pay_20 : decode cX7_pay 20 = .ok (.iaload, 1) := by decide +kernel
theorem dX7_pay_21 : decode cX7_pay 21 = .ok (.istore 5, 2) := by decide +kernel
theorem dX7_pay_23 : decode cX7_pay 23 = .ok (.aload_n 0, 1) := by decide +kernel
theorem dX7_pay_24 : decode cX7_pay 24 = .ok (.iload_n 1, 1) := by decide +kernel
theorem dX7_pay_25 : decode cX7_pay 25 = .ok (.iload_n 2, 1) := by decide +kernel
theorem dX7_pay_26 : decode cX7_pay 26 = .ok (.iload_n 3, 1) := by decide +kernel
theorem dX7_pay_27 : decode cX7_pay 27 = .ok (.invokevirtual 268, 3) := by decide +kernel
theorem dX7_pay_30 : decode cX7_pay 30 = .ok (.istore 6, 2) := by decide +kernel
theorem dX7_pay_32 : decode cX7_pay 32 = .ok (.aload_n 0, 1) := by decide +kernel
theorem dX7_pay_33 : decode cX7_pay 33 = .ok (.iload_n 1, 1) := by decide +kernel
theorem dX7_pay_34 : decode cX7_pay 34 = .ok (.iload 4, 2) := by decide +kernel
theorem dX7_pay_36 : decode cX7_pay 36 = .ok (.aload_n 0, 1) := by decide +kernel
theorem dX7_pay_37 : decode cX7_pay 37 = .ok (.iload_n 1, 1) := by decide +kernel
theorem dX7_pay_38 : decode cX7_pay 38 = .ok (.iload 4, 2) := by decide +kernel
theorem dX7_pay_40 : decode cX7_pay 40 = .ok (.invokevirtual 162, 3) := by decide +kernel
theorem dX7_pay_43 : decode cX7_pay 43 = .ok (.iload_n 3, 1) := by decide +kernel
theorem dX7_pay_44 : decode cX7_pay 44 = .ok (.aload_n 0, 1) := by decide +kernel
theorem dX7_pay_45 : decode cX7_pay 45 = .ok (.getfield 40, 3) := by decide +kernel
theorem dX7_pay_48 : decode cX7_pay 48 = .ok (.getfield 144, 3) := by decide +kernel
theorem dX7_pay_51 : decode cX7_pay 51 = .ok (.iload_n 2, 1) := by decide +kernel
theorem dX7_pay_52 : decode cX7_pay 52 = .ok (.iaload, 1) := by decide +kernel
theorem dX7_pay_53 : decode cX7_pay 53 = .ok (.imul, 1) := by decide +kernel
theorem dX7_pay_54 : decode cX7_pay 54 = .ok (.invokestatic 201, 3) := by decide +kernel
theorem dX7_pay_57 : decode cX7_pay 57 = .ok (.invokevirtual 305, 3) := by decide +kernel
theorem dX7_pay_60 : decode cX7_pay 60 = .ok (.iload 5, 2) := by decide +kernel
theorem dX7_pay_62 : decode cX7_pay 62 = .ok (.ifCond .lt 12, 3) := by decide +kernel
theorem dX7_pay_65 : decode cX7_pay 65 = .ok (.aload_n 0, 1) := by decide +kernel
theorem dX7_pay_66 : decode cX7_pay 66 = .ok (.iload_n 1, 1) := by decide +kernel
theorem dX7_pay_67 : decode cX7_pay 67 = .ok (.iload 5, 2) := by decide +kernel
theorem dX7_pay_69 : decode cX7_pay 69 = .ok (.iload 6, 2) := by decide +kernel
theorem dX7_pay_71 : decode cX7_pay 71 = .ok (.invokevirtual 305, 3) := by decide +kernel
theorem dX7_pay_74 : decode cX7_pay 74 = .ok (.return_, 1) := by decide +kernel
theorem dX7_spend_0 : decode cX7_spend 0 = .ok (.aload_n 0, 1) := by decide +kernel
theorem dX7_spend_1 : decode cX7_spend 1 = .ok (.getfield 47, 3) := by decide +kernel
theorem dX7_spend_4 : decode cX7_spend 4 = .ok (.getfield 166, 3) := by decide +kernel
theorem dX7_spend_7 : decode cX7_spend 7 = .ok (.iload_n 1, 1) := by decide +kernel
theorem dX7_spend_8 : decode cX7_spend 8 = .ok (.iload_n 2, 1) := by decide +kernel
theorem dX7_spend_9 : decode cX7_spend 9 = .ok (.invokestatic 169, 3) := by decide +kernel
theorem dX7_spend_12 : decode cX7_spend 12 = .ok (.iload_n 3, 1) := by decide +kernel
theorem dX7_spend_13 : decode cX7_spend 13 = .ok (.invokestatic 293, 3) := by decide +kernel
theorem dX7_spend_16 : decode cX7_spend 16 = .ok (.aload_n 0, 1) := by decide +kernel
theorem dX7_spend_17 : decode cX7_spend 17 = .ok (.getfield 47, 3) := by decide +kernel
theorem dX7_spend_20 : decode cX7_spend 20 = .ok (.getfield 243, 3) := by decide +kernel
theorem dX7_spend_23 : decode cX7_spend 23 = .ok (.iload_n 2, 1) := by decide +kernel
theorem dX7_spend_24 : decode cX7_spend 24 = .ok (.dup2, 1) := by decide +kernel
theorem dX7_spend_25 : decode cX7_spend 25 = .ok (.iaload, 1) := by decide +kernel
theorem dX7_spend_26 : decode cX7_spend 26 = .ok (.iload_n 3, 1) := by decide +kernel
theorem dX7_spend_27 : decode cX7_spend 27 = .ok (.iadd, 1) := by decide +kernel
theorem dX7_spend_28 : decode cX7_spend 28 = .ok (.iastore, 1) := by decide +kernel
theorem dX7_spend_29 : decode cX7_spend 29 = .ok (.return_, 1) := by decide +kernel
theorem dX7_deliver_0 : decode cX7_deliver 0 = .ok (.aload_n 0, 1) := by decide +kernel
theorem dX7_deliver_1 : decode cX7_deliver 1 = .ok (.iload_n 1, 1) := by decide +kernel
theorem dX7_deliver_2 : decode cX7_deliver 2 = .ok (.invokevirtual 213, 3) := by decide +kernel
theorem dX7_deliver_5 : decode cX7_deliver 5 = .ok (.ifCond .eq 11, 3) := by decide +kernel
theorem dX7_deliver_8 : decode cX7_deliver 8 = .ok (.aload_n 0, 1) := by decide +kernel
theorem dX7_deliver_9 : decode cX7_deliver 9 = .ok (.iload_n 2, 1) := by decide +kernel
theorem dX7_deliver_10 : decode cX7_deliver 10 = .ok (.invokevirtual 138, 3) := by decide +kernel
theorem dX7_deliver_13 : decode cX7_deliver 13 = .ok (.ifCond .ne 5, 3) := by decide +kernel
theorem dX7_deliver_16 : decode cX7_deliver 16 = .ok (.iconst (-1), 1) := by decide +kernel
theorem dX7_deliver_17 : decode cX7_deliver 17 = .ok (.ireturn, 1) := by decide +kernel
theorem dX7_deliver_18 : decode cX7_deliver 18 = .ok (.iload_n 3, 1) := by decide +kernel
theorem dX7_deliver_19 : decode cX7_deliver 19 = .ok (.invokestatic 252, 3) := by decide +kernel
theorem dX7_deliver_22 : decode cX7_deliver 22 = .ok (.ifCond .ne 6, 3) := by decide +kernel
theorem dX7_deliver_25 : decode cX7_deliver 25 = .ok (.bipush (-2), 2) := by decide +kernel
theorem dX7_deliver_27 : decode cX7_deliver 27 = .ok (.ireturn, 1) := by decide +kernel
theorem dX7_deliver_28 : decode cX7_deliver 28 = .ok (.iload_n 1, 1) := by decide +kernel
theorem dX7_deliver_29 : decode cX7_deliver 29 = .ok (.aload_n 0, 1) := by decide +kernel
theorem dX7_deliver_30 : decode cX7_deliver 30 = .ok (.getfield 40, 3) := by decide +kernel
theorem dX7_deliver_33 : decode cX7_deliver 33 = .ok (.getfield 141, 3) := by decide +kernel
theorem dX7_deliver_36 : decode cX7_deliver 36 = .ok (.iload_n 2, 1) := by decide +kernel
theorem dX7_deliver_37 : decode cX7_deliver 37 = .ok (.iaload, 1) := by decide +kernel
theorem dX7_deliver_38 : decode cX7_deliver 38 = .ok (.invokestatic 225, 3) := by decide +kernel
theorem dX7_deliver_41 : decode cX7_deliver 41 = .ok (.istore 4, 2) := by decide +kernel
theorem dX7_deliver_43 : decode cX7_deliver 43 = .ok (.iload_n 1, 1) := by decide +kernel
theorem dX7_deliver_44 : decode cX7_deliver 44 = .ok (.iload_n 2, 1) := by decide +kernel
theorem dX7_deliver_45 : decode cX7_deliver 45 = .ok (.invokestatic 219, 3) := by decide +kernel
theorem dX7_deliver_48 : decode cX7_deliver 48 = .ok (.istore 5, 2) := by decide +kernel
theorem dX7_deliver_50 : decode cX7_deliver 50 = .ok (.iload_n 3, 1) := by decide +kernel
theorem dX7_deliver_51 : decode cX7_deliver 51 = .ok (.aload_n 0, 1) := by decide +kernel
theorem dX7_deliver_52 : decode cX7_deliver 52 = .ok (.getfield 40, 3) := by decide +kernel
theorem dX7_deliver_55 : decode cX7_deliver 55 = .ok (.getfield 144, 3) := by decide +kernel
theorem dX7_deliver_58 : decode cX7_deliver 58 = .ok (.iload_n 2, 1) := by decide +kernel
theorem dX7_deliver_59 : decode cX7_deliver 59 = .ok (.iaload, 1) := by decide +kernel
theorem dX7_deliver_60 : decode cX7_deliver 60 = .ok (.imul, 1) := by decide +kernel
theorem dX7_deliver_61 : decode cX7_deliver 61 = .ok (.istore 6, 2) := by decide +kernel
theorem dX7_deliver_63 : decode cX7_deliver 63 = .ok (.aload_n 0, 1) := by decide +kernel
theorem dX7_deliver_64 : decode cX7_deliver 64 = .ok (.getfield 47, 3) := by decide +kernel
theorem dX7_deliver_67 : decode cX7_deliver 67 = .ok (.getfield 222, 3) := by decide +kernel
theorem dX7_deliver_70 : decode cX7_deliver 70 = .ok (.iload 4, 2) := by decide +kernel
theorem dX7_deliver_72 : decode cX7_deliver 72 = .ok (.iaload, 1) := by decide +kernel
theorem dX7_deliver_73 : decode cX7_deliver 73 = .ok (.iload 6, 2) := by decide +kernel
theorem dX7_deliver_75 : decode cX7_deliver 75 = .ok (.if_icmp .ge 6, 3) := by decide +kernel
theorem dX7_deliver_78 : decode cX7_deliver 78 = .ok (.bipush (-5), 2) := by decide +kernel
theorem dX7_deliver_80 : decode cX7_deliver 80 = .ok (.ireturn, 1) := by decide +kernel
theorem dX7_deliver_81 : decode cX7_deliver 81 = .ok (.aload_n 0, 1) := by decide +kernel
theorem dX7_deliver_82 : decode cX7_deliver 82 = .ok (.getfield 47, 3) := by decide +kernel
theorem dX7_deliver_85 : decode cX7_deliver 85 = .ok (.getfield 216, 3) := by decide +kernel
theorem dX7_deliver_88 : decode cX7_deliver 88 = .ok (.iload 5, 2) := by decide +kernel
theorem dX7_deliver_90 : decode cX7_deliver 90 = .ok (.iaload, 1) := by decide +kernel
theorem dX7_deliver_91 : decode cX7_deliver 91 = .ok (.iload_n 3, 1) := by decide +kernel
theorem dX7_deliver_92 : decode cX7_deliver 92 = .ok (.iadd, 1) := by decide +kernel
theorem dX7_deliver_93 : decode cX7_deliver 93 = .ok (.ldc_w 286, 3) := by decide +kernel
theorem dX7_deliver_96 : decode cX7_deliver 96 = .ok (.if_icmp .le 6, 3) := by decide +kernel
theorem dX7_deliver_99 : decode cX7_deliver 99 = .ok (.bipush (-3), 2) := by decide +kernel
theorem dX7_deliver_101 : decode cX7_deliver 101 = .ok (.ireturn, 1) := by decide +kernel
theorem dX7_deliver_102 : decode cX7_deliver 102 = .ok (.aload_n 0, 1) := by decide +kernel
theorem dX7_deliver_103 : decode cX7_deliver 103 = .ok (.getfield 23, 3) := by decide +kernel
theorem dX7_deliver_106 : decode cX7_deliver 106 = .ok (.aload_n 0, 1) := by decide +kernel
theorem dX7_deliver_107 : decode cX7_deliver 107 = .ok (.getfield 47, 3) := by decide +kernel
theorem dX7_deliver_110 : decode cX7_deliver 110 = .ok (.invokevirtual 297, 3) := by decide +kernel
theorem dX7_deliver_113 : decode cX7_deliver 113 = .ok (.aload_n 0, 1) := by decide +kernel
theorem dX7_deliver_114 : decode cX7_deliver 114 = .ok (.getfield 47, 3) := by decide +kernel
theorem dX7_deliver_117 : decode cX7_deliver 117 = .ok (.getfield 222, 3) := by decide +kernel
theorem dX7_deliver_120 : decode cX7_deliver 120 = .ok (.iload 4, 2) := by decide +kernel
theorem dX7_deliver_122 : decode cX7_deliver 122 = .ok (.dup2, 1) := by decide +kernel
theorem dX7_deliver_123 : decode cX7_deliver 123 = .ok (.iaload, 1) := by decide +kernel
theorem dX7_deliver_124 : decode cX7_deliver 124 = .ok (.iload 6, 2) := by decide +kernel
theorem dX7_deliver_126 : decode cX7_deliver 126 = .ok (.isub, 1) := by decide +kernel
theorem dX7_deliver_127 : decode cX7_deliver 127 = .ok (.iastore, 1) := by decide +kernel
theorem dX7_deliver_128 : decode cX7_deliver 128 = .ok (.aload_n 0, 1) := by decide +kernel
theorem dX7_deliver_129 : decode cX7_deliver 129 = .ok (.getfield 47, 3) := by decide +kernel
theorem dX7_deliver_132 : decode cX7_deliver 132 = .ok (.getfield 216, 3) := by decide +kernel
theorem dX7_deliver_135 : decode cX7_deliver 135 = .ok (.iload 5, 2) := by decide +kernel
theorem dX7_deliver_137 : decode cX7_deliver 137 = .ok (.dup2, 1) := by decide +kernel
theorem dX7_deliver_138 : decode cX7_deliver 138 = .ok (.iaload, 1) := by decide +kernel
theorem dX7_deliver_139 : decode cX7_deliver 139 = .ok (.iload_n 3, 1) := by decide +kernel
theorem dX7_deliver_140 : decode cX7_deliver 140 = .ok (.iadd, 1) := by decide +kernel
theorem dX7_deliver_141 : decode cX7_deliver 141 = .ok (.iastore, 1) := by decide +kernel
theorem dX7_deliver_142 : decode cX7_deliver 142 = .ok (.aload_n 0, 1) := by decide +kernel
theorem dX7_deliver_143 : decode cX7_deliver 143 = .ok (.getfield 47, 3) := by decide +kernel
theorem dX7_deliver_146 : decode cX7_deliver 146 = .ok (.getfield 237, 3) := by decide +kernel
theorem dX7_deliver_149 : decode cX7_deliver 149 = .ok (.iload 5, 2) := by decide +kernel
theorem dX7_deliver_151 : decode cX7_deliver 151 = .ok (.dup2, 1) := by decide +kernel
theorem dX7_deliver_152 : decode cX7_deliver 152 = .ok (.iaload, 1) := by decide +kernel
theorem dX7_deliver_153 : decode cX7_deliver 153 = .ok (.iload_n 3, 1) := by decide +kernel
theorem dX7_deliver_154 : decode cX7_deliver 154 = .ok (.iadd, 1) := by decide +kernel
theorem dX7_deliver_155 : decode cX7_deliver 155 = .ok (.iastore, 1) := by decide +kernel
theorem dX7_deliver_156 : decode cX7_deliver 156 = .ok (.aload_n 0, 1) := by decide +kernel
theorem dX7_deliver_157 : decode cX7_deliver 157 = .ok (.getfield 47, 3) := by decide +kernel
theorem dX7_deliver_160 : decode cX7_deliver 160 = .ok (.getfield 216, 3) := by decide +kernel
theorem dX7_deliver_163 : decode cX7_deliver 163 = .ok (.iload 5, 2) := by decide +kernel
theorem dX7_deliver_165 : decode cX7_deliver 165 = .ok (.iaload, 1) := by decide +kernel
theorem dX7_deliver_166 : decode cX7_deliver 166 = .ok (.ireturn, 1) := by decide +kernel
theorem dX7_trade_0 : decode cX7_trade 0 = .ok (.aload_n 0, 1) := by decide +kernel
theorem dX7_trade_1 : decode cX7_trade 1 = .ok (.iload_n 1, 1) := by decide +kernel
theorem dX7_trade_2 : decode cX7_trade 2 = .ok (.invokevirtual 150, 3) := by decide +kernel
theorem dX7_trade_5 : decode cX7_trade 5 = .ok (.ifCond .eq 24, 3) := by decide +kernel
theorem dX7_trade_8 : decode cX7_trade 8 = .ok (.aload_n 0, 1) := by decide +kernel
theorem dX7_trade_9 : decode cX7_trade 9 = .ok (.iload_n 2, 1) := by decide +kernel
theorem dX7_trade_10 : decode cX7_trade 10 = .ok (.invokevirtual 150, 3) := by decide +kernel
theorem dX7_trade_13 : decode cX7_trade 13 = .ok (.ifCond .eq 16, 3) := by decide +kernel
theorem dX7_trade_16 : decode cX7_trade 16 = .ok (.aload_n 0, 1) := by decide +kernel
theorem dX7_trade_17 : decode cX7_trade 17 = .ok (.iload_n 3, 1) := by decide +kernel
theorem dX7_trade_18 : decode cX7_trade 18 = .ok (.invokevirtual 115, 3) := by decide +kernel
theorem dX7_trade_21 : decode cX7_trade 21 = .ok (.ifCond .eq 8, 3) := by decide +kernel
theorem dX7_trade_24 : decode cX7_trade 24 = .ok (.iload_n 1, 1) := by decide +kernel
theorem dX7_trade_25 : decode cX7_trade 25 = .ok (.iload_n 2, 1) := by decide +kernel
theorem dX7_trade_26 : decode cX7_trade 26 = .ok (.if_icmp .ne 5, 3) := by decide +kernel
theorem dX7_trade_29 : decode cX7_trade 29 = .ok (.iconst (-1), 1) := by decide +kernel
theorem dX7_trade_30 : decode cX7_trade 30 = .ok (.ireturn, 1) := by decide +kernel
theorem dX7_trade_31 : decode cX7_trade 31 = .ok (.iload 4, 2) := by decide +kernel
theorem dX7_trade_33 : decode cX7_trade 33 = .ok (.iconst 1, 1) := by decide +kernel
theorem dX7_trade_34 : decode cX7_trade 34 = .ok (.if_icmp .lt 11, 3) := by decide +kernel
theorem dX7_trade_37 : decode cX7_trade 37 = .ok (.iload 4, 2) := by decide +kernel
theorem dX7_trade_39 : decode cX7_trade 39 = .ok (.sipush 999, 3) := by decide +kernel
theorem dX7_trade_42 : decode cX7_trade 42 = .ok (.if_icmp .le 6, 3) := by decide +kernel
theorem dX7_trade_45 : decode cX7_trade 45 = .ok (.bipush (-2), 2) := by decide +kernel
theorem dX7_trade_47 : decode cX7_trade 47 = .ok (.ireturn, 1) := by decide +kernel
theorem dX7_trade_48 : decode cX7_trade 48 = .ok (.aload_n 0, 1) := by decide +kernel
theorem dX7_trade_49 : decode cX7_trade 49 = .ok (.iload_n 1, 1) := by decide +kernel
theorem dX7_trade_50 : decode cX7_trade 50 = .ok (.iload_n 3, 1) := by decide +kernel
theorem dX7_trade_51 : decode cX7_trade 51 = .ok (.invokevirtual 162, 3) := by decide +kernel
theorem dX7_trade_54 : decode cX7_trade 54 = .ok (.iload 4, 2) := by decide +kernel
theorem dX7_trade_56 : decode cX7_trade 56 = .ok (.if_icmp .ge 6, 3) := by decide +kernel
theorem dX7_trade_59 : decode cX7_trade 59 = .ok (.bipush (-5), 2) := by decide +kernel
theorem dX7_trade_61 : decode cX7_trade 61 = .ok (.ireturn, 1) := by decide +kernel
theorem dX7_trade_62 : decode cX7_trade 62 = .ok (.iload 4, 2) := by decide +kernel
theorem dX7_trade_64 : decode cX7_trade 64 = .ok (.aload_n 0, 1) := by decide +kernel
theorem dX7_trade_65 : decode cX7_trade 65 = .ok (.iload_n 1, 1) := by decide +kernel
theorem dX7_trade_66 : decode cX7_trade 66 = .ok (.invokevirtual 307, 3) := by decide +kernel
theorem dX7_trade_69 : decode cX7_trade 69 = .ok (.if_icmp .gt 13, 3) := by decide +kernel
theorem dX7_trade_72 : decode cX7_trade 72 = .ok (.iload 4, 2) := by decide +kernel
theorem dX7_trade_74 : decode cX7_trade 74 = .ok (.aload_n 0, 1) := by decide +kernel
theorem dX7_trade_75 : decode cX7_trade 75 = .ok (.iload_n 2, 1) := by decide +kernel
theorem dX7_trade_76 : decode cX7_trade 76 = .ok (.invokevirtual 197, 3) := by decide +kernel
theorem dX7_trade_79 : decode cX7_trade 79 = .ok (.if_icmp .le 6, 3) := by decide +kernel
theorem dX7_trade_82 : decode cX7_trade 82 = .ok (.bipush (-6), 2) := by decide +kernel
theorem dX7_trade_84 : decode cX7_trade 84 = .ok (.ireturn, 1) := by decide +kernel
theorem dX7_trade_85 : decode cX7_trade 85 = .ok (.aload_n 0, 1) := by decide +kernel
theorem dX7_trade_86 : decode cX7_trade 86 = .ok (.getfield 23, 3) := by decide +kernel
theorem dX7_trade_89 : decode cX7_trade 89 = .ok (.aload_n 0, 1) := by decide +kernel
theorem dX7_trade_90 : decode cX7_trade 90 = .ok (.getfield 47, 3) := by decide +kernel
theorem dX7_trade_93 : decode cX7_trade 93 = .ok (.invokevirtual 297, 3) := by decide +kernel
theorem dX7_trade_96 : decode cX7_trade 96 = .ok (.aload_n 0, 1) := by decide +kernel
theorem dX7_trade_97 : decode cX7_trade 97 = .ok (.getfield 47, 3) := by decide +kernel
theorem dX7_trade_100 : decode cX7_trade 100 = .ok (.getfield 166, 3) := by decide +kernel
theorem dX7_trade_103 : decode cX7_trade 103 = .ok (.iload_n 1, 1) := by decide +kernel
theorem dX7_trade_104 : decode cX7_trade 104 = .ok (.iload_n 3, 1) := by decide +kernel
theorem dX7_trade_105 : decode cX7_trade 105 = .ok (.invokestatic 169, 3) := by decide +kernel
theorem dX7_trade_108 : decode cX7_trade 108 = .ok (.iload_n 2, 1) := by decide +kernel
theorem dX7_trade_109 : decode cX7_trade 109 = .ok (.iload_n 3, 1) := by decide +kernel
theorem dX7_trade_110 : decode cX7_trade 110 = .ok (.invokestatic 169, 3) := by decide +kernel
theorem dX7_trade_113 : decode cX7_trade 113 = .ok (.iload 4, 2) := by decide +kernel
theorem dX7_trade_115 : decode cX7_trade 115 = .ok (.invokestatic 310, 3) := by decide +kernel
theorem dX7_trade_118 : decode cX7_trade 118 = .ok (.aload_n 0, 1) := by decide +kernel
theorem dX7_trade_119 : decode cX7_trade 119 = .ok (.getfield 47, 3) := by decide +kernel
theorem dX7_trade_122 : decode cX7_trade 122 = .ok (.getfield 188, 3) := by decide +kernel
theorem dX7_trade_125 : decode cX7_trade 125 = .ok (.iload_n 1, 1) := by decide +kernel
theorem dX7_trade_126 : decode cX7_trade 126 = .ok (.dup2, 1) := by decide +kernel
theorem dX7_trade_127 : decode cX7_trade 127 = .ok (.iaload, 1) := by decide +kernel
theorem dX7_trade_128 : decode cX7_trade 128 = .ok (.iload 4, 2) := by decide +kernel
theorem dX7_trade_130 : decode cX7_trade 130 = .ok (.iadd, 1) := by decide +kernel
theorem dX7_trade_131 : decode cX7_trade 131 = .ok (.iastore, 1) := by decide +kernel
theorem dX7_trade_132 : decode cX7_trade 132 = .ok (.aload_n 0, 1) := by decide +kernel
theorem dX7_trade_133 : decode cX7_trade 133 = .ok (.getfield 47, 3) := by decide +kernel
theorem dX7_trade_136 : decode cX7_trade 136 = .ok (.getfield 191, 3) := by decide +kernel
theorem dX7_trade_139 : decode cX7_trade 139 = .ok (.iload_n 2, 1) := by decide +kernel
theorem dX7_trade_140 : decode cX7_trade 140 = .ok (.dup2, 1) := by decide +kernel
theorem dX7_trade_141 : decode cX7_trade 141 = .ok (.iaload, 1) := by decide +kernel
theorem dX7_trade_142 : decode cX7_trade 142 = .ok (.iload 4, 2) := by decide +kernel
theorem dX7_trade_144 : decode cX7_trade 144 = .ok (.iadd, 1) := by decide +kernel
theorem dX7_trade_145 : decode cX7_trade 145 = .ok (.iastore, 1) := by decide +kernel
theorem dX7_trade_146 : decode cX7_trade 146 = .ok (.aload_n 0, 1) := by decide +kernel
theorem dX7_trade_147 : decode cX7_trade 147 = .ok (.iload_n 1, 1) := by decide +kernel
theorem dX7_trade_148 : decode cX7_trade 148 = .ok (.iload_n 3, 1) := by decide +kernel
theorem dX7_trade_149 : decode cX7_trade 149 = .ok (.invokevirtual 162, 3) := by decide +kernel
theorem dX7_trade_152 : decode cX7_trade 152 = .ok (.ireturn, 1) := by decide +kernel
theorem dX7_audit_0 : decode cX7_audit 0 = .ok (.aload_n 0, 1) := by decide +kernel
theorem dX7_audit_1 : decode cX7_audit 1 = .ok (.iload_n 1, 1) := by decide +kernel
theorem dX7_audit_2 : decode cX7_audit 2 = .ok (.invokevirtual 213, 3) := by decide +kernel
theorem dX7_audit_5 : decode cX7_audit 5 = .ok (.ifCond .eq 11, 3) := by decide +kernel
theorem dX7_audit_8 : decode cX7_audit 8 = .ok (.aload_n 0, 1) := by decide +kernel
theorem dX7_audit_9 : decode cX7_audit 9 = .ok (.iload_n 2, 1) := by decide +kernel
theorem dX7_audit_10 : decode cX7_audit 10 = .ok (.invokevirtual 138, 3) := by decide +kernel
theorem dX7_audit_13 : decode cX7_audit 13 = .ok (.ifCond .ne 5, 3) := by decide +kernel
theorem dX7_audit_16 : decode cX7_audit 16 = .ok (.iconst (-1), 1) := by decide +kernel
theorem dX7_audit_17 : decode cX7_audit 17 = .ok (.ireturn, 1) := by decide +kernel
theorem dX7_audit_18 : decode cX7_audit 18 = .ok (.iload_n 3, 1) := by decide +kernel
theorem dX7_audit_19 : decode cX7_audit 19 = .ok (.ifCond .lt 10, 3) := by decide +kernel
theorem dX7_audit_22 : decode cX7_audit 22 = .ok (.iload_n 3, 1) := by decide +kernel
theorem dX7_audit_23 : decode cX7_audit 23 = .ok (.ldc_w 286, 3) := by decide +kernel
theorem dX7_audit_26 : decode cX7_audit 26 = .ok (.if_icmp .le 6, 3) := by decide +kernel
theorem dX7_audit_29 : decode cX7_audit 29 = .ok (.bipush (-2), 2) := by decide +kernel
theorem dX7_audit_31 : decode cX7_audit 31 = .ok (.ireturn, 1) := by decide +kernel
theorem dX7_audit_32 : decode cX7_audit 32 = .ok (.aload_n 0, 1) := by decide +kernel
theorem dX7_audit_33 : decode cX7_audit 33 = .ok (.getfield 23, 3) := by decide +kernel
theorem dX7_audit_36 : decode cX7_audit 36 = .ok (.aload_n 0, 1) := by decide +kernel
theorem dX7_audit_37 : decode cX7_audit 37 = .ok (.getfield 47, 3) := by decide +kernel
theorem dX7_audit_40 : decode cX7_audit 40 = .ok (.invokevirtual 297, 3) := by decide +kernel
theorem dX7_audit_43 : decode cX7_audit 43 = .ok (.iload_n 1, 1) := by decide +kernel
theorem dX7_audit_44 : decode cX7_audit 44 = .ok (.iload_n 2, 1) := by decide +kernel
theorem dX7_audit_45 : decode cX7_audit 45 = .ok (.invokestatic 219, 3) := by decide +kernel
theorem dX7_audit_48 : decode cX7_audit 48 = .ok (.istore 4, 2) := by decide +kernel
theorem dX7_audit_50 : decode cX7_audit 50 = .ok (.aload_n 0, 1) := by decide +kernel
theorem dX7_audit_51 : decode cX7_audit 51 = .ok (.getfield 47, 3) := by decide +kernel
theorem dX7_audit_54 : decode cX7_audit 54 = .ok (.getfield 228, 3) := by decide +kernel
theorem dX7_audit_57 : decode cX7_audit 57 = .ok (.iload_n 1, 1) := by decide +kernel
theorem dX7_audit_58 : decode cX7_audit 58 = .ok (.dup2, 1) := by decide +kernel
theorem dX7_audit_59 : decode cX7_audit 59 = .ok (.iaload, 1) := by decide +kernel
theorem dX7_audit_60 : decode cX7_audit 60 = .ok (.iload_n 3, 1) := by decide +kernel
theorem dX7_audit_61 : decode cX7_audit 61 = .ok (.aload_n 0, 1) := by decide +kernel
theorem dX7_audit_62 : decode cX7_audit 62 = .ok (.getfield 47, 3) := by decide +kernel
theorem dX7_audit_65 : decode cX7_audit 65 = .ok (.getfield 216, 3) := by decide +kernel
theorem dX7_audit_68 : decode cX7_audit 68 = .ok (.iload 4, 2) := by decide +kernel
theorem dX7_audit_70 : decode cX7_audit 70 = .ok (.iaload, 1) := by decide +kernel
theorem dX7_audit_71 : decode cX7_audit 71 = .ok (.isub, 1) := by decide +kernel
theorem dX7_audit_72 : decode cX7_audit 72 = .ok (.invokestatic 314, 3) := by decide +kernel
theorem dX7_audit_75 : decode cX7_audit 75 = .ok (.aload_n 0, 1) := by decide +kernel
theorem dX7_audit_76 : decode cX7_audit 76 = .ok (.getfield 40, 3) := by decide +kernel
theorem dX7_audit_79 : decode cX7_audit 79 = .ok (.getfield 144, 3) := by decide +kernel
theorem dX7_audit_82 : decode cX7_audit 82 = .ok (.iload_n 2, 1) := by decide +kernel
theorem dX7_audit_83 : decode cX7_audit 83 = .ok (.iaload, 1) := by decide +kernel
theorem dX7_audit_84 : decode cX7_audit 84 = .ok (.imul, 1) := by decide +kernel
theorem dX7_audit_85 : decode cX7_audit 85 = .ok (.iadd, 1) := by decide +kernel
theorem dX7_audit_86 : decode cX7_audit 86 = .ok (.iastore, 1) := by decide +kernel
theorem dX7_audit_87 : decode cX7_audit 87 = .ok (.aload_n 0, 1) := by decide +kernel
theorem dX7_audit_88 : decode cX7_audit 88 = .ok (.getfield 47, 3) := by decide +kernel
theorem dX7_audit_91 : decode cX7_audit 91 = .ok (.getfield 216, 3) := by decide +kernel
theorem dX7_audit_94 : decode cX7_audit 94 = .ok (.iload 4, 2) := by decide +kernel
theorem dX7_audit_96 : decode cX7_audit 96 = .ok (.iload_n 3, 1) := by decide +kernel
theorem dX7_audit_97 : decode cX7_audit 97 = .ok (.iastore, 1) := by decide +kernel
theorem dX7_audit_98 : decode cX7_audit 98 = .ok (.aload_n 0, 1) := by decide +kernel
theorem dX7_audit_99 : decode cX7_audit 99 = .ok (.getfield 47, 3) := by decide +kernel
theorem dX7_audit_102 : decode cX7_audit 102 = .ok (.getfield 228, 3) := by decide +kernel
theorem dX7_audit_105 : decode cX7_audit 105 = .ok (.iload_n 1, 1) := by decide +kernel
theorem dX7_audit_106 : decode cX7_audit 106 = .ok (.iaload, 1) := by decide +kernel
theorem dX7_audit_107 : decode cX7_audit 107 = .ok (.ireturn, 1) := by decide +kernel
theorem dX7_pardon_0 : decode cX7_pardon 0 = .ok (.aload_n 0, 1) := by decide +kernel
theorem dX7_pardon_1 : decode cX7_pardon 1 = .ok (.iload_n 1, 1) := by decide +kernel
theorem dX7_pardon_2 : decode cX7_pardon 2 = .ok (.invokevirtual 213, 3) := by decide +kernel
theorem dX7_pardon_5 : decode cX7_pardon 5 = .ok (.ifCond .ne 5, 3) := by decide +kernel
theorem dX7_pardon_8 : decode cX7_pardon 8 = .ok (.iconst (-1), 1) := by decide +kernel
theorem dX7_pardon_9 : decode cX7_pardon 9 = .ok (.ireturn, 1) := by decide +kernel
theorem dX7_pardon_10 : decode cX7_pardon 10 = .ok (.aload_n 0, 1) := by decide +kernel
theorem dX7_pardon_11 : decode cX7_pardon 11 = .ok (.getfield 23, 3) := by decide +kernel
theorem dX7_pardon_14 : decode cX7_pardon 14 = .ok (.aload_n 0, 1) := by decide +kernel
theorem dX7_pardon_15 : decode cX7_pardon 15 = .ok (.getfield 47, 3) := by decide +kernel
theorem dX7_pardon_18 : decode cX7_pardon 18 = .ok (.invokevirtual 297, 3) := by decide +kernel
theorem dX7_pardon_21 : decode cX7_pardon 21 = .ok (.aload_n 0, 1) := by decide +kernel
theorem dX7_pardon_22 : decode cX7_pardon 22 = .ok (.getfield 47, 3) := by decide +kernel
theorem dX7_pardon_25 : decode cX7_pardon 25 = .ok (.getfield 228, 3) := by decide +kernel
theorem dX7_pardon_28 : decode cX7_pardon 28 = .ok (.iload_n 1, 1) := by decide +kernel
theorem dX7_pardon_29 : decode cX7_pardon 29 = .ok (.iaload, 1) := by decide +kernel
theorem dX7_pardon_30 : decode cX7_pardon 30 = .ok (.istore_n 2, 1) := by decide +kernel
theorem dX7_pardon_31 : decode cX7_pardon 31 = .ok (.aload_n 0, 1) := by decide +kernel
theorem dX7_pardon_32 : decode cX7_pardon 32 = .ok (.getfield 47, 3) := by decide +kernel
theorem dX7_pardon_35 : decode cX7_pardon 35 = .ok (.getfield 228, 3) := by decide +kernel
theorem dX7_pardon_38 : decode cX7_pardon 38 = .ok (.iload_n 1, 1) := by decide +kernel
theorem dX7_pardon_39 : decode cX7_pardon 39 = .ok (.iconst 0, 1) := by decide +kernel
theorem dX7_pardon_40 : decode cX7_pardon 40 = .ok (.iastore, 1) := by decide +kernel
theorem dX7_pardon_41 : decode cX7_pardon 41 = .ok (.iload_n 2, 1) := by decide +kernel
theorem dX7_pardon_42 : decode cX7_pardon 42 = .ok (.ireturn, 1) := by decide +kernel
theorem dX7_nextPeriod_0 : decode cX7_nextPeriod 0 = .ok (.aload_n 0, 1) := by decide +kernel
theorem dX7_nextPeriod_1 : decode cX7_nextPeriod 1 = .ok (.getfield 23, 3) := by decide +kernel
theorem dX7_nextPeriod_4 : decode cX7_nextPeriod 4 = .ok (.aload_n 0, 1) := by decide +kernel
theorem dX7_nextPeriod_5 : decode cX7_nextPeriod 5 = .ok (.getfield 47, 3) := by decide +kernel
theorem dX7_nextPeriod_8 : decode cX7_nextPeriod 8 = .ok (.invokevirtual 297, 3) := by decide +kernel
theorem dX7_nextPeriod_11 : decode cX7_nextPeriod 11 = .ok (.iconst 0, 1) := by decide +kernel
theorem dX7_nextPeriod_12 : decode cX7_nextPeriod 12 = .ok (.istore_n 1, 1) := by decide +kernel
theorem dX7_nextPeriod_13 : decode cX7_nextPeriod 13 = .ok (.iconst 0, 1) := by decide +kernel
theorem dX7_nextPeriod_14 : decode cX7_nextPeriod 14 = .ok (.istore_n 2, 1) := by decide +kernel
theorem dX7_nextPeriod_15 : decode cX7_nextPeriod 15 = .ok (.iload_n 2, 1) := by decide +kernel
theorem dX7_nextPeriod_16 : decode cX7_nextPeriod 16 = .ok (.aload_n 0, 1) := by decide +kernel
theorem dX7_nextPeriod_17 : decode cX7_nextPeriod 17 = .ok (.getfield 40, 3) := by decide +kernel
theorem dX7_nextPeriod_20 : decode cX7_nextPeriod 20 = .ok (.getfield 81, 3) := by decide +kernel
theorem dX7_nextPeriod_23 : decode cX7_nextPeriod 23 = .ok (.if_icmp .ge 17, 3) := by decide +kernel
theorem dX7_nextPeriod_26 : decode cX7_nextPeriod 26 = .ok (.iload_n 1, 1) := by decide +kernel
theorem dX7_nextPeriod_27 : decode cX7_nextPeriod 27 = .ok (.aload_n 0, 1) := by decide +kernel
theorem dX7_nextPeriod_28 : decode cX7_nextPeriod 28 = .ok (.iload_n 2, 1) := by decide +kernel
theorem dX7_nextPeriod_29 : decode cX7_nextPeriod 29 = .ok (.invokevirtual 317, 3) := by decide +kernel
theorem dX7_nextPeriod_32 : decode cX7_nextPeriod 32 = .ok (.iadd, 1) := by decide +kernel
theorem dX7_nextPeriod_33 : decode cX7_nextPeriod 33 = .ok (.istore_n 1, 1) := by decide +kernel
theorem dX7_nextPeriod_34 : decode cX7_nextPeriod 34 = .ok (.iinc 2 1, 3) := by decide +kernel
theorem dX7_nextPeriod_37 : decode cX7_nextPeriod 37 = .ok (.goto (-22), 3) := by decide +kernel
theorem dX7_nextPeriod_40 : decode cX7_nextPeriod 40 = .ok (.aload_n 0, 1) := by decide +kernel
theorem dX7_nextPeriod_41 : decode cX7_nextPeriod 41 = .ok (.getfield 47, 3) := by decide +kernel
theorem dX7_nextPeriod_44 : decode cX7_nextPeriod 44 = .ok (.dup, 1) := by decide +kernel
theorem dX7_nextPeriod_45 : decode cX7_nextPeriod 45 = .ok (.getfield 96, 3) := by decide +kernel
theorem dX7_nextPeriod_48 : decode cX7_nextPeriod 48 = .ok (.iconst 1, 1) := by decide +kernel
theorem dX7_nextPeriod_49 : decode cX7_nextPeriod 49 = .ok (.iadd, 1) := by decide +kernel
theorem dX7_nextPeriod_50 : decode cX7_nextPeriod 50 = .ok (.putfield 96, 3) := by decide +kernel
theorem dX7_nextPeriod_53 : decode cX7_nextPeriod 53 = .ok (.aload_n 0, 1) := by decide +kernel
theorem dX7_nextPeriod_54 : decode cX7_nextPeriod 54 = .ok (.getfield 47, 3) := by decide +kernel
theorem dX7_nextPeriod_57 : decode cX7_nextPeriod 57 = .ok (.getfield 188, 3) := by decide +kernel
theorem dX7_nextPeriod_60 : decode cX7_nextPeriod 60 = .ok (.iconst 0, 1) := by decide +kernel
theorem dX7_nextPeriod_61 : decode cX7_nextPeriod 61 = .ok (.invokestatic 320, 3) := by decide +kernel
theorem dX7_nextPeriod_64 : decode cX7_nextPeriod 64 = .ok (.aload_n 0, 1) := by decide +kernel
theorem dX7_nextPeriod_65 : decode cX7_nextPeriod 65 = .ok (.getfield 47, 3) := by decide +kernel
theorem dX7_nextPeriod_68 : decode cX7_nextPeriod 68 = .ok (.getfield 191, 3) := by decide +kernel
theorem dX7_nextPeriod_71 : decode cX7_nextPeriod 71 = .ok (.iconst 0, 1) := by decide +kernel
theorem dX7_nextPeriod_72 : decode cX7_nextPeriod 72 = .ok (.invokestatic 320, 3) := by decide +kernel
theorem dX7_nextPeriod_75 : decode cX7_nextPeriod 75 = .ok (.aload_n 0, 1) := by decide +kernel
theorem dX7_nextPeriod_76 : decode cX7_nextPeriod 76 = .ok (.invokevirtual 76, 3) := by decide +kernel
theorem dX7_nextPeriod_79 : decode cX7_nextPeriod 79 = .ok (.iload_n 1, 1) := by decide +kernel
theorem dX7_nextPeriod_80 : decode cX7_nextPeriod 80 = .ok (.ireturn, 1) := by decide +kernel
theorem dX7_endPeriodOf_0 : decode cX7_endPeriodOf 0 = .ok (.iconst 0, 1) := by decide +kernel
theorem dX7_endPeriodOf_1 : decode cX7_endPeriodOf 1 = .ok (.istore_n 2, 1) := by decide +kernel
theorem dX7_endPeriodOf_2 : decode cX7_endPeriodOf 2 = .ok (.iconst 0, 1) := by decide +kernel
theorem dX7_endPeriodOf_3 : decode cX7_endPeriodOf 3 = .ok (.istore_n 3, 1) := by decide +kernel
theorem dX7_endPeriodOf_4 : decode cX7_endPeriodOf 4 = .ok (.iload_n 3, 1) := by decide +kernel
theorem dX7_endPeriodOf_5 : decode cX7_endPeriodOf 5 = .ok (.aload_n 0, 1) := by decide +kernel
theorem dX7_endPeriodOf_6 : decode cX7_endPeriodOf 6 = .ok (.getfield 40, 3) := by decide +kernel
theorem dX7_endPeriodOf_9 : decode cX7_endPeriodOf 9 = .ok (.getfield 87, 3) := by decide +kernel
theorem dX7_endPeriodOf_12 : decode cX7_endPeriodOf 12 = .ok (.if_icmp .ge 36, 3) := by decide +kernel
theorem dX7_endPeriodOf_15 : decode cX7_endPeriodOf 15 = .ok (.iload_n 2, 1) := by decide +kernel
theorem dX7_endPeriodOf_16 : decode cX7_endPeriodOf 16 = .ok (.aload_n 0, 1) := by decide +kernel
theorem dX7_endPeriodOf_17 : decode cX7_endPeriodOf 17 = .ok (.getfield 47, 3) := by decide +kernel
theorem dX7_endPeriodOf_20 : decode cX7_endPeriodOf 20 = .ok (.getfield 166, 3) := by decide +kernel
theorem dX7_endPeriodOf_23 : decode cX7_endPeriodOf 23 = .ok (.iload_n 3, 1) := by decide +kernel
theorem dX7_endPeriodOf_24 : decode cX7_endPeriodOf 24 = .ok (.iload_n 1, 1) := by decide +kernel
theorem dX7_endPeriodOf_25 : decode cX7_endPeriodOf 25 = .ok (.invokestatic 169, 3) := by decide +kernel
theorem dX7_endPeriodOf_28 : decode cX7_endPeriodOf 28 = .ok (.aload_n 0, 1) := by decide +kernel
theorem dX7_endPeriodOf_29 : decode cX7_endPeriodOf 29 = .ok (.getfield 40, 3) := by decide +kernel
theorem dX7_endPeriodOf_32 : decode cX7_endPeriodOf 32 = .ok (.getfield 129, 3) := by decide +kernel
theorem dX7_endPeriodOf_35 : decode cX7_endPeriodOf 35 = .ok (.iload_n 1, 1) := by decide +kernel
theorem dX7_endPeriodOf_36 : decode cX7_endPeriodOf 36 = .ok (.iaload, 1) := by decide +kernel
theorem dX7_endPeriodOf_37 : decode cX7_endPeriodOf 37 = .ok (.invokestatic 326, 3) := by decide +kernel
theorem dX7_endPeriodOf_40 : decode cX7_endPeriodOf 40 = .ok (.iadd, 1) := by decide +kernel
theorem dX7_endPeriodOf_41 : decode cX7_endPeriodOf 41 = .ok (.istore_n 2, 1) := by decide +kernel
theorem dX7_endPeriodOf_42 : decode cX7_endPeriodOf 42 = .ok (.iinc 3 1, 3) := by decide +kernel
theorem dX7_endPeriodOf_45 : decode cX7_endPeriodOf 45 = .ok (.goto (-41), 3) := by decide +kernel
theorem dX7_endPeriodOf_48 : decode cX7_endPeriodOf 48 = .ok (.aload_n 0, 1) := by decide +kernel
theorem dX7_endPeriodOf_49 : decode cX7_endPeriodOf 49 = .ok (.getfield 47, 3) := by decide +kernel
theorem dX7_endPeriodOf_52 : decode cX7_endPeriodOf 52 = .ok (.getfield 246, 3) := by decide +kernel
theorem dX7_endPeriodOf_55 : decode cX7_endPeriodOf 55 = .ok (.iload_n 1, 1) := by decide +kernel
theorem dX7_endPeriodOf_56 : decode cX7_endPeriodOf 56 = .ok (.dup2, 1) := by decide +kernel
theorem dX7_endPeriodOf_57 : decode cX7_endPeriodOf 57 = .ok (.iaload, 1) := by decide +kernel
theorem dX7_endPeriodOf_58 : decode cX7_endPeriodOf 58 = .ok (.iload_n 2, 1) := by decide +kernel
theorem dX7_endPeriodOf_59 : decode cX7_endPeriodOf 59 = .ok (.iadd, 1) := by decide +kernel
theorem dX7_endPeriodOf_60 : decode cX7_endPeriodOf 60 = .ok (.iastore, 1) := by decide +kernel
theorem dX7_endPeriodOf_61 : decode cX7_endPeriodOf 61 = .ok (.iload_n 2, 1) := by decide +kernel
theorem dX7_endPeriodOf_62 : decode cX7_endPeriodOf 62 = .ok (.ireturn, 1) := by decide +kernel
theorem dX7_issueToAll_0 : decode cX7_issueToAll 0 = .ok (.iconst 0, 1) := by decide +kernel
theorem dX7_issueToAll_1 : decode cX7_issueToAll 1 = .ok (.istore_n 1, 1) := by decide +kernel
theorem dX7_issueToAll_2 : decode cX7_issueToAll 2 = .ok (.iload_n 1, 1) := by decide +kernel
theorem dX7_issueToAll_3 : decode cX7_issueToAll 3 = .ok (.aload_n 0, 1) := by decide +kernel
theorem dX7_issueToAll_4 : decode cX7_issueToAll 4 = .ok (.getfield 40, 3) := by decide +kernel
theorem dX7_issueToAll_7 : decode cX7_issueToAll 7 = .ok (.getfield 87, 3) := by decide +kernel
theorem dX7_issueToAll_10 : decode cX7_issueToAll 10 = .ok (.if_icmp .ge 75, 3) := by decide +kernel
theorem dX7_issueToAll_13 : decode cX7_issueToAll 13 = .ok (.iconst 0, 1) := by decide +kernel
theorem dX7_issueToAll_14 : decode cX7_issueToAll 14 = .ok (.istore_n 2, 1) := by decide +kernel
theorem dX7_issueToAll_15 : decode cX7_issueToAll 15 = .ok (.iload_n 2, 1) := by decide +kernel
theorem dX7_issueToAll_16 : decode cX7_issueToAll 16 = .ok (.aload_n 0, 1) := by decide +kernel
theorem dX7_issueToAll_17 : decode cX7_issueToAll 17 = .ok (.getfield 40, 3) := by decide +kernel
theorem dX7_issueToAll_20 : decode cX7_issueToAll 20 = .ok (.getfield 81, 3) := by decide +kernel
theorem dX7_issueToAll_23 : decode cX7_issueToAll 23 = .ok (.if_icmp .ge 56, 3) := by decide +kernel
theorem dX7_issueToAll_26 : decode cX7_issueToAll 26 = .ok (.aload_n 0, 1) := by decide +kernel
theorem dX7_issueToAll_27 : decode cX7_issueToAll 27 = .ok (.iload_n 1, 1) := by decide +kernel
theorem dX7_issueToAll_28 : decode cX7_issueToAll 28 = .ok (.iload_n 2, 1) := by decide +kernel
theorem dX7_issueToAll_29 : decode cX7_issueToAll 29 = .ok (.invokevirtual 329, 3) := by decide +kernel
theorem dX7_issueToAll_32 : decode cX7_issueToAll 32 = .ok (.istore_n 3, 1) := by decide +kernel
theorem dX7_issueToAll_33 : decode cX7_issueToAll 33 = .ok (.aload_n 0, 1) := by decide +kernel
theorem dX7_issueToAll_34 : decode cX7_issueToAll 34 = .ok (.getfield 47, 3) := by decide +kernel
theorem dX7_issueToAll_37 : decode cX7_issueToAll 37 = .ok (.getfield 166, 3) := by decide +kernel
theorem dX7_issueToAll_40 : decode cX7_issueToAll 40 = .ok (.iload_n 1, 1) := by decide +kernel
theorem dX7_issueToAll_41 : decode cX7_issueToAll 41 = .ok (.iload_n 2, 1) := by decide +kernel
theorem dX7_issueToAll_42 : decode cX7_issueToAll 42 = .ok (.invokestatic 169, 3) := by decide +kernel
theorem dX7_issueToAll_45 : decode cX7_issueToAll 45 = .ok (.aload_n 0, 1) := by decide +kernel
theorem dX7_issueToAll_46 : decode cX7_issueToAll 46 = .ok (.getfield 40, 3) := by decide +kernel
theorem dX7_issueToAll_49 : decode cX7_issueToAll 49 = .ok (.getfield 126, 3) := by decide +kernel
theorem dX7_issueToAll_52 : decode cX7_issueToAll 52 = .ok (.iload_n 2, 1) := by decide +kernel
theorem dX7_issueToAll_53 : decode cX7_issueToAll 53 = .ok (.iaload, 1) := by decide +kernel
theorem dX7_issueToAll_54 : decode cX7_issueToAll 54 = .ok (.iadd, 1) := by decide +kernel
theorem dX7_issueToAll_55 : decode cX7_issueToAll 55 = .ok (.dup2, 1) := by decide +kernel
theorem dX7_issueToAll_56 : decode cX7_issueToAll 56 = .ok (.iaload, 1) := by decide +kernel
theorem dX7_issueToAll_57 : decode cX7_issueToAll 57 = .ok (.iload_n 3, 1) := by decide +kernel
theorem dX7_issueToAll_58 : decode cX7_issueToAll 58 = .ok (.iadd, 1) := by decide +kernel
theorem dX7_issueToAll_59 : decode cX7_issueToAll 59 = .ok (.iastore, 1) := by decide +kernel
theorem dX7_issueToAll_60 : decode cX7_issueToAll 60 = .ok (.aload_n 0, 1) := by decide +kernel
theorem dX7_issueToAll_61 : decode cX7_issueToAll 61 = .ok (.getfield 47, 3) := by decide +kernel
theorem dX7_issueToAll_64 : decode cX7_issueToAll 64 = .ok (.getfield 240, 3) := by decide +kernel
theorem dX7_issueToAll_67 : decode cX7_issueToAll 67 = .ok (.iload_n 2, 1) := by decide +kernel
theorem dX7_issueToAll_68 : decode cX7_issueToAll 68 = .ok (.dup2, 1) := by decide +kernel
theorem dX7_issueToAll_69 : decode cX7_issueToAll 69 = .ok (.iaload, 1) := by decide +kernel
theorem dX7_issueToAll_70 : decode cX7_issueToAll 70 = .ok (.iload_n 3, 1) := by decide +kernel
theorem dX7_issueToAll_71 : decode cX7_issueToAll 71 = .ok (.iadd, 1) := by decide +kernel
theorem dX7_issueToAll_72 : decode cX7_issueToAll 72 = .ok (.iastore, 1) := by decide +kernel
theorem dX7_issueToAll_73 : decode cX7_issueToAll 73 = .ok (.iinc 2 1, 3) := by decide +kernel
theorem dX7_issueToAll_76 : decode cX7_issueToAll 76 = .ok (.goto (-61), 3) := by decide +kernel
theorem dX7_issueToAll_79 : decode cX7_issueToAll 79 = .ok (.iinc 1 1, 3) := by decide +kernel
theorem dX7_issueToAll_82 : decode cX7_issueToAll 82 = .ok (.goto (-80), 3) := by decide +kernel
theorem dX7_issueToAll_85 : decode cX7_issueToAll 85 = .ok (.return_, 1) := by decide +kernel
theorem dX7_setRation_0 : decode cX7_setRation 0 = .ok (.aload_n 0, 1) := by decide +kernel
theorem dX7_setRation_1 : decode cX7_setRation 1 = .ok (.iload_n 1, 1) := by decide +kernel
theorem dX7_setRation_2 : decode cX7_setRation 2 = .ok (.invokevirtual 115, 3) := by decide +kernel
theorem dX7_setRation_5 : decode cX7_setRation 5 = .ok (.ifCond .ne 5, 3) := by decide +kernel
theorem dX7_setRation_8 : decode cX7_setRation 8 = .ok (.iconst (-1), 1) := by decide +kernel
theorem dX7_setRation_9 : decode cX7_setRation 9 = .ok (.ireturn, 1) := by decide +kernel
theorem dX7_setRation_10 : decode cX7_setRation 10 = .ok (.iload_n 2, 1) := by decide +kernel
theorem dX7_setRation_11 : decode cX7_setRation 11 = .ok (.ifCond .lt 9, 3) := by decide +kernel
theorem dX7_setRation_14 : decode cX7_setRation 14 = .ok (.iload_n 2, 1) := by decide +kernel
theorem dX7_setRation_15 : decode cX7_setRation 15 = .ok (.bipush 99, 2) := by decide +kernel
theorem dX7_setRation_17 : decode cX7_setRation 17 = .ok (.if_icmp .le 6, 3) := by decide +kernel
theorem dX7_setRation_20 : decode cX7_setRation 20 = .ok (.bipush (-2), 2) := by decide +kernel
theorem dX7_setRation_22 : decode cX7_setRation 22 = .ok (.ireturn, 1) := by decide +kernel
theorem dX7_setRation_23 : decode cX7_setRation 23 = .ok (.aload_n 0, 1) := by decide +kernel
theorem dX7_setRation_24 : decode cX7_setRation 24 = .ok (.getfield 23, 3) := by decide +kernel
theorem dX7_setRation_27 : decode cX7_setRation 27 = .ok (.aload_n 0, 1) := by decide +kernel
theorem dX7_setRation_28 : decode cX7_setRation 28 = .ok (.getfield 47, 3) := by decide +kernel
theorem dX7_setRation_31 : decode cX7_setRation 31 = .ok (.invokevirtual 297, 3) := by decide +kernel
theorem dX7_setRation_34 : decode cX7_setRation 34 = .ok (.aload_n 0, 1) := by decide +kernel
theorem dX7_setRation_35 : decode cX7_setRation 35 = .ok (.getfield 47, 3) := by decide +kernel
theorem dX7_setRation_38 : decode cX7_setRation 38 = .ok (.getfield 123, 3) := by decide +kernel
theorem dX7_setRation_41 : decode cX7_setRation 41 = .ok (.iload_n 1, 1) := by decide +kernel
theorem dX7_setRation_42 : decode cX7_setRation 42 = .ok (.iaload, 1) := by decide +kernel
theorem dX7_setRation_43 : decode cX7_setRation 43 = .ok (.istore_n 3, 1) := by decide +kernel
theorem dX7_setRation_44 : decode cX7_setRation 44 = .ok (.aload_n 0, 1) := by decide +kernel
theorem dX7_setRation_45 : decode cX7_setRation 45 = .ok (.getfield 47, 3) := by decide +kernel
theorem dX7_setRation_48 : decode cX7_setRation 48 = .ok (.getfield 123, 3) := by decide +kernel
theorem dX7_setRation_51 : decode cX7_setRation 51 = .ok (.iload_n 1, 1) := by decide +kernel
theorem dX7_setRation_52 : decode cX7_setRation 52 = .ok (.iload_n 2, 1) := by decide +kernel
theorem dX7_setRation_53 : decode cX7_setRation 53 = .ok (.iastore, 1) := by decide +kernel
theorem dX7_setRation_54 : decode cX7_setRation 54 = .ok (.iload_n 3, 1) := by decide +kernel
theorem dX7_setRation_55 : decode cX7_setRation 55 = .ok (.ireturn, 1) := by decide +kernel
theorem dX7_setSize_0 : decode cX7_setSize 0 = .ok (.aload_n 0, 1) := by decide +kernel
theorem dX7_setSize_1 : decode cX7_setSize 1 = .ok (.iload_n 1, 1) := by decide +kernel
theorem dX7_setSize_2 : decode cX7_setSize 2 = .ok (.invokevirtual 150, 3) := by decide +kernel
theorem dX7_setSize_5 : decode cX7_setSize 5 = .ok (.ifCond .ne 5, 3) := by decide +kernel
theorem dX7_setSize_8 : decode cX7_setSize 8 = .ok (.iconst (-1), 1) := by decide +kernel
theorem dX7_setSize_9 : decode cX7_setSize 9 = .ok (.ireturn, 1) := by decide +kernel
theorem dX7_setSize_10 : decode cX7_setSize 10 = .ok (.iload_n 2, 1) := by decide +kernel
theorem dX7_setSize_11 : decode cX7_setSize 11 = .ok (.iconst 1, 1) := by decide +kernel
theorem dX7_setSize_12 : decode cX7_setSize 12 = .ok (.if_icmp .lt 9, 3) := by decide +kernel
theorem dX7_setSize_15 : decode cX7_setSize 15 = .ok (.iload_n 2, 1) := by decide +kernel
theorem dX7_setSize_16 : decode cX7_setSize 16 = .ok (.bipush 9, 2) := by decide +kernel
theorem dX7_setSize_18 : decode cX7_setSize 18 = .ok (.if_icmp .le 6, 3) := by decide +kernel
theorem dX7_setSize_21 : decode cX7_setSize 21 = .ok (.bipush (-2), 2) := by decide +kernel
theorem dX7_setSize_23 : decode cX7_setSize 23 = .ok (.ireturn, 1) := by decide +kernel
theorem dX7_setSize_24 : decode cX7_setSize 24 = .ok (.aload_n 0, 1) := by decide +kernel
theorem dX7_setSize_25 : decode cX7_setSize 25 = .ok (.getfield 23, 3) := by decide +kernel
theorem dX7_setSize_28 : decode cX7_setSize 28 = .ok (.aload_n 0, 1) := by decide +kernel
theorem dX7_setSize_29 : decode cX7_setSize 29 = .ok (.getfield 47, 3) := by decide +kernel
theorem dX7_setSize_32 : decode cX7_setSize 32 = .ok (.invokevirtual 297, 3) := by decide +kernel
theorem dX7_setSize_35 : decode cX7_setSize 35 = .ok (.aload_n 0, 1) := by decide +kernel
theorem dX7_setSize_36 : decode cX7_setSize 36 = .ok (.getfield 47, 3) := by decide +kernel
theorem dX7_setSize_39 : decode cX7_setSize 39 = .ok (.getfield 153, 3) := by decide +kernel
theorem dX7_setSize_42 : decode cX7_setSize 42 = .ok (.iload_n 1, 1) := by decide +kernel
theorem dX7_setSize_43 : decode cX7_setSize 43 = .ok (.iaload, 1) := by decide +kernel
theorem dX7_setSize_44 : decode cX7_setSize 44 = .ok (.istore_n 3, 1) := by decide +kernel
theorem dX7_setSize_45 : decode cX7_setSize 45 = .ok (.aload_n 0, 1) := by decide +kernel
theorem dX7_setSize_46 : decode cX7_setSize 46 = .ok (.getfield 47, 3) := by decide +kernel
theorem dX7_setSize_49 : decode cX7_setSize 49 = .ok (.getfield 153, 3) := by decide +kernel
theorem dX7_setSize_52 : decode cX7_setSize 52 = .ok (.iload_n 1, 1) := by decide +kernel
theorem dX7_setSize_53 : decode cX7_setSize 53 = .ok (.iload_n 2, 1) := by decide +kernel
theorem dX7_setSize_54 : decode cX7_setSize 54 = .ok (.iastore, 1) := by decide +kernel
theorem dX7_setSize_55 : decode cX7_setSize 55 = .ok (.iload_n 3, 1) := by decide +kernel
theorem dX7_setSize_56 : decode cX7_setSize 56 = .ok (.ireturn, 1) := by decide +kernel
theorem dX7_setSetting_0 : decode cX7_setSetting 0 = .ok (.iload_n 1, 1) := by decide +kernel
theorem dX7_setSetting_1 : decode cX7_setSetting 1 = .ok (.invokestatic 156, 3) := by decide +kernel
theorem dX7_setSetting_4 : decode cX7_setSetting 4 = .ok (.ifCond .eq 16, 3) := by decide +kernel
theorem dX7_setSetting_7 : decode cX7_setSetting 7 = .ok (.iload_n 2, 1) := by decide +kernel
theorem dX7_setSetting_8 : decode cX7_setSetting 8 = .ok (.ifCond .lt 12, 3) := by decide +kernel
theorem dX7_setSetting_11 : decode cX7_setSetting 11 = .ok (.iload_n 2, 1) := by decide +kernel
theorem dX7_setSetting_12 : decode cX7_setSetting 12 = .ok (.getstatic 332, 3) := by decide +kernel
theorem dX7_setSetting_15 : decode cX7_setSetting 15 = .ok (.iload_n 1, 1) := by decide +kernel
theorem dX7_setSetting_16 : decode cX7_setSetting 16 = .ok (.iaload, 1) := by decide +kernel
theorem dX7_setSetting_17 : decode cX7_setSetting 17 = .ok (.if_icmp .le 6, 3) := by decide +kernel
theorem dX7_setSetting_20 : decode cX7_setSetting 20 = .ok (.bipush (-2), 2) := by decide +kernel
theorem dX7_setSetting_22 : decode cX7_setSetting 22 = .ok (.ireturn, 1) := by decide +kernel
theorem dX7_setSetting_23 : decode cX7_setSetting 23 = .ok (.aload_n 0, 1) := by decide +kernel
theorem dX7_setSetting_24 : decode cX7_setSetting 24 = .ok (.getfield 23, 3) := by decide +kernel
theorem dX7_setSetting_27 : decode cX7_setSetting 27 = .ok (.aload_n 0, 1) := by decide +kernel
theorem dX7_setSetting_28 : decode cX7_setSetting 28 = .ok (.getfield 47, 3) := by decide +kernel
theorem dX7_setSetting_31 : decode cX7_setSetting 31 = .ok (.invokevirtual 297, 3) := by decide +kernel
theorem dX7_setSetting_34 : decode cX7_setSetting 34 = .ok (.aload_n 0, 1) := by decide +kernel
theorem dX7_setSetting_35 : decode cX7_setSetting 35 = .ok (.getfield 47, 3) := by decide +kernel
theorem dX7_setSetting_38 : decode cX7_setSetting 38 = .ok (.getfield 159, 3) := by decide +kernel
theorem dX7_setSetting_41 : decode cX7_setSetting 41 = .ok (.iload_n 1, 1) := by decide +kernel
theorem dX7_setSetting_42 : decode cX7_setSetting 42 = .ok (.iaload, 1) := by decide +kernel
theorem dX7_setSetting_43 : decode cX7_setSetting 43 = .ok (.istore_n 3, 1) := by decide +kernel
theorem dX7_setSetting_44 : decode cX7_setSetting 44 = .ok (.aload_n 0, 1) := by decide +kernel
theorem dX7_setSetting_45 : decode cX7_setSetting 45 = .ok (.getfield 47, 3) := by decide +kernel
theorem dX7_setSetting_48 : decode cX7_setSetting 48 = .ok (.getfield 159, 3) := by decide +kernel
theorem dX7_setSetting_51 : decode cX7_setSetting 51 = .ok (.iload_n 1, 1) := by decide +kernel
theorem dX7_setSetting_52 : decode cX7_setSetting 52 = .ok (.iload_n 2, 1) := by decide +kernel
theorem dX7_setSetting_53 : decode cX7_setSetting 53 = .ok (.iastore, 1) := by decide +kernel
theorem dX7_setSetting_54 : decode cX7_setSetting 54 = .ok (.iload_n 3, 1) := by decide +kernel
theorem dX7_setSetting_55 : decode cX7_setSetting 55 = .ok (.ireturn, 1) := by decide +kernel
theorem dX7_undo_0 : decode cX7_undo 0 = .ok (.aload_n 0, 1) := by decide +kernel
theorem dX7_undo_1 : decode cX7_undo 1 = .ok (.getfield 23, 3) := by decide +kernel
theorem dX7_undo_4 : decode cX7_undo 4 = .ok (.getfield 93, 3) := by decide +kernel
theorem dX7_undo_7 : decode cX7_undo 7 = .ok (.ifCond .ne 5, 3) := by decide +kernel
theorem dX7_undo_10 : decode cX7_undo 10 = .ok (.iconst (-1), 1) := by decide +kernel
theorem dX7_undo_11 : decode cX7_undo 11 = .ok (.ireturn, 1) := by decide +kernel
theorem dX7_undo_12 : decode cX7_undo 12 = .ok (.aload_n 0, 1) := by decide +kernel
theorem dX7_undo_13 : decode cX7_undo 13 = .ok (.getfield 23, 3) := by decide +kernel
theorem dX7_undo_16 : decode cX7_undo 16 = .ok (.aload_n 0, 1) := by decide +kernel
theorem dX7_undo_17 : decode cX7_undo 17 = .ok (.getfield 47, 3) := by decide +kernel
theorem dX7_undo_20 : decode cX7_undo 20 = .ok (.invokevirtual 335, 3) := by decide +kernel
theorem dX7_undo_23 : decode cX7_undo 23 = .ok (.aload_n 0, 1) := by decide +kernel
theorem dX7_undo_24 : decode cX7_undo 24 = .ok (.getfield 23, 3) := by decide +kernel
theorem dX7_undo_27 : decode cX7_undo 27 = .ok (.getfield 93, 3) := by decide +kernel
theorem dX7_undo_30 : decode cX7_undo 30 = .ok (.ireturn, 1) := by decide +kernel
theorem dX7_need_0 : decode cX7_need 0 = .ok (.iload_n 0, 1) := by decide +kernel
theorem dX7_need_1 : decode cX7_need 1 = .ok (.ifCond .ne 14, 3) := by decide +kernel
theorem dX7_need_4 : decode cX7_need 4 = .ok (.new 338, 3) := by decide +kernel
theorem dX7_need_7 : decode cX7_need 7 = .ok (.dup, 1) := by decide +kernel
theorem dX7_need_8 : decode cX7_need 8 = .ok (.ldc_w 340, 3) := by decide +kernel
theorem dX7_need_11 : decode cX7_need 11 = .ok (.invokespecial 342, 3) := by decide +kernel
theorem dX7_need_14 : decode cX7_need 14 = .ok (.athrow, 1) := by decide +kernel
theorem dX7_need_15 : decode cX7_need 15 = .ok (.return_, 1) := by decide +kernel
theorem dX7_isGroup_0 : decode cX7_isGroup 0 = .ok (.iload_n 1, 1) := by decide +kernel
theorem dX7_isGroup_1 : decode cX7_isGroup 1 = .ok (.ifCond .lt 18, 3) := by decide +kernel
theorem dX7_isGroup_4 : decode cX7_isGroup 4 = .ok (.iload_n 1, 1) := by decide +kernel
theorem dX7_isGroup_5 : decode cX7_isGroup 5 = .ok (.aload_n 0, 1) := by decide +kernel
theorem dX7_isGroup_6 : decode cX7_isGroup 6 = .ok (.getfield 40, 3) := by decide +kernel
theorem dX7_isGroup_9 : decode cX7_isGroup 9 = .ok (.getfield 81, 3) := by decide +kernel
theorem dX7_isGroup_12 : decode cX7_isGroup 12 = .ok (.if_icmp .ge 7, 3) := by decide +kernel
theorem dX7_isGroup_15 : decode cX7_isGroup 15 = .ok (.iconst 1, 1) := by decide +kernel
theorem dX7_isGroup_16 : decode cX7_isGroup 16 = .ok (.goto 4, 3) := by decide +kernel
theorem dX7_isGroup_19 : decode cX7_isGroup 19 = .ok (.iconst 0, 1) := by decide +kernel
theorem dX7_isGroup_20 : decode cX7_isGroup 20 = .ok (.ireturn, 1) := by decide +kernel
theorem dX7_isGood_0 : decode cX7_isGood 0 = .ok (.iload_n 1, 1) := by decide +kernel
theorem dX7_isGood_1 : decode cX7_isGood 1 = .ok (.ifCond .lt 18, 3) := by decide +kernel
theorem dX7_isGood_4 : decode cX7_isGood 4 = .ok (.iload_n 1, 1) := by decide +kernel
theorem dX7_isGood_5 : decode cX7_isGood 5 = .ok (.aload_n 0, 1) := by decide +kernel
theorem dX7_isGood_6 : decode cX7_isGood 6 = .ok (.getfield 40, 3) := by decide +kernel
theorem dX7_isGood_9 : decode cX7_isGood 9 = .ok (.getfield 84, 3) := by decide +kernel
theorem dX7_isGood_12 : decode cX7_isGood 12 = .ok (.if_icmp .ge 7, 3) := by decide +kernel
theorem dX7_isGood_15 : decode cX7_isGood 15 = .ok (.iconst 1, 1) := by decide +kernel
theorem dX7_isGood_16 : decode cX7_isGood 16 = .ok (.goto 4, 3) := by decide +kernel
theorem dX7_isGood_19 : decode cX7_isGood 19 = .ok (.iconst 0, 1) := by decide +kernel
theorem dX7_isGood_20 : decode cX7_isGood 20 = .ok (.ireturn, 1) := by decide +kernel
theorem dX7_isHouse_0 : decode cX7_isHouse 0 = .ok (.iload_n 1, 1) := by decide +kernel
theorem dX7_isHouse_1 : decode cX7_isHouse 1 = .ok (.ifCond .lt 18, 3) := by decide +kernel
theorem dX7_isHouse_4 : decode cX7_isHouse 4 = .ok (.iload_n 1, 1) := by decide +kernel
theorem dX7_isHouse_5 : decode cX7_isHouse 5 = .ok (.aload_n 0, 1) := by decide +kernel
theorem dX7_isHouse_6 : decode cX7_isHouse 6 = .ok (.getfield 40, 3) := by decide +kernel
theorem dX7_isHouse_9 : decode cX7_isHouse 9 = .ok (.getfield 87, 3) := by decide +kernel
theorem dX7_isHouse_12 : decode cX7_isHouse 12 = .ok (.if_icmp .ge 7, 3) := by decide +kernel
theorem dX7_isHouse_15 : decode cX7_isHouse 15 = .ok (.iconst 1, 1) := by decide +kernel
theorem dX7_isHouse_16 : decode cX7_isHouse 16 = .ok (.goto 4, 3) := by decide +kernel
theorem dX7_isHouse_19 : decode cX7_isHouse 19 = .ok (.iconst 0, 1) := by decide +kernel
theorem dX7_isHouse_20 : decode cX7_isHouse 20 = .ok (.ireturn, 1) := by decide +kernel
theorem dX7_isShop_0 : decode cX7_isShop 0 = .ok (.iload_n 1, 1) := by decide +kernel
theorem dX7_isShop_1 : decode cX7_isShop 1 = .ok (.ifCond .lt 18, 3) := by decide +kernel
theorem dX7_isShop_4 : decode cX7_isShop 4 = .ok (.iload_n 1, 1) := by decide +kernel
theorem dX7_isShop_5 : decode cX7_isShop 5 = .ok (.aload_n 0, 1) := by decide +kernel
theorem dX7_isShop_6 : decode cX7_isShop 6 = .ok (.getfield 40, 3) := by decide +kernel
theorem dX7_isShop_9 : decode cX7_isShop 9 = .ok (.getfield 90, 3) := by decide +kernel
theorem dX7_isShop_12 : decode cX7_isShop 12 = .ok (.if_icmp .ge 7, 3) := by decide +kernel
theorem dX7_isShop_15 : decode cX7_isShop 15 = .ok (.iconst 1, 1) := by decide +kernel
theorem dX7_isShop_16 : decode cX7_isShop 16 = .ok (.goto 4, 3) := by decide +kernel
theorem dX7_isShop_19 : decode cX7_isShop 19 = .ok (.iconst 0, 1) := by decide +kernel
theorem dX7_isShop_20 : decode cX7_isShop 20 = .ok (.ireturn, 1) := by decide +kernel
theorem dX7_isSetting_0 : decode cX7_isSetting 0 = .ok (.iload_n 0, 1) := by decide +kernel
theorem dX7_isSetting_1 : decode cX7_isSetting 1 = .ok (.ifCond .lt 12, 3) := by decide +kernel
theorem dX7_isSetting_4 : decode cX7_isSetting 4 = .ok (.iload_n 0, 1) := by decide +kernel
theorem dX7_isSetting_5 : decode cX7_isSetting 5 = .ok (.iconst 3, 1) := by decide +kernel
theorem dX7_isSetting_6 : decode cX7_isSetting 6 = .ok (.if_icmp .ge 7, 3) := by decide +kernel
theorem dX7_isSetting_9 : decode cX7_isSetting 9 = .ok (.iconst 1, 1) := by decide +kernel
theorem dX7_isSetting_10 : decode cX7_isSetting 10 = .ok (.goto 4, 3) := by decide +kernel
theorem dX7_isSetting_13 : decode cX7_isSetting 13 = .ok (.iconst 0, 1) := by decide +kernel
theorem dX7_isSetting_14 : decode cX7_isSetting 14 = .ok (.ireturn, 1) := by decide +kernel
theorem dX7_areUnits_0 : decode cX7_areUnits 0 = .ok (.iload_n 0, 1) := by decide +kernel
theorem dX7_areUnits_1 : decode cX7_areUnits 1 = .ok (.iconst 1, 1) := by decide +kernel
theorem dX7_areUnits_2 : decode cX7_areUnits 2 = .ok (.if_icmp .lt 14, 3) := by decide +kernel
theorem dX7_areUnits_5 : decode cX7_areUnits 5 = .ok (.iload_n 0, 1) := by decide +kernel
theorem dX7_areUnits_6 : decode cX7_areUnits 6 = .ok (.sipush 9999, 3) := by decide +kernel
theorem dX7_areUnits_9 : decode cX7_areUnits 9 = .ok (.if_icmp .gt 7, 3) := by decide +kernel
theorem dX7_areUnits_12 : decode cX7_areUnits 12 = .ok (.iconst 1, 1) := by decide +kernel
theorem dX7_areUnits_13 : decode cX7_areUnits 13 = .ok (.goto 4, 3) := by decide +kernel
theorem dX7_areUnits_16 : decode cX7_areUnits 16 = .ok (.iconst 0, 1) := by decide +kernel
theorem dX7_areUnits_17 : decode cX7_areUnits 17 = .ok (.ireturn, 1) := by decide +kernel
theorem dX7_quotient_0 : decode cX7_quotient 0 = .ok (.iload_n 1, 1) := by decide +kernel
theorem dX7_quotient_1 : decode cX7_quotient 1 = .ok (.ifCond .le 9, 3) := by decide +kernel
theorem dX7_quotient_4 : decode cX7_quotient 4 = .ok (.iload_n 0, 1) := by decide +kernel
theorem dX7_quotient_5 : decode cX7_quotient 5 = .ok (.iload_n 1, 1) := by decide +kernel
theorem dX7_quotient_6 : decode cX7_quotient 6 = .ok (.idiv, 1) := by decide +kernel
theorem dX7_quotient_7 : decode cX7_quotient 7 = .ok (.goto 4, 3) := by decide +kernel
theorem dX7_quotient_10 : decode cX7_quotient 10 = .ok (.iconst 0, 1) := by decide +kernel
theorem dX7_quotient_11 : decode cX7_quotient 11 = .ok (.ireturn, 1) := by decide +kernel
theorem dX7_isClosed_0 : decode cX7_isClosed 0 = .ok (.aload_n 0, 1) := by decide +kernel
theorem dX7_isClosed_1 : decode cX7_isClosed 1 = .ok (.getfield 47, 3) := by decide +kernel
theorem dX7_isClosed_4 : decode cX7_isClosed 4 = .ok (.getfield 228, 3) := by decide +kernel
theorem dX7_isClosed_7 : decode cX7_isClosed 7 = .ok (.iload_n 1, 1) := by decide +kernel
theorem dX7_isClosed_8 : decode cX7_isClosed 8 = .ok (.iaload, 1) := by decide +kernel
theorem dX7_isClosed_9 : decode cX7_isClosed 9 = .ok (.aload_n 0, 1) := by decide +kernel
theorem dX7_isClosed_10 : decode cX7_isClosed 10 = .ok (.getfield 47, 3) := by decide +kernel
theorem dX7_isClosed_13 : decode cX7_isClosed 13 = .ok (.getfield 159, 3) := by decide +kernel
theorem dX7_isClosed_16 : decode cX7_isClosed 16 = .ok (.iconst 2, 1) := by decide +kernel
theorem dX7_isClosed_17 : decode cX7_isClosed 17 = .ok (.iaload, 1) := by decide +kernel
theorem dX7_isClosed_18 : decode cX7_isClosed 18 = .ok (.if_icmp .le 7, 3) := by decide +kernel
theorem dX7_isClosed_21 : decode cX7_isClosed 21 = .ok (.iconst 1, 1) := by decide +kernel
theorem dX7_isClosed_22 : decode cX7_isClosed 22 = .ok (.goto 4, 3) := by decide +kernel
theorem dX7_isClosed_25 : decode cX7_isClosed 25 = .ok (.iconst 0, 1) := by decide +kernel
theorem dX7_isClosed_26 : decode cX7_isClosed 26 = .ok (.ireturn, 1) := by decide +kernel
theorem dX7_holding_0 : decode cX7_holding 0 = .ok (.aload_n 0, 1) := by decide +kernel
theorem dX7_holding_1 : decode cX7_holding 1 = .ok (.getfield 47, 3) := by decide +kernel
theorem dX7_holding_4 : decode cX7_holding 4 = .ok (.getfield 166, 3) := by decide +kernel
theorem dX7_holding_7 : decode cX7_holding 7 = .ok (.iload_n 1, 1) := by decide +kernel
theorem dX7_holding_8 : decode cX7_holding 8 = .ok (.iload_n 2, 1) := by decide +kernel
theorem dX7_holding_9 : decode cX7_holding 9 = .ok (.invokestatic 169, 3) := by decide +kernel
theorem dX7_holding_12 : decode cX7_holding 12 = .ok (.invokestatic 179, 3) := by decide +kernel
theorem dX7_holding_15 : decode cX7_holding 15 = .ok (.ireturn, 1) := by decide +kernel
theorem dX7_heldByAll_0 : decode cX7_heldByAll 0 = .ok (.iconst 0, 1) := by decide +kernel
theorem dX7_heldByAll_1 : decode cX7_heldByAll 1 = .ok (.istore_n 2, 1) := by decide +kernel
theorem dX7_heldByAll_2 : decode cX7_heldByAll 2 = .ok (.iconst 0, 1) := by decide +kernel
theorem dX7_heldByAll_3 : decode cX7_heldByAll 3 = .ok (.istore_n 3, 1) := by decide +kernel
theorem dX7_heldByAll_4 : decode cX7_heldByAll 4 = .ok (.iload_n 3, 1) := by decide +kernel
theorem dX7_heldByAll_5 : decode cX7_heldByAll 5 = .ok (.aload_n 0, 1) := by decide +kernel
theorem dX7_heldByAll_6 : decode cX7_heldByAll 6 = .ok (.getfield 40, 3) := by decide +kernel
theorem dX7_heldByAll_9 : decode cX7_heldByAll 9 = .ok (.getfield 87, 3) := by decide +kernel
theorem dX7_heldByAll_12 : decode cX7_heldByAll 12 = .ok (.if_icmp .ge 18, 3) := by decide +kernel
theorem dX7_heldByAll_15 : decode cX7_heldByAll 15 = .ok (.iload_n 2, 1) := by decide +kernel
theorem dX7_heldByAll_16 : decode cX7_heldByAll 16 = .ok (.aload_n 0, 1) := by decide +kernel
theorem dX7_heldByAll_17 : decode cX7_heldByAll 17 = .ok (.iload_n 3, 1) := by decide +kernel
theorem dX7_heldByAll_18 : decode cX7_heldByAll 18 = .ok (.iload_n 1, 1) := by decide +kernel
theorem dX7_heldByAll_19 : decode cX7_heldByAll 19 = .ok (.invokevirtual 162, 3) := by decide +kernel
theorem dX7_heldByAll_22 : decode cX7_heldByAll 22 = .ok (.iadd, 1) := by decide +kernel
theorem dX7_heldByAll_23 : decode cX7_heldByAll 23 = .ok (.istore_n 2, 1) := by decide +kernel
theorem dX7_heldByAll_24 : decode cX7_heldByAll 24 = .ok (.iinc 3 1, 3) := by decide +kernel
theorem dX7_heldByAll_27 : decode cX7_heldByAll 27 = .ok (.goto (-23), 3) := by decide +kernel
theorem dX7_heldByAll_30 : decode cX7_heldByAll 30 = .ok (.iload_n 2, 1) := by decide +kernel
theorem dX7_heldByAll_31 : decode cX7_heldByAll 31 = .ok (.ireturn, 1) := by decide +kernel
theorem dX7_shareOf_0 : decode cX7_shareOf 0 = .ok (.aload_n 0, 1) := by decide +kernel
theorem dX7_shareOf_1 : decode cX7_shareOf 1 = .ok (.getfield 47, 3) := by decide +kernel
theorem dX7_shareOf_4 : decode cX7_shareOf 4 = .ok (.getfield 153, 3) := by decide +kernel
theorem dX7_shareOf_7 : decode cX7_shareOf 7 = .ok (.iload_n 1, 1) := by decide +kernel
theorem dX7_shareOf_8 : decode cX7_shareOf 8 = .ok (.iaload, 1) := by decide +kernel
theorem dX7_shareOf_9 : decode cX7_shareOf 9 = .ok (.aload_n 0, 1) := by decide +kernel
theorem dX7_shareOf_10 : decode cX7_shareOf 10 = .ok (.getfield 47, 3) := by decide +kernel
theorem dX7_shareOf_13 : decode cX7_shareOf 13 = .ok (.getfield 123, 3) := by decide +kernel
theorem dX7_shareOf_16 : decode cX7_shareOf 16 = .ok (.iload_n 2, 1) := by decide +kernel
theorem dX7_shareOf_17 : decode cX7_shareOf 17 = .ok (.iaload, 1) := by decide +kernel
theorem dX7_shareOf_18 : decode cX7_shareOf 18 = .ok (.imul, 1) := by decide +kernel
theorem dX7_shareOf_19 : decode cX7_shareOf 19 = .ok (.ireturn, 1) := by decide +kernel
theorem dX7_giveRoom_0 : decode cX7_giveRoom 0 = .ok (.iconst 0, 1) := by decide +kernel
theorem dX7_giveRoom_1 : decode cX7_giveRoom 1 = .ok (.aload_n 0, 1) := by decide +kernel
theorem dX7_giveRoom_2 : decode cX7_giveRoom 2 = .ok (.getfield 47, 3) := by decide +kernel
theorem dX7_giveRoom_5 : decode cX7_giveRoom 5 = .ok (.getfield 159, 3) := by decide +kernel
theorem dX7_giveRoom_8 : decode cX7_giveRoom 8 = .ok (.iconst 0, 1) := by decide +kernel
theorem dX7_giveRoom_9 : decode cX7_giveRoom 9 = .ok (.iaload, 1) := by decide +kernel
theorem dX7_giveRoom_10 : decode cX7_giveRoom 10 = .ok (.aload_n 0, 1) := by decide +kernel
theorem dX7_giveRoom_11 : decode cX7_giveRoom 11 = .ok (.getfield 47, 3) := by decide +kernel
theorem dX7_giveRoom_14 : decode cX7_giveRoom 14 = .ok (.getfield 188, 3) := by decide +kernel
theorem dX7_giveRoom_17 : decode cX7_giveRoom 17 = .ok (.iload_n 1, 1) := by decide +kernel
theorem dX7_giveRoom_18 : decode cX7_giveRoom 18 = .ok (.iaload, 1) := by decide +kernel
theorem dX7_giveRoom_19 : decode cX7_giveRoom 19 = .ok (.isub, 1) := by decide +kernel
theorem dX7_giveRoom_20 : decode cX7_giveRoom 20 = .ok (.invokestatic 290, 3) := by decide +kernel
theorem dX7_giveRoom_23 : decode cX7_giveRoom 23 = .ok (.ireturn, 1) := by decide +kernel
theorem dX7_takeRoom_0 : decode cX7_takeRoom 0 = .ok (.iconst 0, 1) := by decide +kernel
theorem dX7_takeRoom_1 : decode cX7_takeRoom 1 = .ok (.aload_n 0, 1) := by decide +kernel
theorem dX7_takeRoom_2 : decode cX7_takeRoom 2 = .ok (.getfield 47, 3) := by decide +kernel
theorem dX7_takeRoom_5 : decode cX7_takeRoom 5 = .ok (.getfield 159, 3) := by decide +kernel
theorem dX7_takeRoom_8 : decode cX7_takeRoom 8 = .ok (.iconst 1, 1) := by decide +kernel
theorem dX7_takeRoom_9 : decode cX7_takeRoom 9 = .ok (.iaload, 1) := by decide +kernel
theorem dX7_takeRoom_10 : decode cX7_takeRoom 10 = .ok (.aload_n 0, 1) := by decide +kernel
theorem dX7_takeRoom_11 : decode cX7_takeRoom 11 = .ok (.getfield 47, 3) := by decide +kernel
theorem dX7_takeRoom_14 : decode cX7_takeRoom 14 = .ok (.getfield 191, 3) := by decide +kernel
theorem dX7_takeRoom_17 : decode cX7_takeRoom 17 = .ok (.iload_n 1, 1) := by decide +kernel
theorem dX7_takeRoom_18 : decode cX7_takeRoom 18 = .ok (.iaload, 1) := by decide +kernel
theorem dX7_takeRoom_19 : decode cX7_takeRoom 19 = .ok (.isub, 1) := by decide +kernel
theorem dX7_takeRoom_20 : decode cX7_takeRoom 20 = .ok (.invokestatic 290, 3) := by decide +kernel
theorem dX7_takeRoom_23 : decode cX7_takeRoom 23 = .ok (.ireturn, 1) := by decide +kernel
theorem dX7_mostToGive_0 : decode cX7_mostToGive 0 = .ok (.aload_n 0, 1) := by decide +kernel
theorem dX7_mostToGive_1 : decode cX7_mostToGive 1 = .ok (.iload_n 1, 1) := by decide +kernel
theorem dX7_mostToGive_2 : decode cX7_mostToGive 2 = .ok (.iload_n 2, 1) := by decide +kernel
theorem dX7_mostToGive_3 : decode cX7_mostToGive 3 = .ok (.invokevirtual 162, 3) := by decide +kernel
theorem dX7_mostToGive_6 : decode cX7_mostToGive 6 = .ok (.aload_n 0, 1) := by decide +kernel
theorem dX7_mostToGive_7 : decode cX7_mostToGive 7 = .ok (.iload_n 1, 1) := by decide +kernel
theorem dX7_mostToGive_8 : decode cX7_mostToGive 8 = .ok (.invokevirtual 307, 3) := by decide +kernel
theorem dX7_mostToGive_11 : decode cX7_mostToGive 11 = .ok (.invokestatic 201, 3) := by decide +kernel
theorem dX7_mostToGive_14 : decode cX7_mostToGive 14 = .ok (.ireturn, 1) := by decide +kernel
theorem dX7_fromSubstitute_0 : decode cX7_fromSubstitute 0 = .ok (.aload_n 0, 1) := by decide +kernel
theorem dX7_fromSubstitute_1 : decode cX7_fromSubstitute 1 = .ok (.getfield 40, 3) := by decide +kernel
theorem dX7_fromSubstitute_4 : decode cX7_fromSubstitute 4 = .ok (.getfield 141, 3) := by decide +kernel
theorem dX7_fromSubstitute_7 : decode cX7_fromSubstitute 7 = .ok (.iload_n 2, 1) := by decide +kernel
theorem dX7_fromSubstitute_8 : decode cX7_fromSubstitute 8 = .ok (.iaload, 1) := by decide +kernel
theorem dX7_fromSubstitute_9 : decode cX7_fromSubstitute 9 = .ok (.istore 4, 2) := by decide +kernel
theorem dX7_fromSubstitute_11 : decode cX7_fromSubstitute 11 = .ok (.iload_n 3, 1) := by decide +kernel
theorem dX7_fromSubstitute_12 : decode cX7_fromSubstitute 12 = .ok (.aload_n 0, 1) := by decide +kernel
theorem dX7_fromSubstitute_13 : decode cX7_fromSubstitute 13 = .ok (.getfield 40, 3) := by decide +kernel
theorem dX7_fromSubstitute_16 : decode cX7_fromSubstitute 16 = .ok (.getfield 144, 3) := by decide +kernel
theorem dX7_fromSubstitute_19 : decode cX7_fromSubstitute 19 = .ok (.iload_n 2, 1) := by decide +kernel
theorem dX7_fromSubstitute_20 : decode cX7_fromSubstitute 20 = .ok (.iaload, 1) := by decide +kernel
theorem dX7_fromSubstitute_21 : decode cX7_fromSubstitute 21 = .ok (.imul, 1) := by decide +kernel
theorem dX7_fromSubstitute_22 : decode cX7_fromSubstitute 22 = .ok (.aload_n 0, 1) := by decide +kernel
theorem dX7_fromSubstitute_23 : decode cX7_fromSubstitute 23 = .ok (.iload_n 1, 1) := by decide +kernel
theorem dX7_fromSubstitute_24 : decode cX7_fromSubstitute 24 = .ok (.iload 4, 2) := by decide +kernel
theorem dX7_fromSubstitute_26 : decode cX7_fromSubstitute 26 = .ok (.invokevirtual 162, 3) := by decide +kernel
theorem dX7_fromSubstitute_29 : decode cX7_fromSubstitute 29 = .ok (.isub, 1) := by decide +kernel
theorem dX7_fromSubstitute_30 : decode cX7_fromSubstitute 30 = .ok (.istore 5, 2) := by decide +kernel
theorem dX7_fromSubstitute_32 : decode cX7_fromSubstitute 32 = .ok (.iconst 0, 1) := by decide +kernel
theorem dX7_fromSubstitute_33 : decode cX7_fromSubstitute 33 = .ok (.iload 5, 2) := by decide +kernel
theorem dX7_fromSubstitute_35 : decode cX7_fromSubstitute 35 = .ok (.invokestatic 290, 3) := by decide +kernel
theorem dX7_fromSubstitute_38 : decode cX7_fromSubstitute 38 = .ok (.aload_n 0, 1) := by decide +kernel
theorem dX7_fromSubstitute_39 : decode cX7_fromSubstitute 39 = .ok (.getfield 40, 3) := by decide +kernel
theorem dX7_fromSubstitute_42 : decode cX7_fromSubstitute 42 = .ok (.getfield 135, 3) := by decide +kernel
theorem dX7_fromSubstitute_45 : decode cX7_fromSubstitute 45 = .ok (.iload 4, 2) := by decide +kernel
theorem dX7_fromSubstitute_47 : decode cX7_fromSubstitute 47 = .ok (.iaload, 1) := by decide +kernel
theorem dX7_fromSubstitute_48 : decode cX7_fromSubstitute 48 = .ok (.imul, 1) := by decide +kernel
theorem dX7_fromSubstitute_49 : decode cX7_fromSubstitute 49 = .ok (.ireturn, 1) := by decide +kernel
theorem dX7_canPay_0 : decode cX7_canPay 0 = .ok (.aload_n 0, 1) := by decide +kernel
theorem dX7_canPay_1 : decode cX7_canPay 1 = .ok (.getfield 40, 3) := by decide +kernel
theorem dX7_canPay_4 : decode cX7_canPay 4 = .ok (.getfield 141, 3) := by decide +kernel
theorem dX7_canPay_7 : decode cX7_canPay 7 = .ok (.iload_n 2, 1) := by decide +kernel
theorem dX7_canPay_8 : decode cX7_canPay 8 = .ok (.iaload, 1) := by decide +kernel
theorem dX7_canPay_9 : decode cX7_canPay 9 = .ok (.istore 4, 2) := by decide +kernel
theorem dX7_canPay_11 : decode cX7_canPay 11 = .ok (.aload_n 0, 1) := by decide +kernel
theorem dX7_canPay_12 : decode cX7_canPay 12 = .ok (.getfield 40, 3) := by decide +kernel
theorem dX7_canPay_15 : decode cX7_canPay 15 = .ok (.getfield 132, 3) := by decide +kernel
theorem dX7_canPay_18 : decode cX7_canPay 18 = .ok (.iload 4, 2) := by decide +kernel
theorem dX7_canPay_20 : decode cX7_canPay 20 = .ok (.iaload, 1) := by decide +kernel
theorem dX7_canPay_21 : decode cX7_canPay 21 = .ok (.istore 5, 2) := by decide +kernel
theorem dX7_canPay_23 : decode cX7_canPay 23 = .ok (.iload 5, 2) := by decide +kernel
theorem dX7_canPay_25 : decode cX7_canPay 25 = .ok (.ifCond .ge 30, 3) := by decide +kernel
theorem dX7_canPay_28 : decode cX7_canPay 28 = .ok (.aload_n 0, 1) := by decide +kernel
theorem dX7_canPay_29 : decode cX7_canPay 29 = .ok (.iload_n 1, 1) := by decide +kernel
theorem dX7_canPay_30 : decode cX7_canPay 30 = .ok (.iload 4, 2) := by decide +kernel
theorem dX7_canPay_32 : decode cX7_canPay 32 = .ok (.invokevirtual 162, 3) := by decide +kernel
theorem dX7_canPay_35 : decode cX7_canPay 35 = .ok (.iload_n 3, 1) := by decide +kernel
theorem dX7_canPay_36 : decode cX7_canPay 36 = .ok (.aload_n 0, 1) := by decide +kernel
theorem dX7_canPay_37 : decode cX7_canPay 37 = .ok (.getfield 40, 3) := by decide +kernel
theorem dX7_canPay_40 : decode cX7_canPay 40 = .ok (.getfield 144, 3) := by decide +kernel
theorem dX7_canPay_43 : decode cX7_canPay 43 = .ok (.iload_n 2, 1) := by decide +kernel
theorem dX7_canPay_44 : decode cX7_canPay 44 = .ok (.iaload, 1) := by decide +kernel
theorem dX7_canPay_45 : decode cX7_canPay 45 = .ok (.imul, 1) := by decide +kernel
theorem dX7_canPay_46 : decode cX7_canPay 46 = .ok (.if_icmp .lt 7, 3) := by decide +kernel
theorem dX7_canPay_49 : decode cX7_canPay 49 = .ok (.iconst 1, 1) := by decide +kernel
theorem dX7_canPay_50 : decode cX7_canPay 50 = .ok (.goto 4, 3) := by decide +kernel
theorem dX7_canPay_53 : decode cX7_canPay 53 = .ok (.iconst 0, 1) := by decide +kernel
theorem dX7_canPay_54 : decode cX7_canPay 54 = .ok (.ireturn, 1) := by decide +kernel
theorem dX7_canPay_55 : decode cX7_canPay 55 = .ok (.aload_n 0, 1) := by decide +kernel
theorem dX7_canPay_56 : decode cX7_canPay 56 = .ok (.iload_n 1, 1) := by decide +kernel
theorem dX7_canPay_57 : decode cX7_canPay 57 = .ok (.iload 5, 2) := by decide +kernel
theorem dX7_canPay_59 : decode cX7_canPay 59 = .ok (.invokevirtual 162, 3) := by decide +kernel
theorem dX7_canPay_62 : decode cX7_canPay 62 = .ok (.aload_n 0, 1) := by decide +kernel
theorem dX7_canPay_63 : decode cX7_canPay 63 = .ok (.iload_n 1, 1) := by decide +kernel
theorem dX7_canPay_64 : decode cX7_canPay 64 = .ok (.iload_n 2, 1) := by decide +kernel
theorem dX7_canPay_65 : decode cX7_canPay 65 = .ok (.iload_n 3, 1) := by decide +kernel
theorem dX7_canPay_66 : decode cX7_canPay 66 = .ok (.invokevirtual 268, 3) := by decide +kernel
theorem dX7_canPay_69 : decode cX7_canPay 69 = .ok (.if_icmp .lt 7, 3) := by decide +kernel
theorem dX7_canPay_72 : decode cX7_canPay 72 = .ok (.iconst 1, 1) := by decide +kernel
theorem dX7_canPay_73 : decode cX7_canPay 73 = .ok (.goto 4, 3) := by decide +kernel
theorem dX7_canPay_76 : decode cX7_canPay 76 = .ok (.iconst 0, 1) := by decide +kernel
theorem dX7_canPay_77 : decode cX7_canPay 77 = .ok (.ireturn, 1) := by decide +kernel
theorem dX7_startAhead_0 : decode cX7_startAhead 0 = .ok (.aload_n 0, 1) := by decide +kernel
theorem dX7_startAhead_1 : decode cX7_startAhead 1 = .ok (.getfield 47, 3) := by decide +kernel
theorem dX7_startAhead_4 : decode cX7_startAhead 4 = .ok (.getfield 166, 3) := by decide +kernel
theorem dX7_startAhead_7 : decode cX7_startAhead 7 = .ok (.iload_n 1, 1) := by decide +kernel
theorem dX7_startAhead_8 : decode cX7_startAhead 8 = .ok (.iload_n 2, 1) := by decide +kernel
theorem dX7_startAhead_9 : decode cX7_startAhead 9 = .ok (.invokestatic 169, 3) := by decide +kernel
theorem dX7_startAhead_12 : decode cX7_startAhead 12 = .ok (.aload_n 0, 1) := by decide +kernel
theorem dX7_startAhead_13 : decode cX7_startAhead 13 = .ok (.getfield 34, 3) := by decide +kernel
theorem dX7_startAhead_16 : decode cX7_startAhead 16 = .ok (.iconst 0, 1) := by decide +kernel
theorem dX7_startAhead_17 : decode cX7_startAhead 17 = .ok (.iconst 5, 1) := by decide +kernel
theorem dX7_startAhead_18 : decode cX7_startAhead 18 = .ok (.invokestatic 345, 3) := by decide +kernel
theorem dX7_startAhead_21 : decode cX7_startAhead 21 = .ok (.return_, 1) := by decide +kernel
theorem dX7_stepAhead_0 : decode cX7_stepAhead 0 = .ok (.aload_n 0, 1) := by decide +kernel
theorem dX7_stepAhead_1 : decode cX7_stepAhead 1 = .ok (.getfield 34, 3) := by decide +kernel
theorem dX7_stepAhead_4 : decode cX7_stepAhead 4 = .ok (.iconst 0, 1) := by decide +kernel
theorem dX7_stepAhead_5 : decode cX7_stepAhead 5 = .ok (.aload_n 0, 1) := by decide +kernel
theorem dX7_stepAhead_6 : decode cX7_stepAhead 6 = .ok (.getfield 40, 3) := by decide +kernel
theorem dX7_stepAhead_9 : decode cX7_stepAhead 9 = .ok (.getfield 129, 3) := by decide +kernel
theorem dX7_stepAhead_12 : decode cX7_stepAhead 12 = .ok (.iload_n 2, 1) := by decide +kernel
theorem dX7_stepAhead_13 : decode cX7_stepAhead 13 = .ok (.iaload, 1) := by decide +kernel
theorem dX7_stepAhead_14 : decode cX7_stepAhead 14 = .ok (.invokestatic 326, 3) := by decide +kernel
theorem dX7_stepAhead_17 : decode cX7_stepAhead 17 = .ok (.istore_n 3, 1) := by decide +kernel
theorem dX7_stepAhead_18 : decode cX7_stepAhead 18 = .ok (.aload_n 0, 1) := by decide +kernel
theorem dX7_stepAhead_19 : decode cX7_stepAhead 19 = .ok (.getfield 34, 3) := by decide +kernel
theorem dX7_stepAhead_22 : decode cX7_stepAhead 22 = .ok (.aload_n 0, 1) := by decide +kernel
theorem dX7_stepAhead_23 : decode cX7_stepAhead 23 = .ok (.getfield 40, 3) := by decide +kernel
theorem dX7_stepAhead_26 : decode cX7_stepAhead 26 = .ok (.getfield 126, 3) := by decide +kernel
theorem dX7_stepAhead_29 : decode cX7_stepAhead 29 = .ok (.iload_n 2, 1) := by decide +kernel
theorem dX7_stepAhead_30 : decode cX7_stepAhead 30 = .ok (.iaload, 1) := by decide +kernel
theorem dX7_stepAhead_31 : decode cX7_stepAhead 31 = .ok (.dup2, 1) := by decide +kernel
theorem dX7_stepAhead_32 : decode cX7_stepAhead 32 = .ok (.iaload, 1) := by decide +kernel
theorem dX7_stepAhead_33 : decode cX7_stepAhead 33 = .ok (.aload_n 0, 1) := by decide +kernel
theorem dX7_stepAhead_34 : decode cX7_stepAhead 34 = .ok (.iload_n 1, 1) := by decide +kernel
theorem dX7_stepAhead_35 : decode cX7_stepAhead 35 = .ok (.iload_n 2, 1) := by decide +kernel
theorem dX7_stepAhead_36 : decode cX7_stepAhead 36 = .ok (.invokevirtual 329, 3) := by decide +kernel
theorem dX7_stepAhead_39 : decode cX7_stepAhead 39 = .ok (.iadd, 1) := by decide +kernel
theorem dX7_stepAhead_40 : decode cX7_stepAhead 40 = .ok (.iastore, 1) := by decide +kernel
theorem dX7_stepAhead_41 : decode cX7_stepAhead 41 = .ok (.iload_n 3, 1) := by decide +kernel
theorem dX7_stepAhead_42 : decode cX7_stepAhead 42 = .ok (.ireturn, 1) := by decide +kernel
theorem dJ9_abs_0f7a4_0 : decode cJ9_abs_0f7a4 0 = .ok (.iload_n 0, 1) := by decide +kernel
theorem dJ9_abs_0f7a4_1 : decode cJ9_abs_0f7a4 1 = .ok (.ifCond .ge 8, 3) := by decide +kernel
theorem dJ9_abs_0f7a4_4 : decode cJ9_abs_0f7a4 4 = .ok (.iload_n 0, 1) := by decide +kernel
theorem dJ9_abs_0f7a4_5 : decode cJ9_abs_0f7a4 5 = .ok (.ineg, 1) := by decide +kernel
theorem dJ9_abs_0f7a4_6 : decode cJ9_abs_0f7a4 6 = .ok (.goto 4, 3) := by decide +kernel
theorem dJ9_abs_0f7a4_9 : decode cJ9_abs_0f7a4 9 = .ok (.iload_n 0, 1) := by decide +kernel
theorem dJ9_abs_0f7a4_10 : decode cJ9_abs_0f7a4 10 = .ok (.ireturn, 1) := by decide +kernel
theorem dJ9_max_7cf53_0 : decode cJ9_max_7cf53 0 = .ok (.iload_n 0, 1) := by decide +kernel
theorem dJ9_max_7cf53_1 : decode cJ9_max_7cf53 1 = .ok (.iload_n 1, 1) := by decide +kernel
theorem dJ9_max_7cf53_2 : decode cJ9_max_7cf53 2 = .ok (.if_icmp .lt 7, 3) := by decide +kernel
theorem dJ9_max_7cf53_5 : decode cJ9_max_7cf53 5 = .ok (.iload_n 0, 1) := by decide +kernel
theorem dJ9_max_7cf53_6 : decode cJ9_max_7cf53 6 = .ok (.goto 4, 3) := by decide +kernel
theorem dJ9_max_7cf53_9 : decode cJ9_max_7cf53 9 = .ok (.iload_n 1, 1) := by decide +kernel
theorem dJ9_max_7cf53_10 : decode cJ9_max_7cf53 10 = .ok (.ireturn, 1) := by decide +kernel
theorem dJ9_min_7cf53_0 : decode cJ9_min_7cf53 0 = .ok (.iload_n 0, 1) := by decide +kernel
theorem dJ9_min_7cf53_1 : decode cJ9_min_7cf53 1 = .ok (.iload_n 1, 1) := by decide +kernel
theorem dJ9_min_7cf53_2 : decode cJ9_min_7cf53 2 = .ok (.if_icmp .gt 7, 3) := by decide +kernel
theorem dJ9_min_7cf53_5 : decode cJ9_min_7cf53 5 = .ok (.iload_n 0, 1) := by decide +kernel
theorem dJ9_min_7cf53_6 : decode cJ9_min_7cf53 6 = .ok (.goto 4, 3) := by decide +kernel
theorem dJ9_min_7cf53_9 : decode cJ9_min_7cf53 9 = .ok (.iload_n 1, 1) := by decide +kernel
theorem dJ9_min_7cf53_10 : decode cJ9_min_7cf53 10 = .ok (.ireturn, 1) := by decide +kernel
theorem dJ0_length_8abf5_0 : decode cJ0_length_8abf5 0 = .ok (.aload_n 0, 1) := by decide +kernel
theorem dJ0_length_8abf5_1 : decode cJ0_length_8abf5 1 = .ok (.getfield 9, 3) := by decide +kernel
theorem dJ0_length_8abf5_4 : decode cJ0_length_8abf5 4 = .ok (.arraylength, 1) := by decide +kernel
theorem dJ0_length_8abf5_5 : decode cJ0_length_8abf5 5 = .ok (.aload_n 0, 1) := by decide +kernel
theorem dJ0_length_8abf5_6 : decode cJ0_length_8abf5 6 = .ok (.invokevirtual 335, 3) := by decide +kernel
theorem dJ0_length_8abf5_9 : decode cJ0_length_8abf5 9 = .ok (.ishr, 1) := by decide +kernel
theorem dJ0_length_8abf5_10 : decode cJ0_length_8abf5 10 = .ok (.ireturn, 1) := by decide +kernel
theorem dJ0_charAt_5068e_0 : decode cJ0_charAt_5068e 0 = .ok (.aload_n 0, 1) := by decide +kernel
theorem dJ0_charAt_5068e_1 : decode cJ0_charAt_5068e 1 = .ok (.invokevirtual 492, 3) := by decide +kernel
theorem dJ0_charAt_5068e_4 : decode cJ0_charAt_5068e 4 = .ok (.ifCond .eq 12, 3) := by decide +kernel
theorem dJ0_charAt_5068e_7 : decode cJ0_charAt_5068e 7 = .ok (.aload_n 0, 1) := by decide +kernel
theorem dJ0_charAt_5068e_8 : decode cJ0_charAt_5068e 8 = .ok (.getfield 9, 3) := by decide +kernel
theorem dJ0_charAt_5068e_11 : decode cJ0_charAt_5068e 11 = .ok (.iload_n 1, 1) := by decide +kernel
theorem dJ0_charAt_5068e_12 : decode cJ0_charAt_5068e 12 = .ok (.invokestatic 495, 3) := by decide +kernel
theorem dJ0_charAt_5068e_15 : decode cJ0_charAt_5068e 15 = .ok (.ireturn, 1) := by decide +kernel
theorem dJ0_charAt_5068e_16 : decode cJ0_charAt_5068e 16 = .ok (.aload_n 0, 1) := by decide +kernel
theorem dJ0_charAt_5068e_17 : decode cJ0_charAt_5068e 17 = .ok (.getfield 9, 3) := by decide +kernel
theorem dJ0_charAt_5068e_20 : decode cJ0_charAt_5068e 20 = .ok (.iload_n 1, 1) := by decide +kernel
theorem dJ0_charAt_5068e_21 : decode cJ0_charAt_5068e 21 = .ok (.invokestatic 498, 3) := by decide +kernel
theorem dJ0_charAt_5068e_24 : decode cJ0_charAt_5068e 24 = .ok (.ireturn, 1) := by decide +kernel
theorem dJ0_coder_7d493_0 : decode cJ0_coder_7d493 0 = .ok (.getstatic 38, 3) := by decide +kernel
theorem dJ0_coder_7d493_3 : decode cJ0_coder_7d493 3 = .ok (.ifCond .eq 10, 3) := by decide +kernel
theorem dJ0_coder_7d493_6 : decode cJ0_coder_7d493 6 = .ok (.aload_n 0, 1) := by decide +kernel
theorem dJ0_coder_7d493_7 : decode cJ0_coder_7d493 7 = .ok (.getfield 15, 3) := by decide +kernel
theorem dJ0_coder_7d493_10 : decode cJ0_coder_7d493 10 = .ok (.goto 4, 3) := by decide +kernel
theorem dJ0_coder_7d493_13 : decode cJ0_coder_7d493 13 = .ok (.iconst 1, 1) := by decide +kernel
theorem dJ0_coder_7d493_14 : decode cJ0_coder_7d493 14 = .ok (.ireturn, 1) := by decide +kernel
theorem dJ0_isLatin1_aae02_0 : decode cJ0_isLatin1_aae02 0 = .ok (.getstatic 38, 3) := by decide +kernel
theorem dJ0_isLatin1_aae02_3 : decode cJ0_isLatin1_aae02 3 = .ok (.ifCond .eq 14, 3) := by decide +kernel
theorem dJ0_isLatin1_aae02_6 : decode cJ0_isLatin1_aae02 6 = .ok (.aload_n 0, 1) := by decide +kernel
theorem dJ0_isLatin1_aae02_7 : decode cJ0_isLatin1_aae02 7 = .ok (.getfield 15, 3) := by decide +kernel
theorem dJ0_isLatin1_aae02_10 : decode cJ0_isLatin1_aae02 10 = .ok (.ifCond .ne 7, 3) := by decide +kernel
theorem dJ0_isLatin1_aae02_13 : decode cJ0_isLatin1_aae02 13 = .ok (.iconst 1, 1) := by decide +kernel
theorem dJ0_isLatin1_aae02_14 : decode cJ0_isLatin1_aae02 14 = .ok (.goto 4, 3) := by decide +kernel
theorem dJ0_isLatin1_aae02_17 : decode cJ0_isLatin1_aae02 17 = .ok (.iconst 0, 1) := by decide +kernel
theorem dJ0_isLatin1_aae02_18 : decode cJ0_isLatin1_aae02 18 = .ok (.ireturn, 1) := by decide +kernel
theorem dJ0_checkIndex_df160_0 : decode cJ0_checkIndex_df160 0 = .ok (.iload_n 0, 1) := by decide +kernel
theorem dJ0_checkIndex_df160_1 : decode cJ0_checkIndex_df160 1 = .ok (.iload_n 1, 1) := by decide +kernel
theorem dJ0_checkIndex_df160_2 : decode cJ0_checkIndex_df160 2 = .ok (.getstatic 1053, 3) := by decide +kernel
theorem dJ0_checkIndex_df160_5 : decode cJ0_checkIndex_df160 5 = .ok (.invokestatic 1059, 3) := by decide +kernel
theorem dJ0_checkIndex_df160_8 : decode cJ0_checkIndex_df160 8 = .ok (.pop, 1) := by decide +kernel
theorem dJ0_checkIndex_df160_9 : decode cJ0_checkIndex_df160 9 = .ok (.return_, 1) := by decide +kernel
theorem dJ1_charAt_3b067_0 : decode cJ1_charAt_3b067 0 = .ok (.iload_n 1, 1) := by decide +kernel
theorem dJ1_charAt_3b067_1 : decode cJ1_charAt_3b067 1 = .ok (.aload_n 0, 1) := by decide +kernel
theorem dJ1_charAt_3b067_2 : decode cJ1_charAt_3b067 2 = .ok (.arraylength, 1) := by decide +kernel
theorem dJ1_charAt_3b067_3 : decode cJ1_charAt_3b067 3 = .ok (.invokestatic 9, 3) := by decide +kernel
theorem dJ1_charAt_3b067_6 : decode cJ1_charAt_3b067 6 = .ok (.aload_n 0, 1) := by decide +kernel
theorem dJ1_charAt_3b067_7 : decode cJ1_charAt_3b067 7 = .ok (.iload_n 1, 1) := by decide +kernel
theorem dJ1_charAt_3b067_8 : decode cJ1_charAt_3b067 8 = .ok (.baload, 1) := by decide +kernel
theorem dJ1_charAt_3b067_9 : decode cJ1_charAt_3b067 9 = .ok (.sipush 255, 3) := by decide +kernel
theorem dJ1_charAt_3b067_12 : decode cJ1_charAt_3b067 12 = .ok (.iand, 1) := by decide +kernel
theorem dJ1_charAt_3b067_13 : decode cJ1_charAt_3b067 13 = .ok (.i2c, 1) := by decide +kernel
theorem dJ1_charAt_3b067_14 : decode cJ1_charAt_3b067 14 = .ok (.ireturn, 1) := by decide +kernel
theorem dJ2_getChar_3b067_0 : decode cJ2_getChar_3b067 0 = .ok (.getstatic 44, 3) := by decide +kernel
theorem dJ2_getChar_3b067_3 : decode cJ2_getChar_3b067 3 = .ok (.ifCond .ne 25, 3) := by decide +kernel
theorem dJ2_getChar_3b067_6 : decode cJ2_getChar_3b067 6 = .ok (.iload_n 1, 1) := by decide +kernel
theorem dJ2_getChar_3b067_7 : decode cJ2_getChar_3b067 7 = .ok (.ifCond .lt 11, 3) := by decide +kernel
theorem dJ2_getChar_3b067_10 : decode cJ2_getChar_3b067 10 = .ok (.iload_n 1, 1) := by decide +kernel
theorem dJ2_getChar_3b067_11 : decode cJ2_getChar_3b067 11 = .ok (.aload_n 0, 1) := by decide +kernel
theorem dJ2_getChar_3b067_12 : decode cJ2_getChar_3b067 12 = .ok (.invokestatic 48, 3) := by decide +kernel
theorem dJ2_getChar_3b067_15 : decode cJ2_getChar_3b067 15 = .ok (.if_icmp .lt 13, 3) := by decide +kernel
theorem dJ2_getChar_3b067_18 : decode cJ2_getChar_3b067 18 = .ok (.new 52, 3) := by decide +kernel
theorem dJ2_getChar_3b067_21 : decode cJ2_getChar_3b067 21 = .ok (.dup, 1) := by decide +kernel
theorem dJ2_getChar_3b067_22 : decode cJ2_getChar_3b067 22 = .ok (.ldc 54, 2) := by decide +kernel
theorem dJ2_getChar_3b067_24 : decode cJ2_getChar_3b067 24 = .ok (.invokespecial 56, 3) := by decide +kernel
theorem dJ2_getChar_3b067_27 : decode cJ2_getChar_3b067 27 = .ok (.athrow, 1) := by decide +kernel
theorem dJ2_getChar_3b067_28 : decode cJ2_getChar_3b067 28 = .ok (.iload_n 1, 1) := by decide +kernel
theorem dJ2_getChar_3b067_29 : decode cJ2_getChar_3b067 29 = .ok (.iconst 1, 1) := by decide +kernel
theorem dJ2_getChar_3b067_30 : decode cJ2_getChar_3b067 30 = .ok (.ishl, 1) := by decide +kernel
theorem dJ2_getChar_3b067_31 : decode cJ2_getChar_3b067 31 = .ok (.istore_n 1, 1) := by decide +kernel
theorem dJ2_getChar_3b067_32 : decode cJ2_getChar_3b067 32 = .ok (.aload_n 0, 1) := by decide +kernel
theorem dJ2_getChar_3b067_33 : decode cJ2_getChar_3b067 33 = .ok (.iload_n 1, 1) := by decide +kernel
theorem dJ2_getChar_3b067_34 : decode cJ2_getChar_3b067 34 = .ok (.iinc 1 1, 3) := by decide +kernel
theorem dJ2_getChar_3b067_37 : decode cJ2_getChar_3b067 37 = .ok (.baload, 1) := by decide +kernel
theorem dJ2_getChar_3b067_38 : decode cJ2_getChar_3b067 38 = .ok (.sipush 255, 3) := by decide +kernel
theorem dJ2_getChar_3b067_41 : decode cJ2_getChar_3b067 41 = .ok (.iand, 1) := by decide +kernel
theorem dJ2_getChar_3b067_42 : decode cJ2_getChar_3b067 42 = .ok (.getstatic 59, 3) := by decide +kernel
theorem dJ2_getChar_3b067_45 : decode cJ2_getChar_3b067 45 = .ok (.ishl, 1) := by decide +kernel
theorem dJ2_getChar_3b067_46 : decode cJ2_getChar_3b067 46 = .ok (.aload_n 0, 1) := by decide +kernel
theorem dJ2_getChar_3b067_47 : decode cJ2_getChar_3b067 47 = .ok (.iload_n 1, 1) := by decide +kernel
theorem dJ2_getChar_3b067_48 : decode cJ2_getChar_3b067 48 = .ok (.baload, 1) := by decide +kernel
theorem dJ2_getChar_3b067_49 : decode cJ2_getChar_3b067 49 = .ok (.sipush 255, 3) := by decide +kernel
theorem dJ2_getChar_3b067_52 : decode cJ2_getChar_3b067 52 = .ok (.iand, 1) := by decide +kernel
theorem dJ2_getChar_3b067_53 : decode cJ2_getChar_3b067 53 = .ok (.getstatic 63, 3) := by decide +kernel
theorem dJ2_getChar_3b067_56 : decode cJ2_getChar_3b067 56 = .ok (.ishl, 1) := by decide +kernel
theorem dJ2_getChar_3b067_57 : decode cJ2_getChar_3b067 57 = .ok (.ior, 1) := by decide +kernel
theorem dJ2_getChar_3b067_58 : decode cJ2_getChar_3b067 58 = .ok (.i2c, 1) := by decide +kernel
theorem dJ2_getChar_3b067_59 : decode cJ2_getChar_3b067 59 = .ok (.ireturn, 1) := by decide +kernel
theorem dJ2_length_9d52b_0 : decode cJ2_length_9d52b 0 = .ok (.aload_n 0, 1) := by decide +kernel
theorem dJ2_length_9d52b_1 : decode cJ2_length_9d52b 1 = .ok (.arraylength, 1) := by decide +kernel
theorem dJ2_length_9d52b_2 : decode cJ2_length_9d52b 2 = .ok (.iconst 1, 1) := by decide +kernel
theorem dJ2_length_9d52b_3 : decode cJ2_length_9d52b 3 = .ok (.ishr, 1) := by decide +kernel
theorem dJ2_length_9d52b_4 : decode cJ2_length_9d52b 4 = .ok (.ireturn, 1) := by decide +kernel
theorem dJ2_charAt_3b067_0 : decode cJ2_charAt_3b067 0 = .ok (.iload_n 1, 1) := by decide +kernel
theorem dJ2_charAt_3b067_1 : decode cJ2_charAt_3b067 1 = .ok (.aload_n 0, 1) := by decide +kernel
theorem dJ2_charAt_3b067_2 : decode cJ2_charAt_3b067 2 = .ok (.invokestatic 67, 3) := by decide +kernel
theorem dJ2_charAt_3b067_5 : decode cJ2_charAt_3b067 5 = .ok (.aload_n 0, 1) := by decide +kernel
theorem dJ2_charAt_3b067_6 : decode cJ2_charAt_3b067 6 = .ok (.iload_n 1, 1) := by decide +kernel
theorem dJ2_charAt_3b067_7 : decode cJ2_charAt_3b067 7 = .ok (.invokestatic 71, 3) := by decide +kernel
theorem dJ2_charAt_3b067_10 : decode cJ2_charAt_3b067 10 = .ok (.ireturn, 1) := by decide +kernel
theorem dJ2_checkIndex_2214a_0 : decode cJ2_checkIndex_2214a 0 = .ok (.iload_n 0, 1) := by decide +kernel
theorem dJ2_checkIndex_2214a_1 : decode cJ2_checkIndex_2214a 1 = .ok (.aload_n 1, 1) := by decide +kernel
theorem dJ2_checkIndex_2214a_2 : decode cJ2_checkIndex_2214a 2 = .ok (.invokestatic 48, 3) := by decide +kernel
theorem dJ2_checkIndex_2214a_5 : decode cJ2_checkIndex_2214a 5 = .ok (.invokestatic 414, 3) := by decide +kernel
theorem dJ2_checkIndex_2214a_8 : decode cJ2_checkIndex_2214a 8 = .ok (.return_, 1) := by decide +kernel
theorem dJ7_fill_53178_0 : decode cJ7_fill_53178 0 = .ok (.iconst 0, 1) := by decide +kernel
theorem dJ7_fill_53178_1 : decode cJ7_fill_53178 1 = .ok (.istore_n 2, 1) := by decide +kernel
theorem dJ7_fill_53178_2 : decode cJ7_fill_53178 2 = .ok (.aload_n 0, 1) := by decide +kernel
theorem dJ7_fill_53178_3 : decode cJ7_fill_53178 3 = .ok (.arraylength, 1) := by decide +kernel
theorem dJ7_fill_53178_4 : decode cJ7_fill_53178 4 = .ok (.istore_n 3, 1) := by decide +kernel
theorem dJ7_fill_53178_5 : decode cJ7_fill_53178 5 = .ok (.iload_n 2, 1) := by decide +kernel
theorem dJ7_fill_53178_6 : decode cJ7_fill_53178 6 = .ok (.iload_n 3, 1) := by decide +kernel
theorem dJ7_fill_53178_7 : decode cJ7_fill_53178 7 = .ok (.if_icmp .ge 13, 3) := by decide +kernel
theorem dJ7_fill_53178_10 : decode cJ7_fill_53178 10 = .ok (.aload_n 0, 1) := by decide +kernel
theorem dJ7_fill_53178_11 : decode cJ7_fill_53178 11 = .ok (.iload_n 2, 1) := by decide +kernel
theorem dJ7_fill_53178_12 : decode cJ7_fill_53178 12 = .ok (.iload_n 1, 1) := by decide +kernel
theorem dJ7_fill_53178_13 : decode cJ7_fill_53178 13 = .ok (.iastore, 1) := by decide +kernel
theorem dJ7_fill_53178_14 : decode cJ7_fill_53178 14 = .ok (.iinc 2 1, 3) := by decide +kernel
theorem dJ7_fill_53178_17 : decode cJ7_fill_53178 17 = .ok (.goto (-12), 3) := by decide +kernel
theorem dJ7_fill_53178_20 : decode cJ7_fill_53178 20 = .ok (.return_, 1) := by decide +kernel
theorem dJ3_checkIndex_8e157_0 : decode cJ3_checkIndex_8e157 0 = .ok (.iload_n 0, 1) := by decide +kernel
theorem dJ3_checkIndex_8e157_1 : decode cJ3_checkIndex_8e157 1 = .ok (.ifCond .lt 8, 3) := by decide +kernel
theorem dJ3_checkIndex_8e157_4 : decode cJ3_checkIndex_8e157 4 = .ok (.iload_n 0, 1) := by decide +kernel
theorem dJ3_checkIndex_8e157_5 : decode cJ3_checkIndex_8e157 5 = .ok (.iload_n 1, 1) := by decide +kernel
theorem dJ3_checkIndex_8e157_6 : decode cJ3_checkIndex_8e157 6 = .ok (.if_icmp .lt 10, 3) := by decide +kernel
theorem dJ3_checkIndex_8e157_9 : decode cJ3_checkIndex_8e157 9 = .ok (.aload_n 2, 1) := by decide +kernel
theorem dJ3_checkIndex_8e157_10 : decode cJ3_checkIndex_8e157 10 = .ok (.iload_n 0, 1) := by decide +kernel
theorem dJ3_checkIndex_8e157_11 : decode cJ3_checkIndex_8e157 11 = .ok (.iload_n 1, 1) := by decide +kernel
theorem dJ3_checkIndex_8e157_12 : decode cJ3_checkIndex_8e157 12 = .ok (.invokestatic 95, 3) := by decide +kernel
theorem dJ3_checkIndex_8e157_15 : decode cJ3_checkIndex_8e157 15 = .ok (.athrow, 1) := by decide +kernel
theorem dJ3_checkIndex_8e157_16 : decode cJ3_checkIndex_8e157 16 = .ok (.iload_n 0, 1) := by decide +kernel
theorem dJ3_checkIndex_8e157_17 : decode cJ3_checkIndex_8e157 17 = .ok (.ireturn, 1) := by decide +kernel
