theorem dL_groupProperty_0 : decode cL_groupProperty 0 = .ok (.aload_n 3, 1) := by decide +kernel
theorem dL_groupProperty_1 : decode cL_groupProperty 1 = .ok (.iconst 0, 1) := by decide +kernel
theorem dL_groupProperty_2 : decode cL_groupProperty 2 = .ok (.aload_n 0, 1) := by decide +kernel
theorem dL_groupProperty_3 : decode cL_groupProperty 3 = .ok (.iload_n 1, 1) := by decide +kernel
theorem dL_groupProperty_4 : decode cL_groupProperty 4 = .ok (.iload_n 2, 1) := by decide +kernel
theorem dL_groupProperty_5 : decode cL_groupProperty 5 = .ok (.invokevirtual 7, 3) := by decide +kernel
theorem dL_groupProperty_8 : decode cL_groupProperty 8 = .ok (.i2l, 1) := by decide +kernel
theorem dL_groupProperty_9 : decode cL_groupProperty 9 = .ok (.lastore, 1) := by decide +kernel
theorem dL_groupProperty_10 : decode cL_groupProperty 10 = .ok (.goto 7, 3) := by decide +kernel
theorem dL_groupProperty_13 : decode cL_groupProperty 13 = .ok (.astore 4, 2) := by decide +kernel
theorem dL_groupProperty_15 : decode cL_groupProperty 15 = .ok (.iconst 1, 1) := by decide +kernel
theorem dL_groupProperty_16 : decode cL_groupProperty 16 = .ok (.ireturn, 1) := by decide +kernel
theorem dL_groupProperty_17 : decode cL_groupProperty 17 = .ok (.iconst 0, 1) := by decide +kernel
theorem dL_groupProperty_18 : decode cL_groupProperty 18 = .ok (.ireturn, 1) := by decide +kernel
theorem dL_goodProperty_0 : decode cL_goodProperty 0 = .ok (.aload_n 3, 1) := by decide +kernel
theorem dL_goodProperty_1 : decode cL_goodProperty 1 = .ok (.iconst 0, 1) := by decide +kernel
theorem dL_goodProperty_2 : decode cL_goodProperty 2 = .ok (.aload_n 0, 1) := by decide +kernel
theorem dL_goodProperty_3 : decode cL_goodProperty 3 = .ok (.iload_n 1, 1) := by decide +kernel
theorem dL_goodProperty_4 : decode cL_goodProperty 4 = .ok (.iload_n 2, 1) := by decide +kernel
theorem dL_goodProperty_5 : decode cL_goodProperty 5 = .ok (.invokevirtual 15, 3) := by decide +kernel
theorem dL_goodProperty_8 : decode cL_goodProperty 8 = .ok (.i2l, 1) := by decide +kernel
theorem dL_goodProperty_9 : decode cL_goodProperty 9 = .ok (.lastore, 1) := by decide +kernel
theorem dL_goodProperty_10 : decode cL_goodProperty 10 = .ok (.goto 7, 3) := by decide +kernel
theorem dL_goodProperty_13 : decode cL_goodProperty 13 = .ok (.astore 4, 2) := by decide +kernel
theorem dL_goodProperty_15 : decode cL_goodProperty 15 = .ok (.iconst 1, 1) := by decide +kernel
theorem dL_goodProperty_16 : decode cL_goodProperty 16 = .ok (.ireturn, 1) := by decide +kernel
theorem dL_goodProperty_17 : decode cL_goodProperty 17 = .ok (.iconst 0, 1) := by decide +kernel
theorem dL_goodProperty_18 : decode cL_goodProperty 18 = .ok (.ireturn, 1) := by decide +kernel
theorem dL_sizeOf_0 : decode cL_sizeOf 0 = .ok (.aload_n 2, 1) := by decide +kernel
theorem dL_sizeOf_1 : decode cL_sizeOf 1 = .ok (.iconst 0, 1) := by decide +kernel
theorem dL_sizeOf_2 : decode cL_sizeOf 2 = .ok (.aload_n 0, 1) := by decide +kernel
theorem dL_sizeOf_3 : decode cL_sizeOf 3 = .ok (.iload_n 1, 1) := by decide +kernel
theorem dL_sizeOf_4 : decode cL_sizeOf 4 = .ok (.invokevirtual 18, 3) := by decide +kernel
theorem dL_sizeOf_7 : decode cL_sizeOf 7 = .ok (.i2l, 1) := by decide +kernel
theorem dL_sizeOf_8 : decode cL_sizeOf 8 = .ok (.lastore, 1) := by decide +kernel
theorem dL_sizeOf_9 : decode cL_sizeOf 9 = .ok (.goto 6, 3) := by decide +kernel
theorem dL_sizeOf_12 : decode cL_sizeOf 12 = .ok (.astore_n 3, 1) := by decide +kernel
theorem dL_sizeOf_13 : decode cL_sizeOf 13 = .ok (.iconst 1, 1) := by decide +kernel
theorem dL_sizeOf_14 : decode cL_sizeOf 14 = .ok (.ireturn, 1) := by decide +kernel
theorem dL_sizeOf_15 : decode cL_sizeOf 15 = .ok (.iconst 0, 1) := by decide +kernel
theorem dL_sizeOf_16 : decode cL_sizeOf 16 = .ok (.ireturn, 1) := by decide +kernel
theorem dL_coupons_0 : decode cL_coupons 0 = .ok (.aload_n 3, 1) := by decide +kernel
theorem dL_coupons_1 : decode cL_coupons 1 = .ok (.iconst 0, 1) := by decide +kernel
theorem dL_coupons_2 : decode cL_coupons 2 = .ok (.aload_n 0, 1) := by decide +kernel
theorem dL_coupons_3 : decode cL_coupons 3 = .ok (.iload_n 1, 1) := by decide +kernel
theorem dL_coupons_4 : decode cL_coupons 4 = .ok (.iload_n 2, 1) := by decide +kernel
theorem dL_coupons_5 : decode cL_coupons 5 = .ok (.invokevirtual 22, 3) := by decide +kernel
theorem dL_coupons_8 : decode cL_coupons 8 = .ok (.i2l, 1) := by decide +kernel
theorem dL_coupons_9 : decode cL_coupons 9 = .ok (.lastore, 1) := by decide +kernel
theorem dL_coupons_10 : decode cL_coupons 10 = .ok (.goto 7, 3) := by decide +kernel
theorem dL_coupons_13 : decode cL_coupons 13 = .ok (.astore 4, 2) := by decide +kernel
theorem dL_coupons_15 : decode cL_coupons 15 = .ok (.iconst 1, 1) := by decide +kernel
theorem dL_coupons_16 : decode cL_coupons 16 = .ok (.ireturn, 1) := by decide +kernel
theorem dL_coupons_17 : decode cL_coupons 17 = .ok (.iconst 0, 1) := by decide +kernel
theorem dL_coupons_18 : decode cL_coupons 18 = .ok (.ireturn, 1) := by decide +kernel
theorem dL_couponsWith_0 : decode cL_couponsWith 0 = .ok (.aload 4, 2) := by decide +kernel
theorem dL_couponsWith_2 : decode cL_couponsWith 2 = .ok (.iconst 0, 1) := by decide +kernel
theorem dL_couponsWith_3 : decode cL_couponsWith 3 = .ok (.aload_n 0, 1) := by decide +kernel
theorem dL_couponsWith_4 : decode cL_couponsWith 4 = .ok (.iload_n 1, 1) := by decide +kernel
theorem dL_couponsWith_5 : decode cL_couponsWith 5 = .ok (.iload_n 2, 1) := by decide +kernel
theorem dL_couponsWith_6 : decode cL_couponsWith 6 = .ok (.iload_n 3, 1) := by decide +kernel
theorem dL_couponsWith_7 : decode cL_couponsWith 7 = .ok (.invokevirtual 25, 3) := by decide +kernel
theorem dL_couponsWith_10 : decode cL_couponsWith 10 = .ok (.i2l, 1) := by decide +kernel
theorem dL_couponsWith_11 : decode cL_couponsWith 11 = .ok (.lastore, 1) := by decide +kernel
theorem dL_couponsWith_12 : decode cL_couponsWith 12 = .ok (.goto 7, 3) := by decide +kernel
theorem dL_couponsWith_15 : decode cL_couponsWith 15 = .ok (.astore 5, 2) := by decide +kernel
theorem dL_couponsWith_17 : decode cL_couponsWith 17 = .ok (.iconst 1, 1) := by decide +kernel
theorem dL_couponsWith_18 : decode cL_couponsWith 18 = .ok (.ireturn, 1) := by decide +kernel
theorem dL_couponsWith_19 : decode cL_couponsWith 19 = .ok (.iconst 0, 1) := by decide +kernel
theorem dL_couponsWith_20 : decode cL_couponsWith 20 = .ok (.ireturn, 1) := by decide +kernel
theorem dL_lapsing_0 : decode cL_lapsing 0 = .ok (.aload_n 3, 1) := by decide +kernel
theorem dL_lapsing_1 : decode cL_lapsing 1 = .ok (.iconst 0, 1) := by decide +kernel
theorem dL_lapsing_2 : decode cL_lapsing 2 = .ok (.aload_n 0, 1) := by decide +kernel
theorem dL_lapsing_3 : decode cL_lapsing 3 = .ok (.iload_n 1, 1) := by decide +kernel
theorem dL_lapsing_4 : decode cL_lapsing 4 = .ok (.iload_n 2, 1) := by decide +kernel
theorem dL_lapsing_5 : decode cL_lapsing 5 = .ok (.invokevirtual 29, 3) := by decide +kernel
theorem dL_lapsing_8 : decode cL_lapsing 8 = .ok (.i2l, 1) := by decide +kernel
theorem dL_lapsing_9 : decode cL_lapsing 9 = .ok (.lastore, 1) := by decide +kernel
theorem dL_lapsing_10 : decode cL_lapsing 10 = .ok (.goto 7, 3) := by decide +kernel
theorem dL_lapsing_13 : decode cL_lapsing 13 = .ok (.astore 4, 2) := by decide +kernel
theorem dL_lapsing_15 : decode cL_lapsing 15 = .ok (.iconst 1, 1) := by decide +kernel
theorem dL_lapsing_16 : decode cL_lapsing 16 = .ok (.ireturn, 1) := by decide +kernel
theorem dL_lapsing_17 : decode cL_lapsing 17 = .ok (.iconst 0, 1) := by decide +kernel
theorem dL_lapsing_18 : decode cL_lapsing 18 = .ok (.ireturn, 1) := by decide +kernel
theorem dL_couponsAfter_0 : decode cL_couponsAfter 0 = .ok (.aload 4, 2) := by decide +kernel
theorem dL_couponsAfter_2 : decode cL_couponsAfter 2 = .ok (.iconst 0, 1) := by decide +kernel
theorem dL_couponsAfter_3 : decode cL_couponsAfter 3 = .ok (.aload_n 0, 1) := by decide +kernel
theorem dL_couponsAfter_4 : decode cL_couponsAfter 4 = .ok (.iload_n 1, 1) := by decide +kernel
theorem dL_couponsAfter_5 : decode cL_couponsAfter 5 = .ok (.iload_n 2, 1) := by decide +kernel
theorem dL_couponsAfter_6 : decode cL_couponsAfter 6 = .ok (.iload_n 3, 1) := by decide +kernel
theorem dL_couponsAfter_7 : decode cL_couponsAfter 7 = .ok (.invokevirtual 32, 3) := by decide +kernel
theorem dL_couponsAfter_10 : decode cL_couponsAfter 10 = .ok (.i2l, 1) := by decide +kernel
theorem dL_couponsAfter_11 : decode cL_couponsAfter 11 = .ok (.lastore, 1) := by decide +kernel
theorem dL_couponsAfter_12 : decode cL_couponsAfter 12 = .ok (.goto 7, 3) := by decide +kernel
theorem dL_couponsAfter_15 : decode cL_couponsAfter 15 = .ok (.astore 5, 2) := by decide +kernel
theorem dL_couponsAfter_17 : decode cL_couponsAfter 17 = .ok (.iconst 1, 1) := by decide +kernel
theorem dL_couponsAfter_18 : decode cL_couponsAfter 18 = .ok (.ireturn, 1) := by decide +kernel
theorem dL_couponsAfter_19 : decode cL_couponsAfter 19 = .ok (.iconst 0, 1) := by decide +kernel
theorem dL_couponsAfter_20 : decode cL_couponsAfter 20 = .ok (.ireturn, 1) := by decide +kernel
theorem dL_neediest_0 : decode cL_neediest 0 = .ok (.aload_n 2, 1) := by decide +kernel
theorem dL_neediest_1 : decode cL_neediest 1 = .ok (.iconst 0, 1) := by decide +kernel
theorem dL_neediest_2 : decode cL_neediest 2 = .ok (.aload_n 0, 1) := by decide +kernel
theorem dL_neediest_3 : decode cL_neediest 3 = .ok (.iload_n 1, 1) := by decide +kernel
theorem dL_neediest_4 : decode cL_neediest 4 = .ok (.invokevirtual 35, 3) := by decide +kernel
theorem dL_neediest_7 : decode cL_neediest 7 = .ok (.i2l, 1) := by decide +kernel
theorem dL_neediest_8 : decode cL_neediest 8 = .ok (.lastore, 1) := by decide +kernel
theorem dL_neediest_9 : decode cL_neediest 9 = .ok (.goto 6, 3) := by decide +kernel
theorem dL_neediest_12 : decode cL_neediest 12 = .ok (.astore_n 3, 1) := by decide +kernel
theorem dL_neediest_13 : decode cL_neediest 13 = .ok (.iconst 1, 1) := by decide +kernel
theorem dL_neediest_14 : decode cL_neediest 14 = .ok (.ireturn, 1) := by decide +kernel
theorem dL_neediest_15 : decode cL_neediest 15 = .ok (.iconst 0, 1) := by decide +kernel
theorem dL_neediest_16 : decode cL_neediest 16 = .ok (.ireturn, 1) := by decide +kernel
theorem dL_givenBy_0 : decode cL_givenBy 0 = .ok (.aload_n 2, 1) := by decide +kernel
theorem dL_givenBy_1 : decode cL_givenBy 1 = .ok (.iconst 0, 1) := by decide +kernel
theorem dL_givenBy_2 : decode cL_givenBy 2 = .ok (.aload_n 0, 1) := by decide +kernel
theorem dL_givenBy_3 : decode cL_givenBy 3 = .ok (.iload_n 1, 1) := by decide +kernel
theorem dL_givenBy_4 : decode cL_givenBy 4 = .ok (.invokevirtual 38, 3) := by decide +kernel
theorem dL_givenBy_7 : decode cL_givenBy 7 = .ok (.i2l, 1) := by decide +kernel
theorem dL_givenBy_8 : decode cL_givenBy 8 = .ok (.lastore, 1) := by decide +kernel
theorem dL_givenBy_9 : decode cL_givenBy 9 = .ok (.goto 6, 3) := by decide +kernel
theorem dL_givenBy_12 : decode cL_givenBy 12 = .ok (.astore_n 3, 1) := by decide +kernel
theorem dL_givenBy_13 : decode cL_givenBy 13 = .ok (.iconst 1, 1) := by decide +kernel
theorem dL_givenBy_14 : decode cL_givenBy 14 = .ok (.ireturn, 1) := by decide +kernel
theorem dL_givenBy_15 : decode cL_givenBy 15 = .ok (.iconst 0, 1) := by decide +kernel
theorem dL_givenBy_16 : decode cL_givenBy 16 = .ok (.ireturn, 1) := by decide +kernel
theorem dL_takenBy_0 : decode cL_takenBy 0 = .ok (.aload_n 2, 1) := by decide +kernel
theorem dL_takenBy_1 : decode cL_takenBy 1 = .ok (.iconst 0, 1) := by decide +kernel
theorem dL_takenBy_2 : decode cL_takenBy 2 = .ok (.aload_n 0, 1) := by decide +kernel
theorem dL_takenBy_3 : decode cL_takenBy 3 = .ok (.iload_n 1, 1) := by decide +kernel
theorem dL_takenBy_4 : decode cL_takenBy 4 = .ok (.invokevirtual 41, 3) := by decide +kernel
theorem dL_takenBy_7 : decode cL_takenBy 7 = .ok (.i2l, 1) := by decide +kernel
theorem dL_takenBy_8 : decode cL_takenBy 8 = .ok (.lastore, 1) := by decide +kernel
theorem dL_takenBy_9 : decode cL_takenBy 9 = .ok (.goto 6, 3) := by decide +kernel
theorem dL_takenBy_12 : decode cL_takenBy 12 = .ok (.astore_n 3, 1) := by decide +kernel
theorem dL_takenBy_13 : decode cL_takenBy 13 = .ok (.iconst 1, 1) := by decide +kernel
theorem dL_takenBy_14 : decode cL_takenBy 14 = .ok (.ireturn, 1) := by decide +kernel
theorem dL_takenBy_15 : decode cL_takenBy 15 = .ok (.iconst 0, 1) := by decide +kernel
theorem dL_takenBy_16 : decode cL_takenBy 16 = .ok (.ireturn, 1) := by decide +kernel
theorem dL_tradeRoom_0 : decode cL_tradeRoom 0 = .ok (.aload 4, 2) := by decide +kernel
theorem dL_tradeRoom_2 : decode cL_tradeRoom 2 = .ok (.iconst 0, 1) := by decide +kernel
theorem dL_tradeRoom_3 : decode cL_tradeRoom 3 = .ok (.aload_n 0, 1) := by decide +kernel
theorem dL_tradeRoom_4 : decode cL_tradeRoom 4 = .ok (.iload_n 1, 1) := by decide +kernel
theorem dL_tradeRoom_5 : decode cL_tradeRoom 5 = .ok (.iload_n 2, 1) := by decide +kernel
theorem dL_tradeRoom_6 : decode cL_tradeRoom 6 = .ok (.iload_n 3, 1) := by decide +kernel
theorem dL_tradeRoom_7 : decode cL_tradeRoom 7 = .ok (.invokevirtual 44, 3) := by decide +kernel
theorem dL_tradeRoom_10 : decode cL_tradeRoom 10 = .ok (.i2l, 1) := by decide +kernel
theorem dL_tradeRoom_11 : decode cL_tradeRoom 11 = .ok (.lastore, 1) := by decide +kernel
theorem dL_tradeRoom_12 : decode cL_tradeRoom 12 = .ok (.goto 7, 3) := by decide +kernel
theorem dL_tradeRoom_15 : decode cL_tradeRoom 15 = .ok (.astore 5, 2) := by decide +kernel
theorem dL_tradeRoom_17 : decode cL_tradeRoom 17 = .ok (.iconst 1, 1) := by decide +kernel
theorem dL_tradeRoom_18 : decode cL_tradeRoom 18 = .ok (.ireturn, 1) := by decide +kernel
theorem dL_tradeRoom_19 : decode cL_tradeRoom 19 = .ok (.iconst 0, 1) := by decide +kernel
theorem dL_tradeRoom_20 : decode cL_tradeRoom 20 = .ok (.ireturn, 1) := by decide +kernel
theorem dL_helpers_0 : decode cL_helpers 0 = .ok (.aload 4, 2) := by decide +kernel
theorem dL_helpers_2 : decode cL_helpers 2 = .ok (.iconst 0, 1) := by decide +kernel
theorem dL_helpers_3 : decode cL_helpers 3 = .ok (.aload_n 0, 1) := by decide +kernel
theorem dL_helpers_4 : decode cL_helpers 4 = .ok (.iload_n 1, 1) := by decide +kernel
theorem dL_helpers_5 : decode cL_helpers 5 = .ok (.iload_n 2, 1) := by decide +kernel
theorem dL_helpers_6 : decode cL_helpers 6 = .ok (.iload_n 3, 1) := by decide +kernel
theorem dL_helpers_7 : decode cL_helpers 7 = .ok (.invokevirtual 47, 3) := by decide +kernel
theorem dL_helpers_10 : decode cL_helpers 10 = .ok (.i2l, 1) := by decide +kernel
theorem dL_helpers_11 : decode cL_helpers 11 = .ok (.lastore, 1) := by decide +kernel
theorem dL_helpers_12 : decode cL_helpers 12 = .ok (.goto 7, 3) := by decide +kernel
theorem dL_helpers_15 : decode cL_helpers 15 = .ok (.astore 5, 2) := by decide +kernel
theorem dL_helpers_17 : decode cL_helpers 17 = .ok (.iconst 1, 1) := by decide +kernel
theorem dL_helpers_18 : decode cL_helpers 18 = .ok (.ireturn, 1) := by decide +kernel
theorem dL_helpers_19 : decode cL_helpers 19 = .ok (.iconst 0, 1) := by decide +kernel
theorem dL_helpers_20 : decode cL_helpers 20 = .ok (.ireturn, 1) := by decide +kernel
theorem dL_stockOf_0 : decode cL_stockOf 0 = .ok (.aload_n 3, 1) := by decide +kernel
theorem dL_stockOf_1 : decode cL_stockOf 1 = .ok (.iconst 0, 1) := by decide +kernel
theorem dL_stockOf_2 : decode cL_stockOf 2 = .ok (.aload_n 0, 1) := by decide +kernel
theorem dL_stockOf_3 : decode cL_stockOf 3 = .ok (.iload_n 1, 1) := by decide +kernel
theorem dL_stockOf_4 : decode cL_stockOf 4 = .ok (.iload_n 2, 1) := by decide +kernel
theorem dL_stockOf_5 : decode cL_stockOf 5 = .ok (.invokevirtual 50, 3) := by decide +kernel
theorem dL_stockOf_8 : decode cL_stockOf 8 = .ok (.i2l, 1) := by decide +kernel
theorem dL_stockOf_9 : decode cL_stockOf 9 = .ok (.lastore, 1) := by decide +kernel
theorem dL_stockOf_10 : decode cL_stockOf 10 = .ok (.goto 7, 3) := by decide +kernel
theorem dL_stockOf_13 : decode cL_stockOf 13 = .ok (.astore 4, 2) := by decide +kernel
theorem dL_stockOf_15 : decode cL_stockOf 15 = .ok (.iconst 1, 1) := by decide +kernel
theorem dL_stockOf_16 : decode cL_stockOf 16 = .ok (.ireturn, 1) := by decide +kernel
theorem dL_stockOf_17 : decode cL_stockOf 17 = .ok (.iconst 0, 1) := by decide +kernel
theorem dL_stockOf_18 : decode cL_stockOf 18 = .ok (.ireturn, 1) := by decide +kernel
theorem dL_accountOf_0 : decode cL_accountOf 0 = .ok (.aload_n 3, 1) := by decide +kernel
theorem dL_accountOf_1 : decode cL_accountOf 1 = .ok (.iconst 0, 1) := by decide +kernel
theorem dL_accountOf_2 : decode cL_accountOf 2 = .ok (.aload_n 0, 1) := by decide +kernel
theorem dL_accountOf_3 : decode cL_accountOf 3 = .ok (.iload_n 1, 1) := by decide +kernel
theorem dL_accountOf_4 : decode cL_accountOf 4 = .ok (.iload_n 2, 1) := by decide +kernel
theorem dL_accountOf_5 : decode cL_accountOf 5 = .ok (.invokevirtual 53, 3) := by decide +kernel
theorem dL_accountOf_8 : decode cL_accountOf 8 = .ok (.i2l, 1) := by decide +kernel
theorem dL_accountOf_9 : decode cL_accountOf 9 = .ok (.lastore, 1) := by decide +kernel
theorem dL_accountOf_10 : decode cL_accountOf 10 = .ok (.goto 7, 3) := by decide +kernel
theorem dL_accountOf_13 : decode cL_accountOf 13 = .ok (.astore 4, 2) := by decide +kernel
theorem dL_accountOf_15 : decode cL_accountOf 15 = .ok (.iconst 1, 1) := by decide +kernel
theorem dL_accountOf_16 : decode cL_accountOf 16 = .ok (.ireturn, 1) := by decide +kernel
theorem dL_accountOf_17 : decode cL_accountOf 17 = .ok (.iconst 0, 1) := by decide +kernel
theorem dL_accountOf_18 : decode cL_accountOf 18 = .ok (.ireturn, 1) := by decide +kernel
theorem dL_penaltyOf_0 : decode cL_penaltyOf 0 = .ok (.aload_n 2, 1) := by decide +kernel
theorem dL_penaltyOf_1 : decode cL_penaltyOf 1 = .ok (.iconst 0, 1) := by decide +kernel
theorem dL_penaltyOf_2 : decode cL_penaltyOf 2 = .ok (.aload_n 0, 1) := by decide +kernel
theorem dL_penaltyOf_3 : decode cL_penaltyOf 3 = .ok (.iload_n 1, 1) := by decide +kernel
theorem dL_penaltyOf_4 : decode cL_penaltyOf 4 = .ok (.invokevirtual 56, 3) := by decide +kernel
theorem dL_penaltyOf_7 : decode cL_penaltyOf 7 = .ok (.i2l, 1) := by decide +kernel
theorem dL_penaltyOf_8 : decode cL_penaltyOf 8 = .ok (.lastore, 1) := by decide +kernel
theorem dL_penaltyOf_9 : decode cL_penaltyOf 9 = .ok (.goto 6, 3) := by decide +kernel
theorem dL_penaltyOf_12 : decode cL_penaltyOf 12 = .ok (.astore_n 3, 1) := by decide +kernel
theorem dL_penaltyOf_13 : decode cL_penaltyOf 13 = .ok (.iconst 1, 1) := by decide +kernel
theorem dL_penaltyOf_14 : decode cL_penaltyOf 14 = .ok (.ireturn, 1) := by decide +kernel
theorem dL_penaltyOf_15 : decode cL_penaltyOf 15 = .ok (.iconst 0, 1) := by decide +kernel
theorem dL_penaltyOf_16 : decode cL_penaltyOf 16 = .ok (.ireturn, 1) := by decide +kernel
theorem dL_isSuspended_0 : decode cL_isSuspended 0 = .ok (.aload_n 2, 1) := by decide +kernel
theorem dL_isSuspended_1 : decode cL_isSuspended 1 = .ok (.iconst 0, 1) := by decide +kernel
theorem dL_isSuspended_2 : decode cL_isSuspended 2 = .ok (.aload_n 0, 1) := by decide +kernel
theorem dL_isSuspended_3 : decode cL_isSuspended 3 = .ok (.iload_n 1, 1) := by decide +kernel
theorem dL_isSuspended_4 : decode cL_isSuspended 4 = .ok (.invokevirtual 59, 3) := by decide +kernel
theorem dL_isSuspended_7 : decode cL_isSuspended 7 = .ok (.ifCond .eq 7, 3) := by decide +kernel
theorem dL_isSuspended_10 : decode cL_isSuspended 10 = .ok (.lconst 1, 1) := by decide +kernel
theorem dL_isSuspended_11 : decode cL_isSuspended 11 = .ok (.goto 4, 3) := by decide +kernel
theorem dL_isSuspended_14 : decode cL_isSuspended 14 = .ok (.lconst 0, 1) := by decide +kernel
theorem dL_isSuspended_15 : decode cL_isSuspended 15 = .ok (.lastore, 1) := by decide +kernel
theorem dL_isSuspended_16 : decode cL_isSuspended 16 = .ok (.goto 6, 3) := by decide +kernel
theorem dL_isSuspended_19 : decode cL_isSuspended 19 = .ok (.astore_n 3, 1) := by decide +kernel
theorem dL_isSuspended_20 : decode cL_isSuspended 20 = .ok (.iconst 1, 1) := by decide +kernel
theorem dL_isSuspended_21 : decode cL_isSuspended 21 = .ok (.ireturn, 1) := by decide +kernel
theorem dL_isSuspended_22 : decode cL_isSuspended 22 = .ok (.iconst 0, 1) := by decide +kernel
theorem dL_isSuspended_23 : decode cL_isSuspended 23 = .ok (.ireturn, 1) := by decide +kernel
theorem dL_soldBy_0 : decode cL_soldBy 0 = .ok (.aload_n 3, 1) := by decide +kernel
theorem dL_soldBy_1 : decode cL_soldBy 1 = .ok (.iconst 0, 1) := by decide +kernel
theorem dL_soldBy_2 : decode cL_soldBy 2 = .ok (.aload_n 0, 1) := by decide +kernel
theorem dL_soldBy_3 : decode cL_soldBy 3 = .ok (.iload_n 1, 1) := by decide +kernel
theorem dL_soldBy_4 : decode cL_soldBy 4 = .ok (.iload_n 2, 1) := by decide +kernel
theorem dL_soldBy_5 : decode cL_soldBy 5 = .ok (.invokevirtual 63, 3) := by decide +kernel
theorem dL_soldBy_8 : decode cL_soldBy 8 = .ok (.i2l, 1) := by decide +kernel
theorem dL_soldBy_9 : decode cL_soldBy 9 = .ok (.lastore, 1) := by decide +kernel
theorem dL_soldBy_10 : decode cL_soldBy 10 = .ok (.goto 7, 3) := by decide +kernel
theorem dL_soldBy_13 : decode cL_soldBy 13 = .ok (.astore 4, 2) := by decide +kernel
theorem dL_soldBy_15 : decode cL_soldBy 15 = .ok (.iconst 1, 1) := by decide +kernel
theorem dL_soldBy_16 : decode cL_soldBy 16 = .ok (.ireturn, 1) := by decide +kernel
theorem dL_soldBy_17 : decode cL_soldBy 17 = .ok (.iconst 0, 1) := by decide +kernel
theorem dL_soldBy_18 : decode cL_soldBy 18 = .ok (.ireturn, 1) := by decide +kernel
theorem dL_deliveredTo_0 : decode cL_deliveredTo 0 = .ok (.aload_n 3, 1) := by decide +kernel
theorem dL_deliveredTo_1 : decode cL_deliveredTo 1 = .ok (.iconst 0, 1) := by decide +kernel
theorem dL_deliveredTo_2 : decode cL_deliveredTo 2 = .ok (.aload_n 0, 1) := by decide +kernel
theorem dL_deliveredTo_3 : decode cL_deliveredTo 3 = .ok (.iload_n 1, 1) := by decide +kernel
theorem dL_deliveredTo_4 : decode cL_deliveredTo 4 = .ok (.iload_n 2, 1) := by decide +kernel
theorem dL_deliveredTo_5 : decode cL_deliveredTo 5 = .ok (.invokevirtual 66, 3) := by decide +kernel
theorem dL_deliveredTo_8 : decode cL_deliveredTo 8 = .ok (.i2l, 1) := by decide +kernel
theorem dL_deliveredTo_9 : decode cL_deliveredTo 9 = .ok (.lastore, 1) := by decide +kernel
theorem dL_deliveredTo_10 : decode cL_deliveredTo 10 = .ok (.goto 7, 3) := by decide +kernel
theorem dL_deliveredTo_13 : decode cL_deliveredTo 13 = .ok (.astore 4, 2) := by decide +kernel
theorem dL_deliveredTo_15 : decode cL_deliveredTo 15 = .ok (.iconst 1, 1) := by decide +kernel
theorem dL_deliveredTo_16 : decode cL_deliveredTo 16 = .ok (.ireturn, 1) := by decide +kernel
theorem dL_deliveredTo_17 : decode cL_deliveredTo 17 = .ok (.iconst 0, 1) := by decide +kernel
theorem dL_deliveredTo_18 : decode cL_deliveredTo 18 = .ok (.ireturn, 1) := by decide +kernel
theorem dL_turnover_0 : decode cL_turnover 0 = .ok (.aload_n 2, 1) := by decide +kernel
theorem dL_turnover_1 : decode cL_turnover 1 = .ok (.iconst 0, 1) := by decide +kernel
theorem dL_turnover_2 : decode cL_turnover 2 = .ok (.aload_n 0, 1) := by decide +kernel
theorem dL_turnover_3 : decode cL_turnover 3 = .ok (.iload_n 1, 1) := by decide +kernel
theorem dL_turnover_4 : decode cL_turnover 4 = .ok (.invokevirtual 69, 3) := by decide +kernel
theorem dL_turnover_7 : decode cL_turnover 7 = .ok (.i2l, 1) := by decide +kernel
theorem dL_turnover_8 : decode cL_turnover 8 = .ok (.lastore, 1) := by decide +kernel
theorem dL_turnover_9 : decode cL_turnover 9 = .ok (.goto 6, 3) := by decide +kernel
theorem dL_turnover_12 : decode cL_turnover 12 = .ok (.astore_n 3, 1) := by decide +kernel
theorem dL_turnover_13 : decode cL_turnover 13 = .ok (.iconst 1, 1) := by decide +kernel
theorem dL_turnover_14 : decode cL_turnover 14 = .ok (.ireturn, 1) := by decide +kernel
theorem dL_turnover_15 : decode cL_turnover 15 = .ok (.iconst 0, 1) := by decide +kernel
theorem dL_turnover_16 : decode cL_turnover 16 = .ok (.ireturn, 1) := by decide +kernel
theorem dL_issued_0 : decode cL_issued 0 = .ok (.aload_n 2, 1) := by decide +kernel
theorem dL_issued_1 : decode cL_issued 1 = .ok (.iconst 0, 1) := by decide +kernel
theorem dL_issued_2 : decode cL_issued 2 = .ok (.aload_n 0, 1) := by decide +kernel
theorem dL_issued_3 : decode cL_issued 3 = .ok (.iload_n 1, 1) := by decide +kernel
theorem dL_issued_4 : decode cL_issued 4 = .ok (.invokevirtual 72, 3) := by decide +kernel
theorem dL_issued_7 : decode cL_issued 7 = .ok (.i2l, 1) := by decide +kernel
theorem dL_issued_8 : decode cL_issued 8 = .ok (.lastore, 1) := by decide +kernel
theorem dL_issued_9 : decode cL_issued 9 = .ok (.goto 6, 3) := by decide +kernel
theorem dL_issued_12 : decode cL_issued 12 = .ok (.astore_n 3, 1) := by decide +kernel
theorem dL_issued_13 : decode cL_issued 13 = .ok (.iconst 1, 1) := by decide +kernel
theorem dL_issued_14 : decode cL_issued 14 = .ok (.ireturn, 1) := by decide +kernel
theorem dL_issued_15 : decode cL_issued 15 = .ok (.iconst 0, 1) := by decide +kernel
theorem dL_issued_16 : decode cL_issued 16 = .ok (.ireturn, 1) := by decide +kernel
theorem dL_spent_0 : decode cL_spent 0 = .ok (.aload_n 2, 1) := by decide +kernel
theorem dL_spent_1 : decode cL_spent 1 = .ok (.iconst 0, 1) := by decide +kernel
theorem dL_spent_2 : decode cL_spent 2 = .ok (.aload_n 0, 1) := by decide +kernel
theorem dL_spent_3 : decode cL_spent 3 = .ok (.iload_n 1, 1) := by decide +kernel
theorem dL_spent_4 : decode cL_spent 4 = .ok (.invokevirtual 75, 3) := by decide +kernel
theorem dL_spent_7 : decode cL_spent 7 = .ok (.i2l, 1) := by decide +kernel
theorem dL_spent_8 : decode cL_spent 8 = .ok (.lastore, 1) := by decide +kernel
theorem dL_spent_9 : decode cL_spent 9 = .ok (.goto 6, 3) := by decide +kernel
theorem dL_spent_12 : decode cL_spent 12 = .ok (.astore_n 3, 1) := by decide +kernel
theorem dL_spent_13 : decode cL_spent 13 = .ok (.iconst 1, 1) := by decide +kernel
theorem dL_spent_14 : decode cL_spent 14 = .ok (.ireturn, 1) := by decide +kernel
theorem dL_spent_15 : decode cL_spent 15 = .ok (.iconst 0, 1) := by decide +kernel
theorem dL_spent_16 : decode cL_spent 16 = .ok (.ireturn, 1) := by decide +kernel
theorem dL_lapsed_0 : decode cL_lapsed 0 = .ok (.aload_n 2, 1) := by decide +kernel
theorem dL_lapsed_1 : decode cL_lapsed 1 = .ok (.iconst 0, 1) := by decide +kernel
theorem dL_lapsed_2 : decode cL_lapsed 2 = .ok (.aload_n 0, 1) := by decide +kernel
theorem dL_lapsed_3 : decode cL_lapsed 3 = .ok (.iload_n 1, 1) := by decide +kernel
theorem dL_lapsed_4 : decode cL_lapsed 4 = .ok (.invokevirtual 78, 3) := by decide +kernel
theorem dL_lapsed_7 : decode cL_lapsed 7 = .ok (.i2l, 1) := by decide +kernel
theorem dL_lapsed_8 : decode cL_lapsed 8 = .ok (.lastore, 1) := by decide +kernel
theorem dL_lapsed_9 : decode cL_lapsed 9 = .ok (.goto 6, 3) := by decide +kernel
theorem dL_lapsed_12 : decode cL_lapsed 12 = .ok (.astore_n 3, 1) := by decide +kernel
theorem dL_lapsed_13 : decode cL_lapsed 13 = .ok (.iconst 1, 1) := by decide +kernel
theorem dL_lapsed_14 : decode cL_lapsed 14 = .ok (.ireturn, 1) := by decide +kernel
theorem dL_lapsed_15 : decode cL_lapsed 15 = .ok (.iconst 0, 1) := by decide +kernel
theorem dL_lapsed_16 : decode cL_lapsed 16 = .ok (.ireturn, 1) := by decide +kernel
theorem dL_held_0 : decode cL_held 0 = .ok (.aload_n 2, 1) := by decide +kernel
theorem dL_held_1 : decode cL_held 1 = .ok (.iconst 0, 1) := by decide +kernel
theorem dL_held_2 : decode cL_held 2 = .ok (.aload_n 0, 1) := by decide +kernel
theorem dL_held_3 : decode cL_held 3 = .ok (.iload_n 1, 1) := by decide +kernel
theorem dL_held_4 : decode cL_held 4 = .ok (.invokevirtual 81, 3) := by decide +kernel
theorem dL_held_7 : decode cL_held 7 = .ok (.i2l, 1) := by decide +kernel
theorem dL_held_8 : decode cL_held 8 = .ok (.lastore, 1) := by decide +kernel
theorem dL_held_9 : decode cL_held 9 = .ok (.goto 6, 3) := by decide +kernel
theorem dL_held_12 : decode cL_held 12 = .ok (.astore_n 3, 1) := by decide +kernel
theorem dL_held_13 : decode cL_held 13 = .ok (.iconst 1, 1) := by decide +kernel
theorem dL_held_14 : decode cL_held 14 = .ok (.ireturn, 1) := by decide +kernel
theorem dL_held_15 : decode cL_held 15 = .ok (.iconst 0, 1) := by decide +kernel
theorem dL_held_16 : decode cL_held 16 = .ok (.ireturn, 1) := by decide +kernel
theorem dL_reasonFor_0 : decode cL_reasonFor 0 = .ok (.aload 5, 2) := by decide +kernel
theorem dL_reasonFor_2 : decode cL_reasonFor 2 = .ok (.iconst 0, 1) := by decide +kernel
theorem dL_reasonFor_3 : decode cL_reasonFor 3 = .ok (.aload_n 0, 1) := by decide +kernel
theorem dL_reasonFor_4 : decode cL_reasonFor 4 = .ok (.iload_n 1, 1) := by decide +kernel
theorem dL_reasonFor_5 : decode cL_reasonFor 5 = .ok (.iload_n 2, 1) := by decide +kernel
theorem dL_reasonFor_6 : decode cL_reasonFor 6 = .ok (.iload_n 3, 1) := by decide +kernel
theorem dL_reasonFor_7 : decode cL_reasonFor 7 = .ok (.iload 4, 2) := by decide +kernel
theorem dL_reasonFor_9 : decode cL_reasonFor 9 = .ok (.invokevirtual 84, 3) := by decide +kernel
theorem dL_reasonFor_12 : decode cL_reasonFor 12 = .ok (.i2l, 1) := by decide +kernel
theorem dL_reasonFor_13 : decode cL_reasonFor 13 = .ok (.lastore, 1) := by decide +kernel
theorem dL_reasonFor_14 : decode cL_reasonFor 14 = .ok (.goto 7, 3) := by decide +kernel
theorem dL_reasonFor_17 : decode cL_reasonFor 17 = .ok (.astore 6, 2) := by decide +kernel
theorem dL_reasonFor_19 : decode cL_reasonFor 19 = .ok (.iconst 1, 1) := by decide +kernel
theorem dL_reasonFor_20 : decode cL_reasonFor 20 = .ok (.ireturn, 1) := by decide +kernel
theorem dL_reasonFor_21 : decode cL_reasonFor 21 = .ok (.iconst 0, 1) := by decide +kernel
theorem dL_reasonFor_22 : decode cL_reasonFor 22 = .ok (.ireturn, 1) := by decide +kernel
theorem dL_mostUnits_0 : decode cL_mostUnits 0 = .ok (.aload 4, 2) := by decide +kernel
theorem dL_mostUnits_2 : decode cL_mostUnits 2 = .ok (.iconst 0, 1) := by decide +kernel
theorem dL_mostUnits_3 : decode cL_mostUnits 3 = .ok (.aload_n 0, 1) := by decide +kernel
theorem dL_mostUnits_4 : decode cL_mostUnits 4 = .ok (.iload_n 1, 1) := by decide +kernel
theorem dL_mostUnits_5 : decode cL_mostUnits 5 = .ok (.iload_n 2, 1) := by decide +kernel
theorem dL_mostUnits_6 : decode cL_mostUnits 6 = .ok (.iload_n 3, 1) := by decide +kernel
theorem dL_mostUnits_7 : decode cL_mostUnits 7 = .ok (.invokevirtual 88, 3) := by decide +kernel
theorem dL_mostUnits_10 : decode cL_mostUnits 10 = .ok (.i2l, 1) := by decide +kernel
theorem dL_mostUnits_11 : decode cL_mostUnits 11 = .ok (.lastore, 1) := by decide +kernel
theorem dL_mostUnits_12 : decode cL_mostUnits 12 = .ok (.goto 7, 3) := by decide +kernel
theorem dL_mostUnits_15 : decode cL_mostUnits 15 = .ok (.astore 5, 2) := by decide +kernel
theorem dL_mostUnits_17 : decode cL_mostUnits 17 = .ok (.iconst 1, 1) := by decide +kernel
theorem dL_mostUnits_18 : decode cL_mostUnits 18 = .ok (.ireturn, 1) := by decide +kernel
theorem dL_mostUnits_19 : decode cL_mostUnits 19 = .ok (.iconst 0, 1) := by decide +kernel
theorem dL_mostUnits_20 : decode cL_mostUnits 20 = .ok (.ireturn, 1) := by decide +kernel
theorem dL_substituted_0 : decode cL_substituted 0 = .ok (.aload 4, 2) := by decide +kernel
theorem dL_substituted_2 : decode cL_substituted 2 = .ok (.iconst 0, 1) := by decide +kernel
theorem dL_substituted_3 : decode cL_substituted 3 = .ok (.aload_n 0, 1) := by decide +kernel
theorem dL_substituted_4 : decode cL_substituted 4 = .ok (.iload_n 1, 1) := by decide +kernel
theorem dL_substituted_5 : decode cL_substituted 5 = .ok (.iload_n 2, 1) := by decide +kernel
theorem dL_substituted_6 : decode cL_substituted 6 = .ok (.iload_n 3, 1) := by decide +kernel
theorem dL_substituted_7 : decode cL_substituted 7 = .ok (.invokevirtual 91, 3) := by decide +kernel
theorem dL_substituted_10 : decode cL_substituted 10 = .ok (.i2l, 1) := by decide +kernel
theorem dL_substituted_11 : decode cL_substituted 11 = .ok (.lastore, 1) := by decide +kernel
theorem dL_substituted_12 : decode cL_substituted 12 = .ok (.goto 7, 3) := by decide +kernel
theorem dL_substituted_15 : decode cL_substituted 15 = .ok (.astore 5, 2) := by decide +kernel
theorem dL_substituted_17 : decode cL_substituted 17 = .ok (.iconst 1, 1) := by decide +kernel
theorem dL_substituted_18 : decode cL_substituted 18 = .ok (.ireturn, 1) := by decide +kernel
theorem dL_substituted_19 : decode cL_substituted 19 = .ok (.iconst 0, 1) := by decide +kernel
theorem dL_substituted_20 : decode cL_substituted 20 = .ok (.ireturn, 1) := by decide +kernel
theorem dL_served_0 : decode cL_served 0 = .ok (.aload 4, 2) := by decide +kernel
theorem dL_served_2 : decode cL_served 2 = .ok (.iconst 0, 1) := by decide +kernel
theorem dL_served_3 : decode cL_served 3 = .ok (.aload_n 0, 1) := by decide +kernel
theorem dL_served_4 : decode cL_served 4 = .ok (.iload_n 1, 1) := by decide +kernel
theorem dL_served_5 : decode cL_served 5 = .ok (.iload_n 2, 1) := by decide +kernel
theorem dL_served_6 : decode cL_served 6 = .ok (.iload_n 3, 1) := by decide +kernel
theorem dL_served_7 : decode cL_served 7 = .ok (.invokevirtual 94, 3) := by decide +kernel
theorem dL_served_10 : decode cL_served 10 = .ok (.i2l, 1) := by decide +kernel
theorem dL_served_11 : decode cL_served 11 = .ok (.lastore, 1) := by decide +kernel
theorem dL_served_12 : decode cL_served 12 = .ok (.goto 7, 3) := by decide +kernel
theorem dL_served_15 : decode cL_served 15 = .ok (.astore 5, 2) := by decide +kernel
theorem dL_served_17 : decode cL_served 17 = .ok (.iconst 1, 1) := by decide +kernel
theorem dL_served_18 : decode cL_served 18 = .ok (.ireturn, 1) := by decide +kernel
theorem dL_served_19 : decode cL_served 19 = .ok (.iconst 0, 1) := by decide +kernel
theorem dL_served_20 : decode cL_served 20 = .ok (.ireturn, 1) := by decide +kernel
theorem dL_basketValue_0 : decode cL_basketValue 0 = .ok (.aload_n 3, 1) := by decide +kernel
theorem dL_basketValue_1 : decode cL_basketValue 1 = .ok (.iconst 0, 1) := by decide +kernel
theorem dL_basketValue_2 : decode cL_basketValue 2 = .ok (.aload_n 0, 1) := by decide +kernel
theorem dL_basketValue_3 : decode cL_basketValue 3 = .ok (.iload_n 1, 1) := by decide +kernel
theorem dL_basketValue_4 : decode cL_basketValue 4 = .ok (.iload_n 2, 1) := by decide +kernel
theorem dL_basketValue_5 : decode cL_basketValue 5 = .ok (.invokevirtual 97, 3) := by decide +kernel
theorem dL_basketValue_8 : decode cL_basketValue 8 = .ok (.i2l, 1) := by decide +kernel
theorem dL_basketValue_9 : decode cL_basketValue 9 = .ok (.lastore, 1) := by decide +kernel
theorem dL_basketValue_10 : decode cL_basketValue 10 = .ok (.goto 7, 3) := by decide +kernel
theorem dL_basketValue_13 : decode cL_basketValue 13 = .ok (.astore 4, 2) := by decide +kernel
theorem dL_basketValue_15 : decode cL_basketValue 15 = .ok (.iconst 1, 1) := by decide +kernel
theorem dL_basketValue_16 : decode cL_basketValue 16 = .ok (.ireturn, 1) := by decide +kernel
theorem dL_basketValue_17 : decode cL_basketValue 17 = .ok (.iconst 0, 1) := by decide +kernel
theorem dL_basketValue_18 : decode cL_basketValue 18 = .ok (.ireturn, 1) := by decide +kernel
theorem dL_basketUnits_0 : decode cL_basketUnits 0 = .ok (.aload 4, 2) := by decide +kernel
theorem dL_basketUnits_2 : decode cL_basketUnits 2 = .ok (.iconst 0, 1) := by decide +kernel
theorem dL_basketUnits_3 : decode cL_basketUnits 3 = .ok (.aload_n 0, 1) := by decide +kernel
theorem dL_basketUnits_4 : decode cL_basketUnits 4 = .ok (.iload_n 1, 1) := by decide +kernel
theorem dL_basketUnits_5 : decode cL_basketUnits 5 = .ok (.iload_n 2, 1) := by decide +kernel
theorem dL_basketUnits_6 : decode cL_basketUnits 6 = .ok (.iload_n 3, 1) := by decide +kernel
theorem dL_basketUnits_7 : decode cL_basketUnits 7 = .ok (.invokevirtual 100, 3) := by decide +kernel
theorem dL_basketUnits_10 : decode cL_basketUnits 10 = .ok (.i2l, 1) := by decide +kernel
theorem dL_basketUnits_11 : decode cL_basketUnits 11 = .ok (.lastore, 1) := by decide +kernel
theorem dL_basketUnits_12 : decode cL_basketUnits 12 = .ok (.goto 7, 3) := by decide +kernel
theorem dL_basketUnits_15 : decode cL_basketUnits 15 = .ok (.astore 5, 2) := by decide +kernel
theorem dL_basketUnits_17 : decode cL_basketUnits 17 = .ok (.iconst 1, 1) := by decide +kernel
theorem dL_basketUnits_18 : decode cL_basketUnits 18 = .ok (.ireturn, 1) := by decide +kernel
theorem dL_basketUnits_19 : decode cL_basketUnits 19 = .ok (.iconst 0, 1) := by decide +kernel
theorem dL_basketUnits_20 : decode cL_basketUnits 20 = .ok (.ireturn, 1) := by decide +kernel
theorem dL_waitFor_0 : decode cL_waitFor 0 = .ok (.aload 4, 2) := by decide +kernel
theorem dL_waitFor_2 : decode cL_waitFor 2 = .ok (.iconst 0, 1) := by decide +kernel
theorem dL_waitFor_3 : decode cL_waitFor 3 = .ok (.aload_n 0, 1) := by decide +kernel
theorem dL_waitFor_4 : decode cL_waitFor 4 = .ok (.iload_n 1, 1) := by decide +kernel
theorem dL_waitFor_5 : decode cL_waitFor 5 = .ok (.iload_n 2, 1) := by decide +kernel
theorem dL_waitFor_6 : decode cL_waitFor 6 = .ok (.iload_n 3, 1) := by decide +kernel
theorem dL_waitFor_7 : decode cL_waitFor 7 = .ok (.invokevirtual 103, 3) := by decide +kernel
theorem dL_waitFor_10 : decode cL_waitFor 10 = .ok (.i2l, 1) := by decide +kernel
theorem dL_waitFor_11 : decode cL_waitFor 11 = .ok (.lastore, 1) := by decide +kernel
theorem dL_waitFor_12 : decode cL_waitFor 12 = .ok (.goto 7, 3) := by decide +kernel
theorem dL_waitFor_15 : decode cL_waitFor 15 = .ok (.astore 5, 2) := by decide +kernel
theorem dL_waitFor_17 : decode cL_waitFor 17 = .ok (.iconst 1, 1) := by decide +kernel
theorem dL_waitFor_18 : decode cL_waitFor 18 = .ok (.ireturn, 1) := by decide +kernel
theorem dL_waitFor_19 : decode cL_waitFor 19 = .ok (.iconst 0, 1) := by decide +kernel
theorem dL_waitFor_20 : decode cL_waitFor 20 = .ok (.ireturn, 1) := by decide +kernel
theorem dL_bestShop_0 : decode cL_bestShop 0 = .ok (.aload_n 2, 1) := by decide +kernel
theorem dL_bestShop_1 : decode cL_bestShop 1 = .ok (.iconst 0, 1) := by decide +kernel
theorem dL_bestShop_2 : decode cL_bestShop 2 = .ok (.aload_n 0, 1) := by decide +kernel
theorem dL_bestShop_3 : decode cL_bestShop 3 = .ok (.iload_n 1, 1) := by decide +kernel
theorem dL_bestShop_4 : decode cL_bestShop 4 = .ok (.invokevirtual 106, 3) := by decide +kernel
theorem dL_bestShop_7 : decode cL_bestShop 7 = .ok (.i2l, 1) := by decide +kernel
theorem dL_bestShop_8 : decode cL_bestShop 8 = .ok (.lastore, 1) := by decide +kernel
theorem dL_bestShop_9 : decode cL_bestShop 9 = .ok (.goto 6, 3) := by decide +kernel
theorem dL_bestShop_12 : decode cL_bestShop 12 = .ok (.astore_n 3, 1) := by decide +kernel
theorem dL_bestShop_13 : decode cL_bestShop 13 = .ok (.iconst 1, 1) := by decide +kernel
theorem dL_bestShop_14 : decode cL_bestShop 14 = .ok (.ireturn, 1) := by decide +kernel
theorem dL_bestShop_15 : decode cL_bestShop 15 = .ok (.iconst 0, 1) := by decide +kernel
theorem dL_bestShop_16 : decode cL_bestShop 16 = .ok (.ireturn, 1) := by decide +kernel
theorem dL_bestHouse_0 : decode cL_bestHouse 0 = .ok (.aload_n 3, 1) := by decide +kernel
theorem dL_bestHouse_1 : decode cL_bestHouse 1 = .ok (.iconst 0, 1) := by decide +kernel
theorem dL_bestHouse_2 : decode cL_bestHouse 2 = .ok (.aload_n 0, 1) := by decide +kernel
theorem dL_bestHouse_3 : decode cL_bestHouse 3 = .ok (.iload_n 1, 1) := by decide +kernel
theorem dL_bestHouse_4 : decode cL_bestHouse 4 = .ok (.iload_n 2, 1) := by decide +kernel
theorem dL_bestHouse_5 : decode cL_bestHouse 5 = .ok (.invokevirtual 109, 3) := by decide +kernel
theorem dL_bestHouse_8 : decode cL_bestHouse 8 = .ok (.i2l, 1) := by decide +kernel
theorem dL_bestHouse_9 : decode cL_bestHouse 9 = .ok (.lastore, 1) := by decide +kernel
theorem dL_bestHouse_10 : decode cL_bestHouse 10 = .ok (.goto 7, 3) := by decide +kernel
theorem dL_bestHouse_13 : decode cL_bestHouse 13 = .ok (.astore 4, 2) := by decide +kernel
theorem dL_bestHouse_15 : decode cL_bestHouse 15 = .ok (.iconst 1, 1) := by decide +kernel
theorem dL_bestHouse_16 : decode cL_bestHouse 16 = .ok (.ireturn, 1) := by decide +kernel
theorem dL_bestHouse_17 : decode cL_bestHouse 17 = .ok (.iconst 0, 1) := by decide +kernel
theorem dL_bestHouse_18 : decode cL_bestHouse 18 = .ok (.ireturn, 1) := by decide +kernel
theorem dL_basketCost_0 : decode cL_basketCost 0 = .ok (.aload_n 3, 1) := by decide +kernel
theorem dL_basketCost_1 : decode cL_basketCost 1 = .ok (.iconst 0, 1) := by decide +kernel
theorem dL_basketCost_2 : decode cL_basketCost 2 = .ok (.aload_n 0, 1) := by decide +kernel
theorem dL_basketCost_3 : decode cL_basketCost 3 = .ok (.iload_n 1, 1) := by decide +kernel
theorem dL_basketCost_4 : decode cL_basketCost 4 = .ok (.iload_n 2, 1) := by decide +kernel
theorem dL_basketCost_5 : decode cL_basketCost 5 = .ok (.invokevirtual 112, 3) := by decide +kernel
theorem dL_basketCost_8 : decode cL_basketCost 8 = .ok (.i2l, 1) := by decide +kernel
theorem dL_basketCost_9 : decode cL_basketCost 9 = .ok (.lastore, 1) := by decide +kernel
theorem dL_basketCost_10 : decode cL_basketCost 10 = .ok (.goto 7, 3) := by decide +kernel
theorem dL_basketCost_13 : decode cL_basketCost 13 = .ok (.astore 4, 2) := by decide +kernel
theorem dL_basketCost_15 : decode cL_basketCost 15 = .ok (.iconst 1, 1) := by decide +kernel
theorem dL_basketCost_16 : decode cL_basketCost 16 = .ok (.ireturn, 1) := by decide +kernel
theorem dL_basketCost_17 : decode cL_basketCost 17 = .ok (.iconst 0, 1) := by decide +kernel
theorem dL_basketCost_18 : decode cL_basketCost 18 = .ok (.ireturn, 1) := by decide +kernel
theorem dL_basketLeft_0 : decode cL_basketLeft 0 = .ok (.aload 4, 2) := by decide +kernel
theorem dL_basketLeft_2 : decode cL_basketLeft 2 = .ok (.iconst 0, 1) := by decide +kernel
theorem dL_basketLeft_3 : decode cL_basketLeft 3 = .ok (.aload_n 0, 1) := by decide +kernel
theorem dL_basketLeft_4 : decode cL_basketLeft 4 = .ok (.iload_n 1, 1) := by decide +kernel
theorem dL_basketLeft_5 : decode cL_basketLeft 5 = .ok (.iload_n 2, 1) := by decide +kernel
theorem dL_basketLeft_6 : decode cL_basketLeft 6 = .ok (.iload_n 3, 1) := by decide +kernel
theorem dL_basketLeft_7 : decode cL_basketLeft 7 = .ok (.invokevirtual 115, 3) := by decide +kernel
theorem dL_basketLeft_10 : decode cL_basketLeft 10 = .ok (.i2l, 1) := by decide +kernel
theorem dL_basketLeft_11 : decode cL_basketLeft 11 = .ok (.lastore, 1) := by decide +kernel
theorem dL_basketLeft_12 : decode cL_basketLeft 12 = .ok (.goto 7, 3) := by decide +kernel
theorem dL_basketLeft_15 : decode cL_basketLeft 15 = .ok (.astore 5, 2) := by decide +kernel
theorem dL_basketLeft_17 : decode cL_basketLeft 17 = .ok (.iconst 1, 1) := by decide +kernel
theorem dL_basketLeft_18 : decode cL_basketLeft 18 = .ok (.ireturn, 1) := by decide +kernel
theorem dL_basketLeft_19 : decode cL_basketLeft 19 = .ok (.iconst 0, 1) := by decide +kernel
theorem dL_basketLeft_20 : decode cL_basketLeft 20 = .ok (.ireturn, 1) := by decide +kernel
theorem dL_swapChain_0 : decode cL_swapChain 0 = .ok (.aload_n 2, 1) := by decide +kernel
theorem dL_swapChain_1 : decode cL_swapChain 1 = .ok (.iconst 0, 1) := by decide +kernel
theorem dL_swapChain_2 : decode cL_swapChain 2 = .ok (.aload_n 0, 1) := by decide +kernel
theorem dL_swapChain_3 : decode cL_swapChain 3 = .ok (.iload_n 1, 1) := by decide +kernel
theorem dL_swapChain_4 : decode cL_swapChain 4 = .ok (.invokevirtual 118, 3) := by decide +kernel
theorem dL_swapChain_7 : decode cL_swapChain 7 = .ok (.i2l, 1) := by decide +kernel
theorem dL_swapChain_8 : decode cL_swapChain 8 = .ok (.lastore, 1) := by decide +kernel
theorem dL_swapChain_9 : decode cL_swapChain 9 = .ok (.goto 6, 3) := by decide +kernel
theorem dL_swapChain_12 : decode cL_swapChain 12 = .ok (.astore_n 3, 1) := by decide +kernel
theorem dL_swapChain_13 : decode cL_swapChain 13 = .ok (.iconst 1, 1) := by decide +kernel
theorem dL_swapChain_14 : decode cL_swapChain 14 = .ok (.ireturn, 1) := by decide +kernel
theorem dL_swapChain_15 : decode cL_swapChain 15 = .ok (.iconst 0, 1) := by decide +kernel
theorem dL_swapChain_16 : decode cL_swapChain 16 = .ok (.ireturn, 1) := by decide +kernel
theorem dL_mostDeliverable_0 : decode cL_mostDeliverable 0 = .ok (.aload_n 3, 1) := by decide +kernel
theorem dL_mostDeliverable_1 : decode cL_mostDeliverable 1 = .ok (.iconst 0, 1) := by decide +kernel
theorem dL_mostDeliverable_2 : decode cL_mostDeliverable 2 = .ok (.aload_n 0, 1) := by decide +kernel
theorem dL_mostDeliverable_3 : decode cL_mostDeliverable 3 = .ok (.iload_n 1, 1) := by decide +kernel
theorem dL_mostDeliverable_4 : decode cL_mostDeliverable 4 = .ok (.iload_n 2, 1) := by decide +kernel
theorem dL_mostDeliverable_5 : decode cL_mostDeliverable 5 = .ok (.invokevirtual 121, 3) := by decide +kernel
theorem dL_mostDeliverable_8 : decode cL_mostDeliverable 8 = .ok (.i2l, 1) := by decide +kernel
theorem dL_mostDeliverable_9 : decode cL_mostDeliverable 9 = .ok (.lastore, 1) := by decide +kernel
theorem dL_mostDeliverable_10 : decode cL_mostDeliverable 10 = .ok (.goto 7, 3) := by decide +kernel
theorem dL_mostDeliverable_13 : decode cL_mostDeliverable 13 = .ok (.astore 4, 2) := by decide +kernel
theorem dL_mostDeliverable_15 : decode cL_mostDeliverable 15 = .ok (.iconst 1, 1) := by decide +kernel
theorem dL_mostDeliverable_16 : decode cL_mostDeliverable 16 = .ok (.ireturn, 1) := by decide +kernel
theorem dL_mostDeliverable_17 : decode cL_mostDeliverable 17 = .ok (.iconst 0, 1) := by decide +kernel
theorem dL_mostDeliverable_18 : decode cL_mostDeliverable 18 = .ok (.ireturn, 1) := by decide +kernel
theorem dL_spreadOf_0 : decode cL_spreadOf 0 = .ok (.aload_n 2, 1) := by decide +kernel
theorem dL_spreadOf_1 : decode cL_spreadOf 1 = .ok (.iconst 0, 1) := by decide +kernel
theorem dL_spreadOf_2 : decode cL_spreadOf 2 = .ok (.aload_n 0, 1) := by decide +kernel
theorem dL_spreadOf_3 : decode cL_spreadOf 3 = .ok (.iload_n 1, 1) := by decide +kernel
theorem dL_spreadOf_4 : decode cL_spreadOf 4 = .ok (.invokevirtual 124, 3) := by decide +kernel
theorem dL_spreadOf_7 : decode cL_spreadOf 7 = .ok (.i2l, 1) := by decide +kernel
theorem dL_spreadOf_8 : decode cL_spreadOf 8 = .ok (.lastore, 1) := by decide +kernel
theorem dL_spreadOf_9 : decode cL_spreadOf 9 = .ok (.goto 6, 3) := by decide +kernel
theorem dL_spreadOf_12 : decode cL_spreadOf 12 = .ok (.astore_n 3, 1) := by decide +kernel
theorem dL_spreadOf_13 : decode cL_spreadOf 13 = .ok (.iconst 1, 1) := by decide +kernel
theorem dL_spreadOf_14 : decode cL_spreadOf 14 = .ok (.ireturn, 1) := by decide +kernel
theorem dL_spreadOf_15 : decode cL_spreadOf 15 = .ok (.iconst 0, 1) := by decide +kernel
theorem dL_spreadOf_16 : decode cL_spreadOf 16 = .ok (.ireturn, 1) := by decide +kernel
theorem dL_levelMoves_0 : decode cL_levelMoves 0 = .ok (.aload_n 3, 1) := by decide +kernel
theorem dL_levelMoves_1 : decode cL_levelMoves 1 = .ok (.iconst 0, 1) := by decide +kernel
theorem dL_levelMoves_2 : decode cL_levelMoves 2 = .ok (.aload_n 0, 1) := by decide +kernel
theorem dL_levelMoves_3 : decode cL_levelMoves 3 = .ok (.iload_n 1, 1) := by decide +kernel
theorem dL_levelMoves_4 : decode cL_levelMoves 4 = .ok (.iload_n 2, 1) := by decide +kernel
theorem dL_levelMoves_5 : decode cL_levelMoves 5 = .ok (.invokevirtual 127, 3) := by decide +kernel
theorem dL_levelMoves_8 : decode cL_levelMoves 8 = .ok (.i2l, 1) := by decide +kernel
theorem dL_levelMoves_9 : decode cL_levelMoves 9 = .ok (.lastore, 1) := by decide +kernel
theorem dL_levelMoves_10 : decode cL_levelMoves 10 = .ok (.goto 7, 3) := by decide +kernel
theorem dL_levelMoves_13 : decode cL_levelMoves 13 = .ok (.astore 4, 2) := by decide +kernel
theorem dL_levelMoves_15 : decode cL_levelMoves 15 = .ok (.iconst 1, 1) := by decide +kernel
theorem dL_levelMoves_16 : decode cL_levelMoves 16 = .ok (.ireturn, 1) := by decide +kernel
theorem dL_levelMoves_17 : decode cL_levelMoves 17 = .ok (.iconst 0, 1) := by decide +kernel
theorem dL_levelMoves_18 : decode cL_levelMoves 18 = .ok (.ireturn, 1) := by decide +kernel
theorem dL_lapseAfter_0 : decode cL_lapseAfter 0 = .ok (.aload 4, 2) := by decide +kernel
theorem dL_lapseAfter_2 : decode cL_lapseAfter 2 = .ok (.iconst 0, 1) := by decide +kernel
theorem dL_lapseAfter_3 : decode cL_lapseAfter 3 = .ok (.aload_n 0, 1) := by decide +kernel
theorem dL_lapseAfter_4 : decode cL_lapseAfter 4 = .ok (.iload_n 1, 1) := by decide +kernel
theorem dL_lapseAfter_5 : decode cL_lapseAfter 5 = .ok (.iload_n 2, 1) := by decide +kernel
theorem dL_lapseAfter_6 : decode cL_lapseAfter 6 = .ok (.iload_n 3, 1) := by decide +kernel
theorem dL_lapseAfter_7 : decode cL_lapseAfter 7 = .ok (.invokevirtual 130, 3) := by decide +kernel
theorem dL_lapseAfter_10 : decode cL_lapseAfter 10 = .ok (.i2l, 1) := by decide +kernel
theorem dL_lapseAfter_11 : decode cL_lapseAfter 11 = .ok (.lastore, 1) := by decide +kernel
theorem dL_lapseAfter_12 : decode cL_lapseAfter 12 = .ok (.goto 7, 3) := by decide +kernel
theorem dL_lapseAfter_15 : decode cL_lapseAfter 15 = .ok (.astore 5, 2) := by decide +kernel
theorem dL_lapseAfter_17 : decode cL_lapseAfter 17 = .ok (.iconst 1, 1) := by decide +kernel
theorem dL_lapseAfter_18 : decode cL_lapseAfter 18 = .ok (.ireturn, 1) := by decide +kernel
theorem dL_lapseAfter_19 : decode cL_lapseAfter 19 = .ok (.iconst 0, 1) := by decide +kernel
theorem dL_lapseAfter_20 : decode cL_lapseAfter 20 = .ok (.ireturn, 1) := by decide +kernel
theorem dL_supplyPeriods_0 : decode cL_supplyPeriods 0 = .ok (.aload 4, 2) := by decide +kernel
theorem dL_supplyPeriods_2 : decode cL_supplyPeriods 2 = .ok (.iconst 0, 1) := by decide +kernel
theorem dL_supplyPeriods_3 : decode cL_supplyPeriods 3 = .ok (.aload_n 0, 1) := by decide +kernel
theorem dL_supplyPeriods_4 : decode cL_supplyPeriods 4 = .ok (.iload_n 1, 1) := by decide +kernel
theorem dL_supplyPeriods_5 : decode cL_supplyPeriods 5 = .ok (.iload_n 2, 1) := by decide +kernel
theorem dL_supplyPeriods_6 : decode cL_supplyPeriods 6 = .ok (.iload_n 3, 1) := by decide +kernel
theorem dL_supplyPeriods_7 : decode cL_supplyPeriods 7 = .ok (.invokevirtual 133, 3) := by decide +kernel
theorem dL_supplyPeriods_10 : decode cL_supplyPeriods 10 = .ok (.i2l, 1) := by decide +kernel
theorem dL_supplyPeriods_11 : decode cL_supplyPeriods 11 = .ok (.lastore, 1) := by decide +kernel
theorem dL_supplyPeriods_12 : decode cL_supplyPeriods 12 = .ok (.goto 7, 3) := by decide +kernel
theorem dL_supplyPeriods_15 : decode cL_supplyPeriods 15 = .ok (.astore 5, 2) := by decide +kernel
theorem dL_supplyPeriods_17 : decode cL_supplyPeriods 17 = .ok (.iconst 1, 1) := by decide +kernel
theorem dL_supplyPeriods_18 : decode cL_supplyPeriods 18 = .ok (.ireturn, 1) := by decide +kernel
theorem dL_supplyPeriods_19 : decode cL_supplyPeriods 19 = .ok (.iconst 0, 1) := by decide +kernel
theorem dL_supplyPeriods_20 : decode cL_supplyPeriods 20 = .ok (.ireturn, 1) := by decide +kernel
