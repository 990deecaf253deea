theorem dL_appendText_0 : decode cL_appendText 0 = .ok (.aload 6, 2) := by decide +kernel
theorem dL_appendText_2 : decode cL_appendText 2 = .ok (.iconst 0, 1) := by decide +kernel
theorem dL_appendText_3 : decode cL_appendText 3 = .ok (.aload_n 0, 1) := by decide +kernel
theorem dL_appendText_4 : decode cL_appendText 4 = .ok (.iload_n 1, 1) := by decide +kernel
theorem dL_appendText_5 : decode cL_appendText 5 = .ok (.iload_n 2, 1) := by decide +kernel
theorem dL_appendText_6 : decode cL_appendText 6 = .ok (.iload_n 3, 1) := by decide +kernel
theorem dL_appendText_7 : decode cL_appendText 7 = .ok (.iload 4, 2) := by decide +kernel
theorem dL_appendText_9 : decode cL_appendText 9 = .ok (.iload 5, 2) := by decide +kernel
theorem dL_appendText_11 : decode cL_appendText 11 = .ok (.invokevirtual 7, 3) := by decide +kernel
theorem dL_appendText_14 : decode cL_appendText 14 = .ok (.i2l, 1) := by decide +kernel
theorem dL_appendText_15 : decode cL_appendText 15 = .ok (.lastore, 1) := by decide +kernel
theorem dL_appendText_16 : decode cL_appendText 16 = .ok (.goto 7, 3) := by decide +kernel
theorem dL_appendText_19 : decode cL_appendText 19 = .ok (.astore 7, 2) := by decide +kernel
theorem dL_appendText_21 : decode cL_appendText 21 = .ok (.iconst 1, 1) := by decide +kernel
theorem dL_appendText_22 : decode cL_appendText 22 = .ok (.ireturn, 1) := by decide +kernel
theorem dL_appendText_23 : decode cL_appendText 23 = .ok (.iconst 0, 1) := by decide +kernel
theorem dL_appendText_24 : decode cL_appendText 24 = .ok (.ireturn, 1) := by decide +kernel
theorem dL_truncateText_0 : decode cL_truncateText 0 = .ok (.aload_n 2, 1) := by decide +kernel
theorem dL_truncateText_1 : decode cL_truncateText 1 = .ok (.iconst 0, 1) := by decide +kernel
theorem dL_truncateText_2 : decode cL_truncateText 2 = .ok (.aload_n 0, 1) := by decide +kernel
theorem dL_truncateText_3 : decode cL_truncateText 3 = .ok (.iload_n 1, 1) := by decide +kernel
theorem dL_truncateText_4 : decode cL_truncateText 4 = .ok (.invokevirtual 15, 3) := by decide +kernel
theorem dL_truncateText_7 : decode cL_truncateText 7 = .ok (.i2l, 1) := by decide +kernel
theorem dL_truncateText_8 : decode cL_truncateText 8 = .ok (.lastore, 1) := by decide +kernel
theorem dL_truncateText_9 : decode cL_truncateText 9 = .ok (.goto 6, 3) := by decide +kernel
theorem dL_truncateText_12 : decode cL_truncateText 12 = .ok (.astore_n 3, 1) := by decide +kernel
theorem dL_truncateText_13 : decode cL_truncateText 13 = .ok (.iconst 1, 1) := by decide +kernel
theorem dL_truncateText_14 : decode cL_truncateText 14 = .ok (.ireturn, 1) := by decide +kernel
theorem dL_truncateText_15 : decode cL_truncateText 15 = .ok (.iconst 0, 1) := by decide +kernel
theorem dL_truncateText_16 : decode cL_truncateText 16 = .ok (.ireturn, 1) := by decide +kernel
theorem dL_subscribe_0 : decode cL_subscribe 0 = .ok (.aload_n 3, 1) := by decide +kernel
theorem dL_subscribe_1 : decode cL_subscribe 1 = .ok (.iconst 0, 1) := by decide +kernel
theorem dL_subscribe_2 : decode cL_subscribe 2 = .ok (.aload_n 0, 1) := by decide +kernel
theorem dL_subscribe_3 : decode cL_subscribe 3 = .ok (.iload_n 1, 1) := by decide +kernel
theorem dL_subscribe_4 : decode cL_subscribe 4 = .ok (.iload_n 2, 1) := by decide +kernel
theorem dL_subscribe_5 : decode cL_subscribe 5 = .ok (.invokevirtual 21, 3) := by decide +kernel
theorem dL_subscribe_8 : decode cL_subscribe 8 = .ok (.i2l, 1) := by decide +kernel
theorem dL_subscribe_9 : decode cL_subscribe 9 = .ok (.lastore, 1) := by decide +kernel
theorem dL_subscribe_10 : decode cL_subscribe 10 = .ok (.goto 15, 3) := by decide +kernel
theorem dL_subscribe_13 : decode cL_subscribe 13 = .ok (.astore 4, 2) := by decide +kernel
theorem dL_subscribe_15 : decode cL_subscribe 15 = .ok (.iconst 1, 1) := by decide +kernel
theorem dL_subscribe_16 : decode cL_subscribe 16 = .ok (.ireturn, 1) := by decide +kernel
theorem dL_subscribe_17 : decode cL_subscribe 17 = .ok (.astore 4, 2) := by decide +kernel
theorem dL_subscribe_19 : decode cL_subscribe 19 = .ok (.iconst 2, 1) := by decide +kernel
theorem dL_subscribe_20 : decode cL_subscribe 20 = .ok (.ireturn, 1) := by decide +kernel
theorem dL_subscribe_21 : decode cL_subscribe 21 = .ok (.astore 4, 2) := by decide +kernel
theorem dL_subscribe_23 : decode cL_subscribe 23 = .ok (.iconst 3, 1) := by decide +kernel
theorem dL_subscribe_24 : decode cL_subscribe 24 = .ok (.ireturn, 1) := by decide +kernel
theorem dL_subscribe_25 : decode cL_subscribe 25 = .ok (.iconst 0, 1) := by decide +kernel
theorem dL_subscribe_26 : decode cL_subscribe 26 = .ok (.ireturn, 1) := by decide +kernel
theorem dL_redeem_0 : decode cL_redeem 0 = .ok (.aload_n 3, 1) := by decide +kernel
theorem dL_redeem_1 : decode cL_redeem 1 = .ok (.iconst 0, 1) := by decide +kernel
theorem dL_redeem_2 : decode cL_redeem 2 = .ok (.aload_n 0, 1) := by decide +kernel
theorem dL_redeem_3 : decode cL_redeem 3 = .ok (.iload_n 1, 1) := by decide +kernel
theorem dL_redeem_4 : decode cL_redeem 4 = .ok (.iload_n 2, 1) := by decide +kernel
theorem dL_redeem_5 : decode cL_redeem 5 = .ok (.invokevirtual 27, 3) := by decide +kernel
theorem dL_redeem_8 : decode cL_redeem 8 = .ok (.i2l, 1) := by decide +kernel
theorem dL_redeem_9 : decode cL_redeem 9 = .ok (.lastore, 1) := by decide +kernel
theorem dL_redeem_10 : decode cL_redeem 10 = .ok (.goto 15, 3) := by decide +kernel
theorem dL_redeem_13 : decode cL_redeem 13 = .ok (.astore 4, 2) := by decide +kernel
theorem dL_redeem_15 : decode cL_redeem 15 = .ok (.iconst 1, 1) := by decide +kernel
theorem dL_redeem_16 : decode cL_redeem 16 = .ok (.ireturn, 1) := by decide +kernel
theorem dL_redeem_17 : decode cL_redeem 17 = .ok (.astore 4, 2) := by decide +kernel
theorem dL_redeem_19 : decode cL_redeem 19 = .ok (.iconst 2, 1) := by decide +kernel
theorem dL_redeem_20 : decode cL_redeem 20 = .ok (.ireturn, 1) := by decide +kernel
theorem dL_redeem_21 : decode cL_redeem 21 = .ok (.astore 4, 2) := by decide +kernel
theorem dL_redeem_23 : decode cL_redeem 23 = .ok (.iconst 3, 1) := by decide +kernel
theorem dL_redeem_24 : decode cL_redeem 24 = .ok (.ireturn, 1) := by decide +kernel
theorem dL_redeem_25 : decode cL_redeem 25 = .ok (.iconst 0, 1) := by decide +kernel
theorem dL_redeem_26 : decode cL_redeem 26 = .ok (.ireturn, 1) := by decide +kernel
theorem dL_withdraw_0 : decode cL_withdraw 0 = .ok (.aload_n 2, 1) := by decide +kernel
theorem dL_withdraw_1 : decode cL_withdraw 1 = .ok (.iconst 0, 1) := by decide +kernel
theorem dL_withdraw_2 : decode cL_withdraw 2 = .ok (.aload_n 0, 1) := by decide +kernel
theorem dL_withdraw_3 : decode cL_withdraw 3 = .ok (.iload_n 1, 1) := by decide +kernel
theorem dL_withdraw_4 : decode cL_withdraw 4 = .ok (.invokevirtual 30, 3) := by decide +kernel
theorem dL_withdraw_7 : decode cL_withdraw 7 = .ok (.lastore, 1) := by decide +kernel
theorem dL_withdraw_8 : decode cL_withdraw 8 = .ok (.goto 6, 3) := by decide +kernel
theorem dL_withdraw_11 : decode cL_withdraw 11 = .ok (.astore_n 3, 1) := by decide +kernel
theorem dL_withdraw_12 : decode cL_withdraw 12 = .ok (.iconst 1, 1) := by decide +kernel
theorem dL_withdraw_13 : decode cL_withdraw 13 = .ok (.ireturn, 1) := by decide +kernel
theorem dL_withdraw_14 : decode cL_withdraw 14 = .ok (.iconst 0, 1) := by decide +kernel
theorem dL_withdraw_15 : decode cL_withdraw 15 = .ok (.ireturn, 1) := by decide +kernel
theorem dL_earn_0 : decode cL_earn 0 = .ok (.aload_n 2, 1) := by decide +kernel
theorem dL_earn_1 : decode cL_earn 1 = .ok (.iconst 0, 1) := by decide +kernel
theorem dL_earn_2 : decode cL_earn 2 = .ok (.aload_n 0, 1) := by decide +kernel
theorem dL_earn_3 : decode cL_earn 3 = .ok (.iload_n 1, 1) := by decide +kernel
theorem dL_earn_4 : decode cL_earn 4 = .ok (.invokevirtual 34, 3) := by decide +kernel
theorem dL_earn_7 : decode cL_earn 7 = .ok (.lastore, 1) := by decide +kernel
theorem dL_earn_8 : decode cL_earn 8 = .ok (.goto 9, 3) := by decide +kernel
theorem dL_earn_11 : decode cL_earn 11 = .ok (.astore_n 3, 1) := by decide +kernel
theorem dL_earn_12 : decode cL_earn 12 = .ok (.iconst 1, 1) := by decide +kernel
theorem dL_earn_13 : decode cL_earn 13 = .ok (.ireturn, 1) := by decide +kernel
theorem dL_earn_14 : decode cL_earn 14 = .ok (.astore_n 3, 1) := by decide +kernel
theorem dL_earn_15 : decode cL_earn 15 = .ok (.iconst 2, 1) := by decide +kernel
theorem dL_earn_16 : decode cL_earn 16 = .ok (.ireturn, 1) := by decide +kernel
theorem dL_earn_17 : decode cL_earn 17 = .ok (.iconst 0, 1) := by decide +kernel
theorem dL_earn_18 : decode cL_earn 18 = .ok (.ireturn, 1) := by decide +kernel
theorem dL_passDays_0 : decode cL_passDays 0 = .ok (.aload_n 2, 1) := by decide +kernel
theorem dL_passDays_1 : decode cL_passDays 1 = .ok (.iconst 0, 1) := by decide +kernel
theorem dL_passDays_2 : decode cL_passDays 2 = .ok (.aload_n 0, 1) := by decide +kernel
theorem dL_passDays_3 : decode cL_passDays 3 = .ok (.iload_n 1, 1) := by decide +kernel
theorem dL_passDays_4 : decode cL_passDays 4 = .ok (.invokevirtual 37, 3) := by decide +kernel
theorem dL_passDays_7 : decode cL_passDays 7 = .ok (.lastore, 1) := by decide +kernel
theorem dL_passDays_8 : decode cL_passDays 8 = .ok (.goto 6, 3) := by decide +kernel
theorem dL_passDays_11 : decode cL_passDays 11 = .ok (.astore_n 3, 1) := by decide +kernel
theorem dL_passDays_12 : decode cL_passDays 12 = .ok (.iconst 1, 1) := by decide +kernel
theorem dL_passDays_13 : decode cL_passDays 13 = .ok (.ireturn, 1) := by decide +kernel
theorem dL_passDays_14 : decode cL_passDays 14 = .ok (.iconst 0, 1) := by decide +kernel
theorem dL_passDays_15 : decode cL_passDays 15 = .ok (.ireturn, 1) := by decide +kernel
theorem dL_transfer_0 : decode cL_transfer 0 = .ok (.aload 4, 2) := by decide +kernel
theorem dL_transfer_2 : decode cL_transfer 2 = .ok (.iconst 0, 1) := by decide +kernel
theorem dL_transfer_3 : decode cL_transfer 3 = .ok (.aload_n 0, 1) := by decide +kernel
theorem dL_transfer_4 : decode cL_transfer 4 = .ok (.iload_n 1, 1) := by decide +kernel
theorem dL_transfer_5 : decode cL_transfer 5 = .ok (.iload_n 2, 1) := by decide +kernel
theorem dL_transfer_6 : decode cL_transfer 6 = .ok (.iload_n 3, 1) := by decide +kernel
theorem dL_transfer_7 : decode cL_transfer 7 = .ok (.invokevirtual 40, 3) := by decide +kernel
theorem dL_transfer_10 : decode cL_transfer 10 = .ok (.lastore, 1) := by decide +kernel
theorem dL_transfer_11 : decode cL_transfer 11 = .ok (.goto 15, 3) := by decide +kernel
theorem dL_transfer_14 : decode cL_transfer 14 = .ok (.astore 5, 2) := by decide +kernel
theorem dL_transfer_16 : decode cL_transfer 16 = .ok (.iconst 1, 1) := by decide +kernel
theorem dL_transfer_17 : decode cL_transfer 17 = .ok (.ireturn, 1) := by decide +kernel
theorem dL_transfer_18 : decode cL_transfer 18 = .ok (.astore 5, 2) := by decide +kernel
theorem dL_transfer_20 : decode cL_transfer 20 = .ok (.iconst 2, 1) := by decide +kernel
theorem dL_transfer_21 : decode cL_transfer 21 = .ok (.ireturn, 1) := by decide +kernel
theorem dL_transfer_22 : decode cL_transfer 22 = .ok (.astore 5, 2) := by decide +kernel
theorem dL_transfer_24 : decode cL_transfer 24 = .ok (.iconst 3, 1) := by decide +kernel
theorem dL_transfer_25 : decode cL_transfer 25 = .ok (.ireturn, 1) := by decide +kernel
theorem dL_transfer_26 : decode cL_transfer 26 = .ok (.iconst 0, 1) := by decide +kernel
theorem dL_transfer_27 : decode cL_transfer 27 = .ok (.ireturn, 1) := by decide +kernel
theorem dL_setGate_0 : decode cL_setGate 0 = .ok (.aload_n 2, 1) := by decide +kernel
theorem dL_setGate_1 : decode cL_setGate 1 = .ok (.iconst 0, 1) := by decide +kernel
theorem dL_setGate_2 : decode cL_setGate 2 = .ok (.aload_n 0, 1) := by decide +kernel
theorem dL_setGate_3 : decode cL_setGate 3 = .ok (.iload_n 1, 1) := by decide +kernel
theorem dL_setGate_4 : decode cL_setGate 4 = .ok (.invokevirtual 44, 3) := by decide +kernel
theorem dL_setGate_7 : decode cL_setGate 7 = .ok (.i2l, 1) := by decide +kernel
theorem dL_setGate_8 : decode cL_setGate 8 = .ok (.lastore, 1) := by decide +kernel
theorem dL_setGate_9 : decode cL_setGate 9 = .ok (.goto 6, 3) := by decide +kernel
theorem dL_setGate_12 : decode cL_setGate 12 = .ok (.astore_n 3, 1) := by decide +kernel
theorem dL_setGate_13 : decode cL_setGate 13 = .ok (.iconst 1, 1) := by decide +kernel
theorem dL_setGate_14 : decode cL_setGate 14 = .ok (.ireturn, 1) := by decide +kernel
theorem dL_setGate_15 : decode cL_setGate 15 = .ok (.iconst 0, 1) := by decide +kernel
theorem dL_setGate_16 : decode cL_setGate 16 = .ok (.ireturn, 1) := by decide +kernel
theorem dL_count_0 : decode cL_count 0 = .ok (.aload_n 2, 1) := by decide +kernel
theorem dL_count_1 : decode cL_count 1 = .ok (.iconst 0, 1) := by decide +kernel
theorem dL_count_2 : decode cL_count 2 = .ok (.aload_n 0, 1) := by decide +kernel
theorem dL_count_3 : decode cL_count 3 = .ok (.iload_n 1, 1) := by decide +kernel
theorem dL_count_4 : decode cL_count 4 = .ok (.invokevirtual 47, 3) := by decide +kernel
theorem dL_count_7 : decode cL_count 7 = .ok (.i2l, 1) := by decide +kernel
theorem dL_count_8 : decode cL_count 8 = .ok (.lastore, 1) := by decide +kernel
theorem dL_count_9 : decode cL_count 9 = .ok (.goto 6, 3) := by decide +kernel
theorem dL_count_12 : decode cL_count 12 = .ok (.astore_n 3, 1) := by decide +kernel
theorem dL_count_13 : decode cL_count 13 = .ok (.iconst 1, 1) := by decide +kernel
theorem dL_count_14 : decode cL_count 14 = .ok (.ireturn, 1) := by decide +kernel
theorem dL_count_15 : decode cL_count 15 = .ok (.iconst 0, 1) := by decide +kernel
theorem dL_count_16 : decode cL_count 16 = .ok (.ireturn, 1) := by decide +kernel
theorem dL_account_0 : decode cL_account 0 = .ok (.aload_n 2, 1) := by decide +kernel
theorem dL_account_1 : decode cL_account 1 = .ok (.iconst 0, 1) := by decide +kernel
theorem dL_account_2 : decode cL_account 2 = .ok (.aload_n 0, 1) := by decide +kernel
theorem dL_account_3 : decode cL_account 3 = .ok (.iload_n 1, 1) := by decide +kernel
theorem dL_account_4 : decode cL_account 4 = .ok (.invokevirtual 50, 3) := by decide +kernel
theorem dL_account_7 : decode cL_account 7 = .ok (.lastore, 1) := by decide +kernel
theorem dL_account_8 : decode cL_account 8 = .ok (.goto 6, 3) := by decide +kernel
theorem dL_account_11 : decode cL_account 11 = .ok (.astore_n 3, 1) := by decide +kernel
theorem dL_account_12 : decode cL_account 12 = .ok (.iconst 1, 1) := by decide +kernel
theorem dL_account_13 : decode cL_account 13 = .ok (.ireturn, 1) := by decide +kernel
theorem dL_account_14 : decode cL_account 14 = .ok (.iconst 0, 1) := by decide +kernel
theorem dL_account_15 : decode cL_account 15 = .ok (.ireturn, 1) := by decide +kernel
theorem dL_openSeries_0 : decode cL_openSeries 0 = .ok (.aload_n 2, 1) := by decide +kernel
theorem dL_openSeries_1 : decode cL_openSeries 1 = .ok (.iconst 0, 1) := by decide +kernel
theorem dL_openSeries_2 : decode cL_openSeries 2 = .ok (.aload_n 0, 1) := by decide +kernel
theorem dL_openSeries_3 : decode cL_openSeries 3 = .ok (.iload_n 1, 1) := by decide +kernel
theorem dL_openSeries_4 : decode cL_openSeries 4 = .ok (.invokevirtual 53, 3) := by decide +kernel
theorem dL_openSeries_7 : decode cL_openSeries 7 = .ok (.i2l, 1) := by decide +kernel
theorem dL_openSeries_8 : decode cL_openSeries 8 = .ok (.lastore, 1) := by decide +kernel
theorem dL_openSeries_9 : decode cL_openSeries 9 = .ok (.goto 6, 3) := by decide +kernel
theorem dL_openSeries_12 : decode cL_openSeries 12 = .ok (.astore_n 3, 1) := by decide +kernel
theorem dL_openSeries_13 : decode cL_openSeries 13 = .ok (.iconst 1, 1) := by decide +kernel
theorem dL_openSeries_14 : decode cL_openSeries 14 = .ok (.ireturn, 1) := by decide +kernel
theorem dL_openSeries_15 : decode cL_openSeries 15 = .ok (.iconst 0, 1) := by decide +kernel
theorem dL_openSeries_16 : decode cL_openSeries 16 = .ok (.ireturn, 1) := by decide +kernel
theorem dL_seriesValue_0 : decode cL_seriesValue 0 = .ok (.aload_n 3, 1) := by decide +kernel
theorem dL_seriesValue_1 : decode cL_seriesValue 1 = .ok (.iconst 0, 1) := by decide +kernel
theorem dL_seriesValue_2 : decode cL_seriesValue 2 = .ok (.aload_n 0, 1) := by decide +kernel
theorem dL_seriesValue_3 : decode cL_seriesValue 3 = .ok (.iload_n 1, 1) := by decide +kernel
theorem dL_seriesValue_4 : decode cL_seriesValue 4 = .ok (.iload_n 2, 1) := by decide +kernel
theorem dL_seriesValue_5 : decode cL_seriesValue 5 = .ok (.invokevirtual 56, 3) := by decide +kernel
theorem dL_seriesValue_8 : decode cL_seriesValue 8 = .ok (.lastore, 1) := by decide +kernel
theorem dL_seriesValue_9 : decode cL_seriesValue 9 = .ok (.goto 11, 3) := by decide +kernel
theorem dL_seriesValue_12 : decode cL_seriesValue 12 = .ok (.astore 4, 2) := by decide +kernel
theorem dL_seriesValue_14 : decode cL_seriesValue 14 = .ok (.iconst 1, 1) := by decide +kernel
theorem dL_seriesValue_15 : decode cL_seriesValue 15 = .ok (.ireturn, 1) := by decide +kernel
theorem dL_seriesValue_16 : decode cL_seriesValue 16 = .ok (.astore 4, 2) := by decide +kernel
theorem dL_seriesValue_18 : decode cL_seriesValue 18 = .ok (.iconst 2, 1) := by decide +kernel
theorem dL_seriesValue_19 : decode cL_seriesValue 19 = .ok (.ireturn, 1) := by decide +kernel
theorem dL_seriesValue_20 : decode cL_seriesValue 20 = .ok (.iconst 0, 1) := by decide +kernel
theorem dL_seriesValue_21 : decode cL_seriesValue 21 = .ok (.ireturn, 1) := by decide +kernel
theorem dL_lot_0 : decode cL_lot 0 = .ok (.aload_n 3, 1) := by decide +kernel
theorem dL_lot_1 : decode cL_lot 1 = .ok (.iconst 0, 1) := by decide +kernel
theorem dL_lot_2 : decode cL_lot 2 = .ok (.aload_n 0, 1) := by decide +kernel
theorem dL_lot_3 : decode cL_lot 3 = .ok (.iload_n 1, 1) := by decide +kernel
theorem dL_lot_4 : decode cL_lot 4 = .ok (.iload_n 2, 1) := by decide +kernel
theorem dL_lot_5 : decode cL_lot 5 = .ok (.invokevirtual 60, 3) := by decide +kernel
theorem dL_lot_8 : decode cL_lot 8 = .ok (.lastore, 1) := by decide +kernel
theorem dL_lot_9 : decode cL_lot 9 = .ok (.goto 11, 3) := by decide +kernel
theorem dL_lot_12 : decode cL_lot 12 = .ok (.astore 4, 2) := by decide +kernel
theorem dL_lot_14 : decode cL_lot 14 = .ok (.iconst 1, 1) := by decide +kernel
theorem dL_lot_15 : decode cL_lot 15 = .ok (.ireturn, 1) := by decide +kernel
theorem dL_lot_16 : decode cL_lot 16 = .ok (.astore 4, 2) := by decide +kernel
theorem dL_lot_18 : decode cL_lot 18 = .ok (.iconst 2, 1) := by decide +kernel
theorem dL_lot_19 : decode cL_lot 19 = .ok (.ireturn, 1) := by decide +kernel
theorem dL_lot_20 : decode cL_lot 20 = .ok (.iconst 0, 1) := by decide +kernel
theorem dL_lot_21 : decode cL_lot 21 = .ok (.ireturn, 1) := by decide +kernel
theorem dL_request_0 : decode cL_request 0 = .ok (.aload_n 3, 1) := by decide +kernel
theorem dL_request_1 : decode cL_request 1 = .ok (.iconst 0, 1) := by decide +kernel
theorem dL_request_2 : decode cL_request 2 = .ok (.aload_n 0, 1) := by decide +kernel
theorem dL_request_3 : decode cL_request 3 = .ok (.iload_n 1, 1) := by decide +kernel
theorem dL_request_4 : decode cL_request 4 = .ok (.iload_n 2, 1) := by decide +kernel
theorem dL_request_5 : decode cL_request 5 = .ok (.invokevirtual 63, 3) := by decide +kernel
theorem dL_request_8 : decode cL_request 8 = .ok (.lastore, 1) := by decide +kernel
theorem dL_request_9 : decode cL_request 9 = .ok (.goto 11, 3) := by decide +kernel
theorem dL_request_12 : decode cL_request 12 = .ok (.astore 4, 2) := by decide +kernel
theorem dL_request_14 : decode cL_request 14 = .ok (.iconst 1, 1) := by decide +kernel
theorem dL_request_15 : decode cL_request 15 = .ok (.ireturn, 1) := by decide +kernel
theorem dL_request_16 : decode cL_request 16 = .ok (.astore 4, 2) := by decide +kernel
theorem dL_request_18 : decode cL_request 18 = .ok (.iconst 2, 1) := by decide +kernel
theorem dL_request_19 : decode cL_request 19 = .ok (.ireturn, 1) := by decide +kernel
theorem dL_request_20 : decode cL_request 20 = .ok (.iconst 0, 1) := by decide +kernel
theorem dL_request_21 : decode cL_request 21 = .ok (.ireturn, 1) := by decide +kernel
theorem dL_unitsOf_0 : decode cL_unitsOf 0 = .ok (.aload_n 2, 1) := by decide +kernel
theorem dL_unitsOf_1 : decode cL_unitsOf 1 = .ok (.iconst 0, 1) := by decide +kernel
theorem dL_unitsOf_2 : decode cL_unitsOf 2 = .ok (.aload_n 0, 1) := by decide +kernel
theorem dL_unitsOf_3 : decode cL_unitsOf 3 = .ok (.iload_n 1, 1) := by decide +kernel
theorem dL_unitsOf_4 : decode cL_unitsOf 4 = .ok (.invokevirtual 66, 3) := by decide +kernel
theorem dL_unitsOf_7 : decode cL_unitsOf 7 = .ok (.lastore, 1) := by decide +kernel
theorem dL_unitsOf_8 : decode cL_unitsOf 8 = .ok (.goto 6, 3) := by decide +kernel
theorem dL_unitsOf_11 : decode cL_unitsOf 11 = .ok (.astore_n 3, 1) := by decide +kernel
theorem dL_unitsOf_12 : decode cL_unitsOf 12 = .ok (.iconst 1, 1) := by decide +kernel
theorem dL_unitsOf_13 : decode cL_unitsOf 13 = .ok (.ireturn, 1) := by decide +kernel
theorem dL_unitsOf_14 : decode cL_unitsOf 14 = .ok (.iconst 0, 1) := by decide +kernel
theorem dL_unitsOf_15 : decode cL_unitsOf 15 = .ok (.ireturn, 1) := by decide +kernel
theorem dL_holding_0 : decode cL_holding 0 = .ok (.aload_n 3, 1) := by decide +kernel
theorem dL_holding_1 : decode cL_holding 1 = .ok (.iconst 0, 1) := by decide +kernel
theorem dL_holding_2 : decode cL_holding 2 = .ok (.aload_n 0, 1) := by decide +kernel
theorem dL_holding_3 : decode cL_holding 3 = .ok (.iload_n 1, 1) := by decide +kernel
theorem dL_holding_4 : decode cL_holding 4 = .ok (.iload_n 2, 1) := by decide +kernel
theorem dL_holding_5 : decode cL_holding 5 = .ok (.invokevirtual 69, 3) := by decide +kernel
theorem dL_holding_8 : decode cL_holding 8 = .ok (.lastore, 1) := by decide +kernel
theorem dL_holding_9 : decode cL_holding 9 = .ok (.goto 7, 3) := by decide +kernel
theorem dL_holding_12 : decode cL_holding 12 = .ok (.astore 4, 2) := by decide +kernel
theorem dL_holding_14 : decode cL_holding 14 = .ok (.iconst 1, 1) := by decide +kernel
theorem dL_holding_15 : decode cL_holding 15 = .ok (.ireturn, 1) := by decide +kernel
theorem dL_holding_16 : decode cL_holding 16 = .ok (.iconst 0, 1) := by decide +kernel
theorem dL_holding_17 : decode cL_holding 17 = .ok (.ireturn, 1) := by decide +kernel
theorem dL_valueOf_0 : decode cL_valueOf 0 = .ok (.aload_n 2, 1) := by decide +kernel
theorem dL_valueOf_1 : decode cL_valueOf 1 = .ok (.iconst 0, 1) := by decide +kernel
theorem dL_valueOf_2 : decode cL_valueOf 2 = .ok (.aload_n 0, 1) := by decide +kernel
theorem dL_valueOf_3 : decode cL_valueOf 3 = .ok (.iload_n 1, 1) := by decide +kernel
theorem dL_valueOf_4 : decode cL_valueOf 4 = .ok (.invokevirtual 72, 3) := by decide +kernel
theorem dL_valueOf_7 : decode cL_valueOf 7 = .ok (.lastore, 1) := by decide +kernel
theorem dL_valueOf_8 : decode cL_valueOf 8 = .ok (.goto 6, 3) := by decide +kernel
theorem dL_valueOf_11 : decode cL_valueOf 11 = .ok (.astore_n 3, 1) := by decide +kernel
theorem dL_valueOf_12 : decode cL_valueOf 12 = .ok (.iconst 1, 1) := by decide +kernel
theorem dL_valueOf_13 : decode cL_valueOf 13 = .ok (.ireturn, 1) := by decide +kernel
theorem dL_valueOf_14 : decode cL_valueOf 14 = .ok (.iconst 0, 1) := by decide +kernel
theorem dL_valueOf_15 : decode cL_valueOf 15 = .ok (.ireturn, 1) := by decide +kernel
theorem dL_richest_0 : decode cL_richest 0 = .ok (.aload_n 2, 1) := by decide +kernel
theorem dL_richest_1 : decode cL_richest 1 = .ok (.iconst 0, 1) := by decide +kernel
theorem dL_richest_2 : decode cL_richest 2 = .ok (.aload_n 0, 1) := by decide +kernel
theorem dL_richest_3 : decode cL_richest 3 = .ok (.iload_n 1, 1) := by decide +kernel
theorem dL_richest_4 : decode cL_richest 4 = .ok (.invokevirtual 75, 3) := by decide +kernel
theorem dL_richest_7 : decode cL_richest 7 = .ok (.i2l, 1) := by decide +kernel
theorem dL_richest_8 : decode cL_richest 8 = .ok (.lastore, 1) := by decide +kernel
theorem dL_richest_9 : decode cL_richest 9 = .ok (.goto 6, 3) := by decide +kernel
theorem dL_richest_12 : decode cL_richest 12 = .ok (.astore_n 3, 1) := by decide +kernel
theorem dL_richest_13 : decode cL_richest 13 = .ok (.iconst 1, 1) := by decide +kernel
theorem dL_richest_14 : decode cL_richest 14 = .ok (.ireturn, 1) := by decide +kernel
theorem dL_richest_15 : decode cL_richest 15 = .ok (.iconst 0, 1) := by decide +kernel
theorem dL_richest_16 : decode cL_richest 16 = .ok (.ireturn, 1) := by decide +kernel
theorem dL_share_0 : decode cL_share 0 = .ok (.aload_n 2, 1) := by decide +kernel
theorem dL_share_1 : decode cL_share 1 = .ok (.iconst 0, 1) := by decide +kernel
theorem dL_share_2 : decode cL_share 2 = .ok (.aload_n 0, 1) := by decide +kernel
theorem dL_share_3 : decode cL_share 3 = .ok (.iload_n 1, 1) := by decide +kernel
theorem dL_share_4 : decode cL_share 4 = .ok (.invokevirtual 78, 3) := by decide +kernel
theorem dL_share_7 : decode cL_share 7 = .ok (.dastore, 1) := by decide +kernel
theorem dL_share_8 : decode cL_share 8 = .ok (.goto 9, 3) := by decide +kernel
theorem dL_share_11 : decode cL_share 11 = .ok (.astore_n 3, 1) := by decide +kernel
theorem dL_share_12 : decode cL_share 12 = .ok (.iconst 1, 1) := by decide +kernel
theorem dL_share_13 : decode cL_share 13 = .ok (.ireturn, 1) := by decide +kernel
theorem dL_share_14 : decode cL_share 14 = .ok (.astore_n 3, 1) := by decide +kernel
theorem dL_share_15 : decode cL_share 15 = .ok (.iconst 2, 1) := by decide +kernel
theorem dL_share_16 : decode cL_share 16 = .ok (.ireturn, 1) := by decide +kernel
theorem dL_share_17 : decode cL_share 17 = .ok (.iconst 0, 1) := by decide +kernel
theorem dL_share_18 : decode cL_share 18 = .ok (.ireturn, 1) := by decide +kernel
theorem dL_wouldRedeem_0 : decode cL_wouldRedeem 0 = .ok (.aload_n 2, 1) := by decide +kernel
theorem dL_wouldRedeem_1 : decode cL_wouldRedeem 1 = .ok (.iconst 0, 1) := by decide +kernel
theorem dL_wouldRedeem_2 : decode cL_wouldRedeem 2 = .ok (.aload_n 0, 1) := by decide +kernel
theorem dL_wouldRedeem_3 : decode cL_wouldRedeem 3 = .ok (.iload_n 1, 1) := by decide +kernel
theorem dL_wouldRedeem_4 : decode cL_wouldRedeem 4 = .ok (.invokevirtual 84, 3) := by decide +kernel
theorem dL_wouldRedeem_7 : decode cL_wouldRedeem 7 = .ok (.lastore, 1) := by decide +kernel
theorem dL_wouldRedeem_8 : decode cL_wouldRedeem 8 = .ok (.goto 6, 3) := by decide +kernel
theorem dL_wouldRedeem_11 : decode cL_wouldRedeem 11 = .ok (.astore_n 3, 1) := by decide +kernel
theorem dL_wouldRedeem_12 : decode cL_wouldRedeem 12 = .ok (.iconst 1, 1) := by decide +kernel
theorem dL_wouldRedeem_13 : decode cL_wouldRedeem 13 = .ok (.ireturn, 1) := by decide +kernel
theorem dL_wouldRedeem_14 : decode cL_wouldRedeem 14 = .ok (.iconst 0, 1) := by decide +kernel
theorem dL_wouldRedeem_15 : decode cL_wouldRedeem 15 = .ok (.ireturn, 1) := by decide +kernel
theorem dL_dealsUntilDone_0 : decode cL_dealsUntilDone 0 = .ok (.aload_n 2, 1) := by decide +kernel
theorem dL_dealsUntilDone_1 : decode cL_dealsUntilDone 1 = .ok (.iconst 0, 1) := by decide +kernel
theorem dL_dealsUntilDone_2 : decode cL_dealsUntilDone 2 = .ok (.aload_n 0, 1) := by decide +kernel
theorem dL_dealsUntilDone_3 : decode cL_dealsUntilDone 3 = .ok (.iload_n 1, 1) := by decide +kernel
theorem dL_dealsUntilDone_4 : decode cL_dealsUntilDone 4 = .ok (.invokevirtual 87, 3) := by decide +kernel
theorem dL_dealsUntilDone_7 : decode cL_dealsUntilDone 7 = .ok (.i2l, 1) := by decide +kernel
theorem dL_dealsUntilDone_8 : decode cL_dealsUntilDone 8 = .ok (.lastore, 1) := by decide +kernel
theorem dL_dealsUntilDone_9 : decode cL_dealsUntilDone 9 = .ok (.goto 6, 3) := by decide +kernel
theorem dL_dealsUntilDone_12 : decode cL_dealsUntilDone 12 = .ok (.astore_n 3, 1) := by decide +kernel
theorem dL_dealsUntilDone_13 : decode cL_dealsUntilDone 13 = .ok (.iconst 1, 1) := by decide +kernel
theorem dL_dealsUntilDone_14 : decode cL_dealsUntilDone 14 = .ok (.ireturn, 1) := by decide +kernel
theorem dL_dealsUntilDone_15 : decode cL_dealsUntilDone 15 = .ok (.iconst 0, 1) := by decide +kernel
theorem dL_dealsUntilDone_16 : decode cL_dealsUntilDone 16 = .ok (.ireturn, 1) := by decide +kernel
theorem dL_feesIf_0 : decode cL_feesIf 0 = .ok (.aload_n 2, 1) := by decide +kernel
theorem dL_feesIf_1 : decode cL_feesIf 1 = .ok (.iconst 0, 1) := by decide +kernel
theorem dL_feesIf_2 : decode cL_feesIf 2 = .ok (.aload_n 0, 1) := by decide +kernel
theorem dL_feesIf_3 : decode cL_feesIf 3 = .ok (.iload_n 1, 1) := by decide +kernel
theorem dL_feesIf_4 : decode cL_feesIf 4 = .ok (.invokevirtual 90, 3) := by decide +kernel
theorem dL_feesIf_7 : decode cL_feesIf 7 = .ok (.lastore, 1) := by decide +kernel
theorem dL_feesIf_8 : decode cL_feesIf 8 = .ok (.goto 6, 3) := by decide +kernel
theorem dL_feesIf_11 : decode cL_feesIf 11 = .ok (.astore_n 3, 1) := by decide +kernel
theorem dL_feesIf_12 : decode cL_feesIf 12 = .ok (.iconst 1, 1) := by decide +kernel
theorem dL_feesIf_13 : decode cL_feesIf 13 = .ok (.ireturn, 1) := by decide +kernel
theorem dL_feesIf_14 : decode cL_feesIf 14 = .ok (.iconst 0, 1) := by decide +kernel
theorem dL_feesIf_15 : decode cL_feesIf 15 = .ok (.ireturn, 1) := by decide +kernel
theorem dL_breakEven_0 : decode cL_breakEven 0 = .ok (.aload_n 2, 1) := by decide +kernel
theorem dL_breakEven_1 : decode cL_breakEven 1 = .ok (.iconst 0, 1) := by decide +kernel
theorem dL_breakEven_2 : decode cL_breakEven 2 = .ok (.aload_n 0, 1) := by decide +kernel
theorem dL_breakEven_3 : decode cL_breakEven 3 = .ok (.iload_n 1, 1) := by decide +kernel
theorem dL_breakEven_4 : decode cL_breakEven 4 = .ok (.invokevirtual 93, 3) := by decide +kernel
theorem dL_breakEven_7 : decode cL_breakEven 7 = .ok (.i2l, 1) := by decide +kernel
theorem dL_breakEven_8 : decode cL_breakEven 8 = .ok (.lastore, 1) := by decide +kernel
theorem dL_breakEven_9 : decode cL_breakEven 9 = .ok (.goto 9, 3) := by decide +kernel
theorem dL_breakEven_12 : decode cL_breakEven 12 = .ok (.astore_n 3, 1) := by decide +kernel
theorem dL_breakEven_13 : decode cL_breakEven 13 = .ok (.iconst 1, 1) := by decide +kernel
theorem dL_breakEven_14 : decode cL_breakEven 14 = .ok (.ireturn, 1) := by decide +kernel
theorem dL_breakEven_15 : decode cL_breakEven 15 = .ok (.astore_n 3, 1) := by decide +kernel
theorem dL_breakEven_16 : decode cL_breakEven 16 = .ok (.iconst 2, 1) := by decide +kernel
theorem dL_breakEven_17 : decode cL_breakEven 17 = .ok (.ireturn, 1) := by decide +kernel
theorem dL_breakEven_18 : decode cL_breakEven 18 = .ok (.iconst 0, 1) := by decide +kernel
theorem dL_breakEven_19 : decode cL_breakEven 19 = .ok (.ireturn, 1) := by decide +kernel
theorem dL_rateFor_0 : decode cL_rateFor 0 = .ok (.aload 4, 2) := by decide +kernel
theorem dL_rateFor_2 : decode cL_rateFor 2 = .ok (.iconst 0, 1) := by decide +kernel
theorem dL_rateFor_3 : decode cL_rateFor 3 = .ok (.aload_n 0, 1) := by decide +kernel
theorem dL_rateFor_4 : decode cL_rateFor 4 = .ok (.iload_n 1, 1) := by decide +kernel
theorem dL_rateFor_5 : decode cL_rateFor 5 = .ok (.lload_n 2, 1) := by decide +kernel
theorem dL_rateFor_6 : decode cL_rateFor 6 = .ok (.invokevirtual 98, 3) := by decide +kernel
theorem dL_rateFor_9 : decode cL_rateFor 9 = .ok (.i2l, 1) := by decide +kernel
theorem dL_rateFor_10 : decode cL_rateFor 10 = .ok (.lastore, 1) := by decide +kernel
theorem dL_rateFor_11 : decode cL_rateFor 11 = .ok (.goto 11, 3) := by decide +kernel
theorem dL_rateFor_14 : decode cL_rateFor 14 = .ok (.astore 5, 2) := by decide +kernel
theorem dL_rateFor_16 : decode cL_rateFor 16 = .ok (.iconst 1, 1) := by decide +kernel
theorem dL_rateFor_17 : decode cL_rateFor 17 = .ok (.ireturn, 1) := by decide +kernel
theorem dL_rateFor_18 : decode cL_rateFor 18 = .ok (.astore 5, 2) := by decide +kernel
theorem dL_rateFor_20 : decode cL_rateFor 20 = .ok (.iconst 2, 1) := by decide +kernel
theorem dL_rateFor_21 : decode cL_rateFor 21 = .ok (.ireturn, 1) := by decide +kernel
theorem dL_rateFor_22 : decode cL_rateFor 22 = .ok (.iconst 0, 1) := by decide +kernel
theorem dL_rateFor_23 : decode cL_rateFor 23 = .ok (.ireturn, 1) := by decide +kernel
theorem dL_daysUntil_0 : decode cL_daysUntil 0 = .ok (.aload_n 3, 1) := by decide +kernel
theorem dL_daysUntil_1 : decode cL_daysUntil 1 = .ok (.iconst 0, 1) := by decide +kernel
theorem dL_daysUntil_2 : decode cL_daysUntil 2 = .ok (.aload_n 0, 1) := by decide +kernel
theorem dL_daysUntil_3 : decode cL_daysUntil 3 = .ok (.lload_n 1, 1) := by decide +kernel
theorem dL_daysUntil_4 : decode cL_daysUntil 4 = .ok (.invokevirtual 102, 3) := by decide +kernel
theorem dL_daysUntil_7 : decode cL_daysUntil 7 = .ok (.i2l, 1) := by decide +kernel
theorem dL_daysUntil_8 : decode cL_daysUntil 8 = .ok (.lastore, 1) := by decide +kernel
theorem dL_daysUntil_9 : decode cL_daysUntil 9 = .ok (.goto 7, 3) := by decide +kernel
theorem dL_daysUntil_12 : decode cL_daysUntil 12 = .ok (.astore 4, 2) := by decide +kernel
theorem dL_daysUntil_14 : decode cL_daysUntil 14 = .ok (.iconst 1, 1) := by decide +kernel
theorem dL_daysUntil_15 : decode cL_daysUntil 15 = .ok (.ireturn, 1) := by decide +kernel
theorem dL_daysUntil_16 : decode cL_daysUntil 16 = .ok (.iconst 0, 1) := by decide +kernel
theorem dL_daysUntil_17 : decode cL_daysUntil 17 = .ok (.ireturn, 1) := by decide +kernel
theorem dL_bestGate_0 : decode cL_bestGate 0 = .ok (.aload_n 2, 1) := by decide +kernel
theorem dL_bestGate_1 : decode cL_bestGate 1 = .ok (.iconst 0, 1) := by decide +kernel
theorem dL_bestGate_2 : decode cL_bestGate 2 = .ok (.aload_n 0, 1) := by decide +kernel
theorem dL_bestGate_3 : decode cL_bestGate 3 = .ok (.iload_n 1, 1) := by decide +kernel
theorem dL_bestGate_4 : decode cL_bestGate 4 = .ok (.invokevirtual 106, 3) := by decide +kernel
theorem dL_bestGate_7 : decode cL_bestGate 7 = .ok (.i2l, 1) := by decide +kernel
theorem dL_bestGate_8 : decode cL_bestGate 8 = .ok (.lastore, 1) := by decide +kernel
theorem dL_bestGate_9 : decode cL_bestGate 9 = .ok (.goto 6, 3) := by decide +kernel
theorem dL_bestGate_12 : decode cL_bestGate 12 = .ok (.astore_n 3, 1) := by decide +kernel
theorem dL_bestGate_13 : decode cL_bestGate 13 = .ok (.iconst 1, 1) := by decide +kernel
theorem dL_bestGate_14 : decode cL_bestGate 14 = .ok (.ireturn, 1) := by decide +kernel
theorem dL_bestGate_15 : decode cL_bestGate 15 = .ok (.iconst 0, 1) := by decide +kernel
theorem dL_bestGate_16 : decode cL_bestGate 16 = .ok (.ireturn, 1) := by decide +kernel
theorem dL_reportByte_0 : decode cL_reportByte 0 = .ok (.aload_n 2, 1) := by decide +kernel
theorem dL_reportByte_1 : decode cL_reportByte 1 = .ok (.iconst 0, 1) := by decide +kernel
theorem dL_reportByte_2 : decode cL_reportByte 2 = .ok (.aload_n 0, 1) := by decide +kernel
theorem dL_reportByte_3 : decode cL_reportByte 3 = .ok (.iload_n 1, 1) := by decide +kernel
theorem dL_reportByte_4 : decode cL_reportByte 4 = .ok (.invokevirtual 109, 3) := by decide +kernel
theorem dL_reportByte_7 : decode cL_reportByte 7 = .ok (.i2l, 1) := by decide +kernel
theorem dL_reportByte_8 : decode cL_reportByte 8 = .ok (.lastore, 1) := by decide +kernel
theorem dL_reportByte_9 : decode cL_reportByte 9 = .ok (.goto 6, 3) := by decide +kernel
theorem dL_reportByte_12 : decode cL_reportByte 12 = .ok (.astore_n 3, 1) := by decide +kernel
theorem dL_reportByte_13 : decode cL_reportByte 13 = .ok (.iconst 1, 1) := by decide +kernel
theorem dL_reportByte_14 : decode cL_reportByte 14 = .ok (.ireturn, 1) := by decide +kernel
theorem dL_reportByte_15 : decode cL_reportByte 15 = .ok (.iconst 0, 1) := by decide +kernel
theorem dL_reportByte_16 : decode cL_reportByte 16 = .ok (.ireturn, 1) := by decide +kernel
theorem dL_undo_0 : decode cL_undo 0 = .ok (.aload_n 1, 1) := by decide +kernel
theorem dL_undo_1 : decode cL_undo 1 = .ok (.iconst 0, 1) := by decide +kernel
theorem dL_undo_2 : decode cL_undo 2 = .ok (.aload_n 0, 1) := by decide +kernel
theorem dL_undo_3 : decode cL_undo 3 = .ok (.invokevirtual 112, 3) := by decide +kernel
theorem dL_undo_6 : decode cL_undo 6 = .ok (.i2l, 1) := by decide +kernel
theorem dL_undo_7 : decode cL_undo 7 = .ok (.lastore, 1) := by decide +kernel
theorem dL_undo_8 : decode cL_undo 8 = .ok (.goto 6, 3) := by decide +kernel
theorem dL_undo_11 : decode cL_undo 11 = .ok (.astore_n 2, 1) := by decide +kernel
theorem dL_undo_12 : decode cL_undo 12 = .ok (.iconst 1, 1) := by decide +kernel
theorem dL_undo_13 : decode cL_undo 13 = .ok (.ireturn, 1) := by decide +kernel
theorem dL_undo_14 : decode cL_undo 14 = .ok (.iconst 0, 1) := by decide +kernel
theorem dL_undo_15 : decode cL_undo 15 = .ok (.ireturn, 1) := by decide +kernel
