theorem d_La_campaign_0 : decode method_3_code 0 = .ok (.aload_n 2, 1) := by decide +kernel
theorem d_La_campaign_1 : decode method_3_code 1 = .ok (.iconst 0, 1) := by decide +kernel
theorem d_La_campaign_2 : decode method_3_code 2 = .ok (.aload_n 0, 1) := by decide +kernel
theorem d_La_campaign_3 : decode method_3_code 3 = .ok (.iload_n 1, 1) := by decide +kernel
theorem d_La_campaign_4 : decode method_3_code 4 = .ok (.invokevirtual 7, 3) := by decide +kernel
theorem d_La_campaign_7 : decode method_3_code 7 = .ok (.i2l, 1) := by decide +kernel
theorem d_La_campaign_8 : decode method_3_code 8 = .ok (.lastore, 1) := by decide +kernel
theorem d_La_campaign_9 : decode method_3_code 9 = .ok (.goto 6, 3) := by decide +kernel
theorem d_La_campaign_12 : decode method_3_code 12 = .ok (.astore_n 3, 1) := by decide +kernel
theorem d_La_campaign_13 : decode method_3_code 13 = .ok (.iconst 1, 1) := by decide +kernel
theorem d_La_campaign_14 : decode method_3_code 14 = .ok (.ireturn, 1) := by decide +kernel
theorem d_La_campaign_15 : decode method_3_code 15 = .ok (.iconst 0, 1) := by decide +kernel
theorem d_La_campaign_16 : decode method_3_code 16 = .ok (.ireturn, 1) := by decide +kernel
theorem d_La_propose_0 : decode method_4_code 0 = .ok (.aload_n 2, 1) := by decide +kernel
theorem d_La_propose_1 : decode method_4_code 1 = .ok (.iconst 0, 1) := by decide +kernel
theorem d_La_propose_2 : decode method_4_code 2 = .ok (.aload_n 0, 1) := by decide +kernel
theorem d_La_propose_3 : decode method_4_code 3 = .ok (.iload_n 1, 1) := by decide +kernel
theorem d_La_propose_4 : decode method_4_code 4 = .ok (.invokevirtual 15, 3) := by decide +kernel
theorem d_La_propose_7 : decode method_4_code 7 = .ok (.i2l, 1) := by decide +kernel
theorem d_La_propose_8 : decode method_4_code 8 = .ok (.lastore, 1) := by decide +kernel
theorem d_La_propose_9 : decode method_4_code 9 = .ok (.goto 9, 3) := by decide +kernel
theorem d_La_propose_12 : decode method_4_code 12 = .ok (.astore_n 3, 1) := by decide +kernel
theorem d_La_propose_13 : decode method_4_code 13 = .ok (.iconst 1, 1) := by decide +kernel
theorem d_La_propose_14 : decode method_4_code 14 = .ok (.ireturn, 1) := by decide +kernel
theorem d_La_propose_15 : decode method_4_code 15 = .ok (.astore_n 3, 1) := by decide +kernel
theorem d_La_propose_16 : decode method_4_code 16 = .ok (.iconst 2, 1) := by decide +kernel
theorem d_La_propose_17 : decode method_4_code 17 = .ok (.ireturn, 1) := by decide +kernel
theorem d_La_propose_18 : decode method_4_code 18 = .ok (.iconst 0, 1) := by decide +kernel
theorem d_La_propose_19 : decode method_4_code 19 = .ok (.ireturn, 1) := by decide +kernel
theorem d_La_resend_0 : decode method_5_code 0 = .ok (.aload_n 2, 1) := by decide +kernel
theorem d_La_resend_1 : decode method_5_code 1 = .ok (.iconst 0, 1) := by decide +kernel
theorem d_La_resend_2 : decode method_5_code 2 = .ok (.aload_n 0, 1) := by decide +kernel
theorem d_La_resend_3 : decode method_5_code 3 = .ok (.iload_n 1, 1) := by decide +kernel
theorem d_La_resend_4 : decode method_5_code 4 = .ok (.invokevirtual 20, 3) := by decide +kernel
theorem d_La_resend_7 : decode method_5_code 7 = .ok (.i2l, 1) := by decide +kernel
theorem d_La_resend_8 : decode method_5_code 8 = .ok (.lastore, 1) := by decide +kernel
theorem d_La_resend_9 : decode method_5_code 9 = .ok (.goto 6, 3) := by decide +kernel
theorem d_La_resend_12 : decode method_5_code 12 = .ok (.astore_n 3, 1) := by decide +kernel
theorem d_La_resend_13 : decode method_5_code 13 = .ok (.iconst 1, 1) := by decide +kernel
theorem d_La_resend_14 : decode method_5_code 14 = .ok (.ireturn, 1) := by decide +kernel
theorem d_La_resend_15 : decode method_5_code 15 = .ok (.iconst 0, 1) := by decide +kernel
theorem d_La_resend_16 : decode method_5_code 16 = .ok (.ireturn, 1) := by decide +kernel
theorem d_La_deliver_0 : decode method_6_code 0 = .ok (.aload_n 2, 1) := by decide +kernel
theorem d_La_deliver_1 : decode method_6_code 1 = .ok (.iconst 0, 1) := by decide +kernel
theorem d_La_deliver_2 : decode method_6_code 2 = .ok (.aload_n 0, 1) := by decide +kernel
theorem d_La_deliver_3 : decode method_6_code 3 = .ok (.iload_n 1, 1) := by decide +kernel
theorem d_La_deliver_4 : decode method_6_code 4 = .ok (.invokevirtual 23, 3) := by decide +kernel
theorem d_La_deliver_7 : decode method_6_code 7 = .ok (.i2l, 1) := by decide +kernel
theorem d_La_deliver_8 : decode method_6_code 8 = .ok (.lastore, 1) := by decide +kernel
theorem d_La_deliver_9 : decode method_6_code 9 = .ok (.goto 6, 3) := by decide +kernel
theorem d_La_deliver_12 : decode method_6_code 12 = .ok (.astore_n 3, 1) := by decide +kernel
theorem d_La_deliver_13 : decode method_6_code 13 = .ok (.iconst 1, 1) := by decide +kernel
theorem d_La_deliver_14 : decode method_6_code 14 = .ok (.ireturn, 1) := by decide +kernel
theorem d_La_deliver_15 : decode method_6_code 15 = .ok (.iconst 0, 1) := by decide +kernel
theorem d_La_deliver_16 : decode method_6_code 16 = .ok (.ireturn, 1) := by decide +kernel
theorem d_La_drop_0 : decode method_7_code 0 = .ok (.aload_n 0, 1) := by decide +kernel
theorem d_La_drop_1 : decode method_7_code 1 = .ok (.iload_n 1, 1) := by decide +kernel
theorem d_La_drop_2 : decode method_7_code 2 = .ok (.invokevirtual 28, 3) := by decide +kernel
theorem d_La_drop_5 : decode method_7_code 5 = .ok (.goto 6, 3) := by decide +kernel
theorem d_La_drop_8 : decode method_7_code 8 = .ok (.astore_n 2, 1) := by decide +kernel
theorem d_La_drop_9 : decode method_7_code 9 = .ok (.iconst 1, 1) := by decide +kernel
theorem d_La_drop_10 : decode method_7_code 10 = .ok (.ireturn, 1) := by decide +kernel
theorem d_La_drop_11 : decode method_7_code 11 = .ok (.iconst 0, 1) := by decide +kernel
theorem d_La_drop_12 : decode method_7_code 12 = .ok (.ireturn, 1) := by decide +kernel
theorem d_La_twin_0 : decode method_8_code 0 = .ok (.aload_n 0, 1) := by decide +kernel
theorem d_La_twin_1 : decode method_8_code 1 = .ok (.iload_n 1, 1) := by decide +kernel
theorem d_La_twin_2 : decode method_8_code 2 = .ok (.invokevirtual 32, 3) := by decide +kernel
theorem d_La_twin_5 : decode method_8_code 5 = .ok (.goto 9, 3) := by decide +kernel
theorem d_La_twin_8 : decode method_8_code 8 = .ok (.astore_n 2, 1) := by decide +kernel
theorem d_La_twin_9 : decode method_8_code 9 = .ok (.iconst 1, 1) := by decide +kernel
theorem d_La_twin_10 : decode method_8_code 10 = .ok (.ireturn, 1) := by decide +kernel
theorem d_La_twin_11 : decode method_8_code 11 = .ok (.astore_n 2, 1) := by decide +kernel
theorem d_La_twin_12 : decode method_8_code 12 = .ok (.iconst 2, 1) := by decide +kernel
theorem d_La_twin_13 : decode method_8_code 13 = .ok (.ireturn, 1) := by decide +kernel
theorem d_La_twin_14 : decode method_8_code 14 = .ok (.iconst 0, 1) := by decide +kernel
theorem d_La_twin_15 : decode method_8_code 15 = .ok (.ireturn, 1) := by decide +kernel
theorem d_La_letter_0 : decode method_9_code 0 = .ok (.aload_n 3, 1) := by decide +kernel
theorem d_La_letter_1 : decode method_9_code 1 = .ok (.iconst 0, 1) := by decide +kernel
theorem d_La_letter_2 : decode method_9_code 2 = .ok (.aload_n 0, 1) := by decide +kernel
theorem d_La_letter_3 : decode method_9_code 3 = .ok (.iload_n 1, 1) := by decide +kernel
theorem d_La_letter_4 : decode method_9_code 4 = .ok (.iload_n 2, 1) := by decide +kernel
theorem d_La_letter_5 : decode method_9_code 5 = .ok (.invokevirtual 35, 3) := by decide +kernel
theorem d_La_letter_8 : decode method_9_code 8 = .ok (.i2l, 1) := by decide +kernel
theorem d_La_letter_9 : decode method_9_code 9 = .ok (.lastore, 1) := by decide +kernel
theorem d_La_letter_10 : decode method_9_code 10 = .ok (.goto 11, 3) := by decide +kernel
theorem d_La_letter_13 : decode method_9_code 13 = .ok (.astore 4, 2) := by decide +kernel
theorem d_La_letter_15 : decode method_9_code 15 = .ok (.iconst 1, 1) := by decide +kernel
theorem d_La_letter_16 : decode method_9_code 16 = .ok (.ireturn, 1) := by decide +kernel
theorem d_La_letter_17 : decode method_9_code 17 = .ok (.astore 4, 2) := by decide +kernel
theorem d_La_letter_19 : decode method_9_code 19 = .ok (.iconst 2, 1) := by decide +kernel
theorem d_La_letter_20 : decode method_9_code 20 = .ok (.ireturn, 1) := by decide +kernel
theorem d_La_letter_21 : decode method_9_code 21 = .ok (.iconst 0, 1) := by decide +kernel
theorem d_La_letter_22 : decode method_9_code 22 = .ok (.ireturn, 1) := by decide +kernel
theorem d_La_up_0 : decode method_10_code 0 = .ok (.aload_n 3, 1) := by decide +kernel
theorem d_La_up_1 : decode method_10_code 1 = .ok (.iconst 0, 1) := by decide +kernel
theorem d_La_up_2 : decode method_10_code 2 = .ok (.aload_n 0, 1) := by decide +kernel
theorem d_La_up_3 : decode method_10_code 3 = .ok (.iload_n 1, 1) := by decide +kernel
theorem d_La_up_4 : decode method_10_code 4 = .ok (.iload_n 2, 1) := by decide +kernel
theorem d_La_up_5 : decode method_10_code 5 = .ok (.invokevirtual 39, 3) := by decide +kernel
theorem d_La_up_8 : decode method_10_code 8 = .ok (.ifCond .eq 7, 3) := by decide +kernel
theorem d_La_up_11 : decode method_10_code 11 = .ok (.lconst 1, 1) := by decide +kernel
theorem d_La_up_12 : decode method_10_code 12 = .ok (.goto 4, 3) := by decide +kernel
theorem d_La_up_15 : decode method_10_code 15 = .ok (.lconst 0, 1) := by decide +kernel
theorem d_La_up_16 : decode method_10_code 16 = .ok (.lastore, 1) := by decide +kernel
theorem d_La_up_17 : decode method_10_code 17 = .ok (.goto 7, 3) := by decide +kernel
theorem d_La_up_20 : decode method_10_code 20 = .ok (.astore 4, 2) := by decide +kernel
theorem d_La_up_22 : decode method_10_code 22 = .ok (.iconst 1, 1) := by decide +kernel
theorem d_La_up_23 : decode method_10_code 23 = .ok (.ireturn, 1) := by decide +kernel
theorem d_La_up_24 : decode method_10_code 24 = .ok (.iconst 0, 1) := by decide +kernel
theorem d_La_up_25 : decode method_10_code 25 = .ok (.ireturn, 1) := by decide +kernel
theorem d_La_wipe_0 : decode method_11_code 0 = .ok (.aload_n 0, 1) := by decide +kernel
theorem d_La_wipe_1 : decode method_11_code 1 = .ok (.iload_n 1, 1) := by decide +kernel
theorem d_La_wipe_2 : decode method_11_code 2 = .ok (.invokevirtual 43, 3) := by decide +kernel
theorem d_La_wipe_5 : decode method_11_code 5 = .ok (.goto 6, 3) := by decide +kernel
theorem d_La_wipe_8 : decode method_11_code 8 = .ok (.astore_n 2, 1) := by decide +kernel
theorem d_La_wipe_9 : decode method_11_code 9 = .ok (.iconst 1, 1) := by decide +kernel
theorem d_La_wipe_10 : decode method_11_code 10 = .ok (.ireturn, 1) := by decide +kernel
theorem d_La_wipe_11 : decode method_11_code 11 = .ok (.iconst 0, 1) := by decide +kernel
theorem d_La_wipe_12 : decode method_11_code 12 = .ok (.ireturn, 1) := by decide +kernel
theorem d_La_catchUp_0 : decode method_12_code 0 = .ok (.aload_n 3, 1) := by decide +kernel
theorem d_La_catchUp_1 : decode method_12_code 1 = .ok (.iconst 0, 1) := by decide +kernel
theorem d_La_catchUp_2 : decode method_12_code 2 = .ok (.aload_n 0, 1) := by decide +kernel
theorem d_La_catchUp_3 : decode method_12_code 3 = .ok (.iload_n 1, 1) := by decide +kernel
theorem d_La_catchUp_4 : decode method_12_code 4 = .ok (.iload_n 2, 1) := by decide +kernel
theorem d_La_catchUp_5 : decode method_12_code 5 = .ok (.invokevirtual 46, 3) := by decide +kernel
theorem d_La_catchUp_8 : decode method_12_code 8 = .ok (.i2l, 1) := by decide +kernel
theorem d_La_catchUp_9 : decode method_12_code 9 = .ok (.lastore, 1) := by decide +kernel
theorem d_La_catchUp_10 : decode method_12_code 10 = .ok (.goto 11, 3) := by decide +kernel
theorem d_La_catchUp_13 : decode method_12_code 13 = .ok (.astore 4, 2) := by decide +kernel
theorem d_La_catchUp_15 : decode method_12_code 15 = .ok (.iconst 1, 1) := by decide +kernel
theorem d_La_catchUp_16 : decode method_12_code 16 = .ok (.ireturn, 1) := by decide +kernel
theorem d_La_catchUp_17 : decode method_12_code 17 = .ok (.astore 4, 2) := by decide +kernel
theorem d_La_catchUp_19 : decode method_12_code 19 = .ok (.iconst 2, 1) := by decide +kernel
theorem d_La_catchUp_20 : decode method_12_code 20 = .ok (.ireturn, 1) := by decide +kernel
theorem d_La_catchUp_21 : decode method_12_code 21 = .ok (.iconst 0, 1) := by decide +kernel
theorem d_La_catchUp_22 : decode method_12_code 22 = .ok (.ireturn, 1) := by decide +kernel
theorem d_La_decided_0 : decode method_13_code 0 = .ok (.aload_n 3, 1) := by decide +kernel
theorem d_La_decided_1 : decode method_13_code 1 = .ok (.iconst 0, 1) := by decide +kernel
theorem d_La_decided_2 : decode method_13_code 2 = .ok (.aload_n 0, 1) := by decide +kernel
theorem d_La_decided_3 : decode method_13_code 3 = .ok (.iload_n 1, 1) := by decide +kernel
theorem d_La_decided_4 : decode method_13_code 4 = .ok (.iload_n 2, 1) := by decide +kernel
theorem d_La_decided_5 : decode method_13_code 5 = .ok (.invokevirtual 49, 3) := by decide +kernel
theorem d_La_decided_8 : decode method_13_code 8 = .ok (.i2l, 1) := by decide +kernel
theorem d_La_decided_9 : decode method_13_code 9 = .ok (.lastore, 1) := by decide +kernel
theorem d_La_decided_10 : decode method_13_code 10 = .ok (.goto 7, 3) := by decide +kernel
theorem d_La_decided_13 : decode method_13_code 13 = .ok (.astore 4, 2) := by decide +kernel
theorem d_La_decided_15 : decode method_13_code 15 = .ok (.iconst 1, 1) := by decide +kernel
theorem d_La_decided_16 : decode method_13_code 16 = .ok (.ireturn, 1) := by decide +kernel
theorem d_La_decided_17 : decode method_13_code 17 = .ok (.iconst 0, 1) := by decide +kernel
theorem d_La_decided_18 : decode method_13_code 18 = .ok (.ireturn, 1) := by decide +kernel
theorem d_La_read_0 : decode method_14_code 0 = .ok (.aload_n 3, 1) := by decide +kernel
theorem d_La_read_1 : decode method_14_code 1 = .ok (.iconst 0, 1) := by decide +kernel
theorem d_La_read_2 : decode method_14_code 2 = .ok (.aload_n 0, 1) := by decide +kernel
theorem d_La_read_3 : decode method_14_code 3 = .ok (.iload_n 1, 1) := by decide +kernel
theorem d_La_read_4 : decode method_14_code 4 = .ok (.iload_n 2, 1) := by decide +kernel
theorem d_La_read_5 : decode method_14_code 5 = .ok (.invokevirtual 52, 3) := by decide +kernel
theorem d_La_read_8 : decode method_14_code 8 = .ok (.i2l, 1) := by decide +kernel
theorem d_La_read_9 : decode method_14_code 9 = .ok (.lastore, 1) := by decide +kernel
theorem d_La_read_10 : decode method_14_code 10 = .ok (.goto 15, 3) := by decide +kernel
theorem d_La_read_13 : decode method_14_code 13 = .ok (.astore 4, 2) := by decide +kernel
theorem d_La_read_15 : decode method_14_code 15 = .ok (.iconst 1, 1) := by decide +kernel
theorem d_La_read_16 : decode method_14_code 16 = .ok (.ireturn, 1) := by decide +kernel
theorem d_La_read_17 : decode method_14_code 17 = .ok (.astore 4, 2) := by decide +kernel
theorem d_La_read_19 : decode method_14_code 19 = .ok (.iconst 2, 1) := by decide +kernel
theorem d_La_read_20 : decode method_14_code 20 = .ok (.ireturn, 1) := by decide +kernel
theorem d_La_read_21 : decode method_14_code 21 = .ok (.astore 4, 2) := by decide +kernel
theorem d_La_read_23 : decode method_14_code 23 = .ok (.iconst 3, 1) := by decide +kernel
theorem d_La_read_24 : decode method_14_code 24 = .ok (.ireturn, 1) := by decide +kernel
theorem d_La_read_25 : decode method_14_code 25 = .ok (.iconst 0, 1) := by decide +kernel
theorem d_La_read_26 : decode method_14_code 26 = .ok (.ireturn, 1) := by decide +kernel
theorem d_La_readByte_0 : decode method_15_code 0 = .ok (.aload_n 2, 1) := by decide +kernel
theorem d_La_readByte_1 : decode method_15_code 1 = .ok (.iconst 0, 1) := by decide +kernel
theorem d_La_readByte_2 : decode method_15_code 2 = .ok (.aload_n 0, 1) := by decide +kernel
theorem d_La_readByte_3 : decode method_15_code 3 = .ok (.iload_n 1, 1) := by decide +kernel
theorem d_La_readByte_4 : decode method_15_code 4 = .ok (.invokevirtual 57, 3) := by decide +kernel
theorem d_La_readByte_7 : decode method_15_code 7 = .ok (.i2l, 1) := by decide +kernel
theorem d_La_readByte_8 : decode method_15_code 8 = .ok (.lastore, 1) := by decide +kernel
theorem d_La_readByte_9 : decode method_15_code 9 = .ok (.goto 6, 3) := by decide +kernel
theorem d_La_readByte_12 : decode method_15_code 12 = .ok (.astore_n 3, 1) := by decide +kernel
theorem d_La_readByte_13 : decode method_15_code 13 = .ok (.iconst 1, 1) := by decide +kernel
theorem d_La_readByte_14 : decode method_15_code 14 = .ok (.ireturn, 1) := by decide +kernel
theorem d_La_readByte_15 : decode method_15_code 15 = .ok (.iconst 0, 1) := by decide +kernel
theorem d_La_readByte_16 : decode method_15_code 16 = .ok (.ireturn, 1) := by decide +kernel
theorem d_La_state_0 : decode method_16_code 0 = .ok (.aload_n 3, 1) := by decide +kernel
theorem d_La_state_1 : decode method_16_code 1 = .ok (.iconst 0, 1) := by decide +kernel
theorem d_La_state_2 : decode method_16_code 2 = .ok (.aload_n 0, 1) := by decide +kernel
theorem d_La_state_3 : decode method_16_code 3 = .ok (.iload_n 1, 1) := by decide +kernel
theorem d_La_state_4 : decode method_16_code 4 = .ok (.iload_n 2, 1) := by decide +kernel
theorem d_La_state_5 : decode method_16_code 5 = .ok (.invokevirtual 60, 3) := by decide +kernel
theorem d_La_state_8 : decode method_16_code 8 = .ok (.i2l, 1) := by decide +kernel
theorem d_La_state_9 : decode method_16_code 9 = .ok (.lastore, 1) := by decide +kernel
theorem d_La_state_10 : decode method_16_code 10 = .ok (.goto 7, 3) := by decide +kernel
theorem d_La_state_13 : decode method_16_code 13 = .ok (.astore 4, 2) := by decide +kernel
theorem d_La_state_15 : decode method_16_code 15 = .ok (.iconst 1, 1) := by decide +kernel
theorem d_La_state_16 : decode method_16_code 16 = .ok (.ireturn, 1) := by decide +kernel
theorem d_La_state_17 : decode method_16_code 17 = .ok (.iconst 0, 1) := by decide +kernel
theorem d_La_state_18 : decode method_16_code 18 = .ok (.ireturn, 1) := by decide +kernel
theorem d_La_station_0 : decode method_17_code 0 = .ok (.aload_n 3, 1) := by decide +kernel
theorem d_La_station_1 : decode method_17_code 1 = .ok (.iconst 0, 1) := by decide +kernel
theorem d_La_station_2 : decode method_17_code 2 = .ok (.aload_n 0, 1) := by decide +kernel
theorem d_La_station_3 : decode method_17_code 3 = .ok (.iload_n 1, 1) := by decide +kernel
theorem d_La_station_4 : decode method_17_code 4 = .ok (.iload_n 2, 1) := by decide +kernel
theorem d_La_station_5 : decode method_17_code 5 = .ok (.invokevirtual 63, 3) := by decide +kernel
theorem d_La_station_8 : decode method_17_code 8 = .ok (.i2l, 1) := by decide +kernel
theorem d_La_station_9 : decode method_17_code 9 = .ok (.lastore, 1) := by decide +kernel
theorem d_La_station_10 : decode method_17_code 10 = .ok (.goto 7, 3) := by decide +kernel
theorem d_La_station_13 : decode method_17_code 13 = .ok (.astore 4, 2) := by decide +kernel
theorem d_La_station_15 : decode method_17_code 15 = .ok (.iconst 1, 1) := by decide +kernel
theorem d_La_station_16 : decode method_17_code 16 = .ok (.ireturn, 1) := by decide +kernel
theorem d_La_station_17 : decode method_17_code 17 = .ok (.iconst 0, 1) := by decide +kernel
theorem d_La_station_18 : decode method_17_code 18 = .ok (.ireturn, 1) := by decide +kernel
theorem d_La_share_0 : decode method_18_code 0 = .ok (.aload 4, 2) := by decide +kernel
theorem d_La_share_2 : decode method_18_code 2 = .ok (.iconst 0, 1) := by decide +kernel
theorem d_La_share_3 : decode method_18_code 3 = .ok (.aload_n 0, 1) := by decide +kernel
theorem d_La_share_4 : decode method_18_code 4 = .ok (.iload_n 1, 1) := by decide +kernel
theorem d_La_share_5 : decode method_18_code 5 = .ok (.iload_n 2, 1) := by decide +kernel
theorem d_La_share_6 : decode method_18_code 6 = .ok (.iload_n 3, 1) := by decide +kernel
theorem d_La_share_7 : decode method_18_code 7 = .ok (.invokevirtual 66, 3) := by decide +kernel
theorem d_La_share_10 : decode method_18_code 10 = .ok (.i2l, 1) := by decide +kernel
theorem d_La_share_11 : decode method_18_code 11 = .ok (.lastore, 1) := by decide +kernel
theorem d_La_share_12 : decode method_18_code 12 = .ok (.goto 7, 3) := by decide +kernel
theorem d_La_share_15 : decode method_18_code 15 = .ok (.astore 5, 2) := by decide +kernel
theorem d_La_share_17 : decode method_18_code 17 = .ok (.iconst 1, 1) := by decide +kernel
theorem d_La_share_18 : decode method_18_code 18 = .ok (.ireturn, 1) := by decide +kernel
theorem d_La_share_19 : decode method_18_code 19 = .ok (.iconst 0, 1) := by decide +kernel
theorem d_La_share_20 : decode method_18_code 20 = .ok (.ireturn, 1) := by decide +kernel
theorem d_Mo_init_0 : decode prog_12_method_1_code 0 = .ok (.aload_n 0, 1) := by decide +kernel
theorem d_Mo_init_1 : decode prog_12_method_1_code 1 = .ok (.invokespecial 1, 3) := by decide +kernel
theorem d_Mo_init_4 : decode prog_12_method_1_code 4 = .ok (.aload_n 0, 1) := by decide +kernel
theorem d_Mo_init_5 : decode prog_12_method_1_code 5 = .ok (.iconst 0, 1) := by decide +kernel
theorem d_Mo_init_6 : decode prog_12_method_1_code 6 = .ok (.putfield 7, 3) := by decide +kernel
theorem d_Mo_init_9 : decode prog_12_method_1_code 9 = .ok (.aload_n 0, 1) := by decide +kernel
theorem d_Mo_init_10 : decode prog_12_method_1_code 10 = .ok (.bipush 7, 2) := by decide +kernel
theorem d_Mo_init_12 : decode prog_12_method_1_code 12 = .ok (.newarray .int, 2) := by decide +kernel
theorem d_Mo_init_14 : decode prog_12_method_1_code 14 = .ok (.putfield 13, 3) := by decide +kernel
theorem d_Mo_init_17 : decode prog_12_method_1_code 17 = .ok (.aload_n 0, 1) := by decide +kernel
theorem d_Mo_init_18 : decode prog_12_method_1_code 18 = .ok (.bipush 7, 2) := by decide +kernel
theorem d_Mo_init_20 : decode prog_12_method_1_code 20 = .ok (.newarray .boolean, 2) := by decide +kernel
theorem d_Mo_init_22 : decode prog_12_method_1_code 22 = .ok (.putfield 17, 3) := by decide +kernel
theorem d_Mo_init_25 : decode prog_12_method_1_code 25 = .ok (.aload_n 0, 1) := by decide +kernel
theorem d_Mo_init_26 : decode prog_12_method_1_code 26 = .ok (.bipush 7, 2) := by decide +kernel
theorem d_Mo_init_28 : decode prog_12_method_1_code 28 = .ok (.newarray .boolean, 2) := by decide +kernel
theorem d_Mo_init_30 : decode prog_12_method_1_code 30 = .ok (.putfield 21, 3) := by decide +kernel
theorem d_Mo_init_33 : decode prog_12_method_1_code 33 = .ok (.aload_n 0, 1) := by decide +kernel
theorem d_Mo_init_34 : decode prog_12_method_1_code 34 = .ok (.sipush 616, 3) := by decide +kernel
theorem d_Mo_init_37 : decode prog_12_method_1_code 37 = .ok (.newarray .int, 2) := by decide +kernel
theorem d_Mo_init_39 : decode prog_12_method_1_code 39 = .ok (.putfield 24, 3) := by decide +kernel
theorem d_Mo_init_42 : decode prog_12_method_1_code 42 = .ok (.aload_n 0, 1) := by decide +kernel
theorem d_Mo_init_43 : decode prog_12_method_1_code 43 = .ok (.iconst 0, 1) := by decide +kernel
theorem d_Mo_init_44 : decode prog_12_method_1_code 44 = .ok (.putfield 27, 3) := by decide +kernel
theorem d_Mo_init_47 : decode prog_12_method_1_code 47 = .ok (.aload_n 0, 1) := by decide +kernel
theorem d_Mo_init_48 : decode prog_12_method_1_code 48 = .ok (.sipush 420, 3) := by decide +kernel
theorem d_Mo_init_51 : decode prog_12_method_1_code 51 = .ok (.newarray .int, 2) := by decide +kernel
theorem d_Mo_init_53 : decode prog_12_method_1_code 53 = .ok (.putfield 30, 3) := by decide +kernel
theorem d_Mo_init_56 : decode prog_12_method_1_code 56 = .ok (.aload_n 0, 1) := by decide +kernel
theorem d_Mo_init_57 : decode prog_12_method_1_code 57 = .ok (.sipush 5280, 3) := by decide +kernel
theorem d_Mo_init_60 : decode prog_12_method_1_code 60 = .ok (.newarray .int, 2) := by decide +kernel
theorem d_Mo_init_62 : decode prog_12_method_1_code 62 = .ok (.putfield 33, 3) := by decide +kernel
theorem d_Mo_init_65 : decode prog_12_method_1_code 65 = .ok (.aload_n 0, 1) := by decide +kernel
theorem d_Mo_init_66 : decode prog_12_method_1_code 66 = .ok (.iconst 2, 1) := by decide +kernel
theorem d_Mo_init_67 : decode prog_12_method_1_code 67 = .ok (.newarray .int, 2) := by decide +kernel
theorem d_Mo_init_69 : decode prog_12_method_1_code 69 = .ok (.putfield 36, 3) := by decide +kernel
theorem d_Mo_init_72 : decode prog_12_method_1_code 72 = .ok (.aload_n 0, 1) := by decide +kernel
theorem d_Mo_init_73 : decode prog_12_method_1_code 73 = .ok (.iconst 2, 1) := by decide +kernel
theorem d_Mo_init_74 : decode prog_12_method_1_code 74 = .ok (.newarray .int, 2) := by decide +kernel
theorem d_Mo_init_76 : decode prog_12_method_1_code 76 = .ok (.putfield 39, 3) := by decide +kernel
theorem d_Mo_init_79 : decode prog_12_method_1_code 79 = .ok (.aload_n 0, 1) := by decide +kernel
theorem d_Mo_init_80 : decode prog_12_method_1_code 80 = .ok (.iconst 2, 1) := by decide +kernel
theorem d_Mo_init_81 : decode prog_12_method_1_code 81 = .ok (.newarray .int, 2) := by decide +kernel
theorem d_Mo_init_83 : decode prog_12_method_1_code 83 = .ok (.putfield 42, 3) := by decide +kernel
theorem d_Mo_init_86 : decode prog_12_method_1_code 86 = .ok (.aload_n 0, 1) := by decide +kernel
theorem d_Mo_init_87 : decode prog_12_method_1_code 87 = .ok (.sipush 1232, 3) := by decide +kernel
theorem d_Mo_init_90 : decode prog_12_method_1_code 90 = .ok (.newarray .int, 2) := by decide +kernel
theorem d_Mo_init_92 : decode prog_12_method_1_code 92 = .ok (.putfield 45, 3) := by decide +kernel
theorem d_Mo_init_95 : decode prog_12_method_1_code 95 = .ok (.aload_n 0, 1) := by decide +kernel
theorem d_Mo_init_96 : decode prog_12_method_1_code 96 = .ok (.bipush 48, 2) := by decide +kernel
theorem d_Mo_init_98 : decode prog_12_method_1_code 98 = .ok (.newarray .int, 2) := by decide +kernel
theorem d_Mo_init_100 : decode prog_12_method_1_code 100 = .ok (.putfield 48, 3) := by decide +kernel
theorem d_Mo_init_103 : decode prog_12_method_1_code 103 = .ok (.aload_n 0, 1) := by decide +kernel
theorem d_Mo_init_104 : decode prog_12_method_1_code 104 = .ok (.iconst 2, 1) := by decide +kernel
theorem d_Mo_init_105 : decode prog_12_method_1_code 105 = .ok (.newarray .int, 2) := by decide +kernel
theorem d_Mo_init_107 : decode prog_12_method_1_code 107 = .ok (.putfield 51, 3) := by decide +kernel
theorem d_Mo_init_110 : decode prog_12_method_1_code 110 = .ok (.aload_n 0, 1) := by decide +kernel
theorem d_Mo_init_111 : decode prog_12_method_1_code 111 = .ok (.bipush 16, 2) := by decide +kernel
theorem d_Mo_init_113 : decode prog_12_method_1_code 113 = .ok (.newarray .int, 2) := by decide +kernel
theorem d_Mo_init_115 : decode prog_12_method_1_code 115 = .ok (.putfield 54, 3) := by decide +kernel
theorem d_Mo_init_118 : decode prog_12_method_1_code 118 = .ok (.aload_n 0, 1) := by decide +kernel
theorem d_Mo_init_119 : decode prog_12_method_1_code 119 = .ok (.bipush 16, 2) := by decide +kernel
theorem d_Mo_init_121 : decode prog_12_method_1_code 121 = .ok (.newarray .int, 2) := by decide +kernel
theorem d_Mo_init_123 : decode prog_12_method_1_code 123 = .ok (.putfield 57, 3) := by decide +kernel
theorem d_Mo_init_126 : decode prog_12_method_1_code 126 = .ok (.aload_n 0, 1) := by decide +kernel
theorem d_Mo_init_127 : decode prog_12_method_1_code 127 = .ok (.bipush 16, 2) := by decide +kernel
theorem d_Mo_init_129 : decode prog_12_method_1_code 129 = .ok (.newarray .int, 2) := by decide +kernel
theorem d_Mo_init_131 : decode prog_12_method_1_code 131 = .ok (.putfield 60, 3) := by decide +kernel
theorem d_Mo_init_134 : decode prog_12_method_1_code 134 = .ok (.aload_n 0, 1) := by decide +kernel
theorem d_Mo_init_135 : decode prog_12_method_1_code 135 = .ok (.bipush 16, 2) := by decide +kernel
theorem d_Mo_init_137 : decode prog_12_method_1_code 137 = .ok (.newarray .int, 2) := by decide +kernel
theorem d_Mo_init_139 : decode prog_12_method_1_code 139 = .ok (.putfield 63, 3) := by decide +kernel
theorem d_Mo_init_142 : decode prog_12_method_1_code 142 = .ok (.aload_n 0, 1) := by decide +kernel
theorem d_Mo_init_143 : decode prog_12_method_1_code 143 = .ok (.sipush 384, 3) := by decide +kernel
theorem d_Mo_init_146 : decode prog_12_method_1_code 146 = .ok (.newarray .int, 2) := by decide +kernel
theorem d_Mo_init_148 : decode prog_12_method_1_code 148 = .ok (.putfield 66, 3) := by decide +kernel
theorem d_Mo_init_151 : decode prog_12_method_1_code 151 = .ok (.aload_n 0, 1) := by decide +kernel
theorem d_Mo_init_152 : decode prog_12_method_1_code 152 = .ok (.sipush 510, 3) := by decide +kernel
theorem d_Mo_init_155 : decode prog_12_method_1_code 155 = .ok (.newarray .int, 2) := by decide +kernel
theorem d_Mo_init_157 : decode prog_12_method_1_code 157 = .ok (.putfield 69, 3) := by decide +kernel
theorem d_Mo_init_160 : decode prog_12_method_1_code 160 = .ok (.aload_n 0, 1) := by decide +kernel
theorem d_Mo_init_161 : decode prog_12_method_1_code 161 = .ok (.sipush 256, 3) := by decide +kernel
theorem d_Mo_init_164 : decode prog_12_method_1_code 164 = .ok (.newarray .int, 2) := by decide +kernel
theorem d_Mo_init_166 : decode prog_12_method_1_code 166 = .ok (.putfield 72, 3) := by decide +kernel
theorem d_Mo_init_169 : decode prog_12_method_1_code 169 = .ok (.aload_n 0, 1) := by decide +kernel
theorem d_Mo_init_170 : decode prog_12_method_1_code 170 = .ok (.iconst 3, 1) := by decide +kernel
theorem d_Mo_init_171 : decode prog_12_method_1_code 171 = .ok (.newarray .int, 2) := by decide +kernel
theorem d_Mo_init_173 : decode prog_12_method_1_code 173 = .ok (.putfield 75, 3) := by decide +kernel
theorem d_Mo_init_176 : decode prog_12_method_1_code 176 = .ok (.aload_n 0, 1) := by decide +kernel
theorem d_Mo_init_177 : decode prog_12_method_1_code 177 = .ok (.bipush 24, 2) := by decide +kernel
theorem d_Mo_init_179 : decode prog_12_method_1_code 179 = .ok (.newarray .int, 2) := by decide +kernel
theorem d_Mo_init_181 : decode prog_12_method_1_code 181 = .ok (.putfield 78, 3) := by decide +kernel
theorem d_Mo_init_184 : decode prog_12_method_1_code 184 = .ok (.aload_n 0, 1) := by decide +kernel
theorem d_Mo_init_185 : decode prog_12_method_1_code 185 = .ok (.iconst 3, 1) := by decide +kernel
theorem d_Mo_init_186 : decode prog_12_method_1_code 186 = .ok (.newarray .int, 2) := by decide +kernel
theorem d_Mo_init_188 : decode prog_12_method_1_code 188 = .ok (.putfield 81, 3) := by decide +kernel
theorem d_Mo_init_191 : decode prog_12_method_1_code 191 = .ok (.aload_n 0, 1) := by decide +kernel
theorem d_Mo_init_192 : decode prog_12_method_1_code 192 = .ok (.bipush 24, 2) := by decide +kernel
theorem d_Mo_init_194 : decode prog_12_method_1_code 194 = .ok (.newarray .int, 2) := by decide +kernel
theorem d_Mo_init_196 : decode prog_12_method_1_code 196 = .ok (.putfield 84, 3) := by decide +kernel
theorem d_Mo_init_199 : decode prog_12_method_1_code 199 = .ok (.aload_n 0, 1) := by decide +kernel
theorem d_Mo_init_200 : decode prog_12_method_1_code 200 = .ok (.iconst 0, 1) := by decide +kernel
theorem d_Mo_init_201 : decode prog_12_method_1_code 201 = .ok (.putfield 87, 3) := by decide +kernel
theorem d_Mo_init_204 : decode prog_12_method_1_code 204 = .ok (.aload_n 0, 1) := by decide +kernel
theorem d_Mo_init_205 : decode prog_12_method_1_code 205 = .ok (.bipush 7, 2) := by decide +kernel
theorem d_Mo_init_207 : decode prog_12_method_1_code 207 = .ok (.newarray .int, 2) := by decide +kernel
theorem d_Mo_init_209 : decode prog_12_method_1_code 209 = .ok (.putfield 90, 3) := by decide +kernel
theorem d_Mo_init_212 : decode prog_12_method_1_code 212 = .ok (.aload_n 0, 1) := by decide +kernel
theorem d_Mo_init_213 : decode prog_12_method_1_code 213 = .ok (.bipush 88, 2) := by decide +kernel
theorem d_Mo_init_215 : decode prog_12_method_1_code 215 = .ok (.newarray .int, 2) := by decide +kernel
theorem d_Mo_init_217 : decode prog_12_method_1_code 217 = .ok (.putfield 93, 3) := by decide +kernel
theorem d_Mo_init_220 : decode prog_12_method_1_code 220 = .ok (.iconst 1, 1) := by decide +kernel
theorem d_Mo_init_221 : decode prog_12_method_1_code 221 = .ok (.istore_n 1, 1) := by decide +kernel
theorem d_Mo_init_222 : decode prog_12_method_1_code 222 = .ok (.iconst 0, 1) := by decide +kernel
theorem d_Mo_init_223 : decode prog_12_method_1_code 223 = .ok (.istore_n 2, 1) := by decide +kernel
theorem d_Mo_init_224 : decode prog_12_method_1_code 224 = .ok (.iload_n 2, 1) := by decide +kernel
theorem d_Mo_init_225 : decode prog_12_method_1_code 225 = .ok (.sipush 510, 3) := by decide +kernel
theorem d_Mo_init_228 : decode prog_12_method_1_code 228 = .ok (.if_icmp .ge 36, 3) := by decide +kernel
theorem d_Mo_init_231 : decode prog_12_method_1_code 231 = .ok (.aload_n 0, 1) := by decide +kernel
theorem d_Mo_init_232 : decode prog_12_method_1_code 232 = .ok (.getfield 69, 3) := by decide +kernel
theorem d_Mo_init_235 : decode prog_12_method_1_code 235 = .ok (.iload_n 2, 1) := by decide +kernel
theorem d_Mo_init_236 : decode prog_12_method_1_code 236 = .ok (.iload_n 1, 1) := by decide +kernel
theorem d_Mo_init_237 : decode prog_12_method_1_code 237 = .ok (.iastore, 1) := by decide +kernel
theorem d_Mo_init_238 : decode prog_12_method_1_code 238 = .ok (.iload_n 2, 1) := by decide +kernel
theorem d_Mo_init_239 : decode prog_12_method_1_code 239 = .ok (.sipush 255, 3) := by decide +kernel
theorem d_Mo_init_242 : decode prog_12_method_1_code 242 = .ok (.if_icmp .ge 10, 3) := by decide +kernel
theorem d_Mo_init_245 : decode prog_12_method_1_code 245 = .ok (.aload_n 0, 1) := by decide +kernel
theorem d_Mo_init_246 : decode prog_12_method_1_code 246 = .ok (.getfield 72, 3) := by decide +kernel
theorem d_Mo_init_249 : decode prog_12_method_1_code 249 = .ok (.iload_n 1, 1) := by decide +kernel
theorem d_Mo_init_250 : decode prog_12_method_1_code 250 = .ok (.iload_n 2, 1) := by decide +kernel
theorem d_Mo_init_251 : decode prog_12_method_1_code 251 = .ok (.iastore, 1) := by decide +kernel
theorem d_Mo_init_252 : decode prog_12_method_1_code 252 = .ok (.iload_n 1, 1) := by decide +kernel
theorem d_Mo_init_253 : decode prog_12_method_1_code 253 = .ok (.iconst 3, 1) := by decide +kernel
theorem d_Mo_init_254 : decode prog_12_method_1_code 254 = .ok (.invokestatic 96, 3) := by decide +kernel
theorem d_Mo_init_257 : decode prog_12_method_1_code 257 = .ok (.istore_n 1, 1) := by decide +kernel
theorem d_Mo_init_258 : decode prog_12_method_1_code 258 = .ok (.iinc 2 1, 3) := by decide +kernel
theorem d_Mo_init_261 : decode prog_12_method_1_code 261 = .ok (.goto (-37), 3) := by decide +kernel
theorem d_Mo_init_264 : decode prog_12_method_1_code 264 = .ok (.return_, 1) := by decide +kernel
theorem d_Mo_times_0 : decode prog_12_method_2_code 0 = .ok (.iconst 0, 1) := by decide +kernel
theorem d_Mo_times_1 : decode prog_12_method_2_code 1 = .ok (.istore_n 2, 1) := by decide +kernel
theorem d_Mo_times_2 : decode prog_12_method_2_code 2 = .ok (.iload_n 0, 1) := by decide +kernel
theorem d_Mo_times_3 : decode prog_12_method_2_code 3 = .ok (.istore_n 3, 1) := by decide +kernel
theorem d_Mo_times_4 : decode prog_12_method_2_code 4 = .ok (.iconst 0, 1) := by decide +kernel
theorem d_Mo_times_5 : decode prog_12_method_2_code 5 = .ok (.istore 4, 2) := by decide +kernel
theorem d_Mo_times_7 : decode prog_12_method_2_code 7 = .ok (.iload 4, 2) := by decide +kernel
theorem d_Mo_times_9 : decode prog_12_method_2_code 9 = .ok (.bipush 8, 2) := by decide +kernel
theorem d_Mo_times_11 : decode prog_12_method_2_code 11 = .ok (.if_icmp .ge 40, 3) := by decide +kernel
theorem d_Mo_times_14 : decode prog_12_method_2_code 14 = .ok (.iload_n 1, 1) := by decide +kernel
theorem d_Mo_times_15 : decode prog_12_method_2_code 15 = .ok (.iload 4, 2) := by decide +kernel
theorem d_Mo_times_17 : decode prog_12_method_2_code 17 = .ok (.ishr, 1) := by decide +kernel
theorem d_Mo_times_18 : decode prog_12_method_2_code 18 = .ok (.iconst 1, 1) := by decide +kernel
theorem d_Mo_times_19 : decode prog_12_method_2_code 19 = .ok (.iand, 1) := by decide +kernel
theorem d_Mo_times_20 : decode prog_12_method_2_code 20 = .ok (.iconst 1, 1) := by decide +kernel
theorem d_Mo_times_21 : decode prog_12_method_2_code 21 = .ok (.if_icmp .ne 7, 3) := by decide +kernel
theorem d_Mo_times_24 : decode prog_12_method_2_code 24 = .ok (.iload_n 2, 1) := by decide +kernel
theorem d_Mo_times_25 : decode prog_12_method_2_code 25 = .ok (.iload_n 3, 1) := by decide +kernel
theorem d_Mo_times_26 : decode prog_12_method_2_code 26 = .ok (.ixor, 1) := by decide +kernel
theorem d_Mo_times_27 : decode prog_12_method_2_code 27 = .ok (.istore_n 2, 1) := by decide +kernel
theorem d_Mo_times_28 : decode prog_12_method_2_code 28 = .ok (.iload_n 3, 1) := by decide +kernel
theorem d_Mo_times_29 : decode prog_12_method_2_code 29 = .ok (.iconst 1, 1) := by decide +kernel
theorem d_Mo_times_30 : decode prog_12_method_2_code 30 = .ok (.ishl, 1) := by decide +kernel
theorem d_Mo_times_31 : decode prog_12_method_2_code 31 = .ok (.istore_n 3, 1) := by decide +kernel
theorem d_Mo_times_32 : decode prog_12_method_2_code 32 = .ok (.iload_n 3, 1) := by decide +kernel
theorem d_Mo_times_33 : decode prog_12_method_2_code 33 = .ok (.sipush 255, 3) := by decide +kernel
theorem d_Mo_times_36 : decode prog_12_method_2_code 36 = .ok (.if_icmp .le 9, 3) := by decide +kernel
theorem d_Mo_times_39 : decode prog_12_method_2_code 39 = .ok (.iload_n 3, 1) := by decide +kernel
theorem d_Mo_times_40 : decode prog_12_method_2_code 40 = .ok (.sipush 283, 3) := by decide +kernel
theorem d_Mo_times_43 : decode prog_12_method_2_code 43 = .ok (.ixor, 1) := by decide +kernel
theorem d_Mo_times_44 : decode prog_12_method_2_code 44 = .ok (.istore_n 3, 1) := by decide +kernel
theorem d_Mo_times_45 : decode prog_12_method_2_code 45 = .ok (.iinc 4 1, 3) := by decide +kernel
theorem d_Mo_times_48 : decode prog_12_method_2_code 48 = .ok (.goto (-41), 3) := by decide +kernel
theorem d_Mo_times_51 : decode prog_12_method_2_code 51 = .ok (.iload_n 2, 1) := by decide +kernel
theorem d_Mo_times_52 : decode prog_12_method_2_code 52 = .ok (.ireturn, 1) := by decide +kernel
theorem d_Mo_thrown_0 : decode prog_12_method_25_code 0 = .ok (.aload_n 0, 1) := by decide +kernel
theorem d_Mo_thrown_1 : decode prog_12_method_25_code 1 = .ok (.getfield 7, 3) := by decide +kernel
theorem d_Mo_thrown_4 : decode prog_12_method_25_code 4 = .ok (.ireturn, 1) := by decide +kernel
theorem d_Mo_byteIn_0 : decode prog_12_method_28_code 0 = .ok (.aload_n 0, 1) := by decide +kernel
theorem d_Mo_byteIn_1 : decode prog_12_method_28_code 1 = .ok (.iconst 0, 1) := by decide +kernel
theorem d_Mo_byteIn_2 : decode prog_12_method_28_code 2 = .ok (.putfield 7, 3) := by decide +kernel
theorem d_Mo_byteIn_5 : decode prog_12_method_28_code 5 = .ok (.iload_n 1, 1) := by decide +kernel
theorem d_Mo_byteIn_6 : decode prog_12_method_28_code 6 = .ok (.invokestatic 158, 3) := by decide +kernel
theorem d_Mo_byteIn_9 : decode prog_12_method_28_code 9 = .ok (.ifCond .ne 26, 3) := by decide +kernel
theorem d_Mo_byteIn_12 : decode prog_12_method_28_code 12 = .ok (.iload_n 3, 1) := by decide +kernel
theorem d_Mo_byteIn_13 : decode prog_12_method_28_code 13 = .ok (.iconst 1, 1) := by decide +kernel
theorem d_Mo_byteIn_14 : decode prog_12_method_28_code 14 = .ok (.if_icmp .lt 21, 3) := by decide +kernel
theorem d_Mo_byteIn_17 : decode prog_12_method_28_code 17 = .ok (.iload_n 3, 1) := by decide +kernel
theorem d_Mo_byteIn_18 : decode prog_12_method_28_code 18 = .ok (.iconst 4, 1) := by decide +kernel
theorem d_Mo_byteIn_19 : decode prog_12_method_28_code 19 = .ok (.if_icmp .gt 16, 3) := by decide +kernel
theorem d_Mo_byteIn_22 : decode prog_12_method_28_code 22 = .ok (.aload_n 0, 1) := by decide +kernel
theorem d_Mo_byteIn_23 : decode prog_12_method_28_code 23 = .ok (.getfield 51, 3) := by decide +kernel
theorem d_Mo_byteIn_26 : decode prog_12_method_28_code 26 = .ok (.iload_n 1, 1) := by decide +kernel
theorem d_Mo_byteIn_27 : decode prog_12_method_28_code 27 = .ok (.iaload, 1) := by decide +kernel
theorem d_Mo_byteIn_28 : decode prog_12_method_28_code 28 = .ok (.iload_n 3, 1) := by decide +kernel
theorem d_Mo_byteIn_29 : decode prog_12_method_28_code 29 = .ok (.iadd, 1) := by decide +kernel
theorem d_Mo_byteIn_30 : decode prog_12_method_28_code 30 = .ok (.bipush 24, 2) := by decide +kernel
theorem d_Mo_byteIn_32 : decode prog_12_method_28_code 32 = .ok (.if_icmp .le 5, 3) := by decide +kernel
theorem d_Mo_byteIn_35 : decode prog_12_method_28_code 35 = .ok (.iconst 0, 1) := by decide +kernel
theorem d_Mo_byteIn_36 : decode prog_12_method_28_code 36 = .ok (.ireturn, 1) := by decide +kernel
theorem d_Mo_byteIn_37 : decode prog_12_method_28_code 37 = .ok (.iload_n 3, 1) := by decide +kernel
theorem d_Mo_byteIn_38 : decode prog_12_method_28_code 38 = .ok (.iconst 1, 1) := by decide +kernel
theorem d_Mo_byteIn_39 : decode prog_12_method_28_code 39 = .ok (.isub, 1) := by decide +kernel
theorem d_Mo_byteIn_40 : decode prog_12_method_28_code 40 = .ok (.istore 4, 2) := by decide +kernel
theorem d_Mo_byteIn_42 : decode prog_12_method_28_code 42 = .ok (.iload 4, 2) := by decide +kernel
theorem d_Mo_byteIn_44 : decode prog_12_method_28_code 44 = .ok (.ifCond .lt 50, 3) := by decide +kernel
theorem d_Mo_byteIn_47 : decode prog_12_method_28_code 47 = .ok (.aload_n 0, 1) := by decide +kernel
theorem d_Mo_byteIn_48 : decode prog_12_method_28_code 48 = .ok (.getfield 48, 3) := by decide +kernel
theorem d_Mo_byteIn_51 : decode prog_12_method_28_code 51 = .ok (.bipush 24, 2) := by decide +kernel
theorem d_Mo_byteIn_53 : decode prog_12_method_28_code 53 = .ok (.iload_n 1, 1) := by decide +kernel
theorem d_Mo_byteIn_54 : decode prog_12_method_28_code 54 = .ok (.imul, 1) := by decide +kernel
theorem d_Mo_byteIn_55 : decode prog_12_method_28_code 55 = .ok (.aload_n 0, 1) := by decide +kernel
theorem d_Mo_byteIn_56 : decode prog_12_method_28_code 56 = .ok (.getfield 51, 3) := by decide +kernel
theorem d_Mo_byteIn_59 : decode prog_12_method_28_code 59 = .ok (.iload_n 1, 1) := by decide +kernel
theorem d_Mo_byteIn_60 : decode prog_12_method_28_code 60 = .ok (.iaload, 1) := by decide +kernel
theorem d_Mo_byteIn_61 : decode prog_12_method_28_code 61 = .ok (.iadd, 1) := by decide +kernel
theorem d_Mo_byteIn_62 : decode prog_12_method_28_code 62 = .ok (.iload_n 2, 1) := by decide +kernel
theorem d_Mo_byteIn_63 : decode prog_12_method_28_code 63 = .ok (.bipush 8, 2) := by decide +kernel
theorem d_Mo_byteIn_65 : decode prog_12_method_28_code 65 = .ok (.iload 4, 2) := by decide +kernel
theorem d_Mo_byteIn_67 : decode prog_12_method_28_code 67 = .ok (.imul, 1) := by decide +kernel
theorem d_Mo_byteIn_68 : decode prog_12_method_28_code 68 = .ok (.ishr, 1) := by decide +kernel
theorem d_Mo_byteIn_69 : decode prog_12_method_28_code 69 = .ok (.sipush 255, 3) := by decide +kernel
theorem d_Mo_byteIn_72 : decode prog_12_method_28_code 72 = .ok (.iand, 1) := by decide +kernel
theorem d_Mo_byteIn_73 : decode prog_12_method_28_code 73 = .ok (.iastore, 1) := by decide +kernel
theorem d_Mo_byteIn_74 : decode prog_12_method_28_code 74 = .ok (.aload_n 0, 1) := by decide +kernel
theorem d_Mo_byteIn_75 : decode prog_12_method_28_code 75 = .ok (.getfield 51, 3) := by decide +kernel
theorem d_Mo_byteIn_78 : decode prog_12_method_28_code 78 = .ok (.iload_n 1, 1) := by decide +kernel
theorem d_Mo_byteIn_79 : decode prog_12_method_28_code 79 = .ok (.aload_n 0, 1) := by decide +kernel
theorem d_Mo_byteIn_80 : decode prog_12_method_28_code 80 = .ok (.getfield 51, 3) := by decide +kernel
theorem d_Mo_byteIn_83 : decode prog_12_method_28_code 83 = .ok (.iload_n 1, 1) := by decide +kernel
theorem d_Mo_byteIn_84 : decode prog_12_method_28_code 84 = .ok (.iaload, 1) := by decide +kernel
theorem d_Mo_byteIn_85 : decode prog_12_method_28_code 85 = .ok (.iconst 1, 1) := by decide +kernel
theorem d_Mo_byteIn_86 : decode prog_12_method_28_code 86 = .ok (.iadd, 1) := by decide +kernel
theorem d_Mo_byteIn_87 : decode prog_12_method_28_code 87 = .ok (.iastore, 1) := by decide +kernel
theorem d_Mo_byteIn_88 : decode prog_12_method_28_code 88 = .ok (.iinc 4 (-1), 3) := by decide +kernel
theorem d_Mo_byteIn_91 : decode prog_12_method_28_code 91 = .ok (.goto (-49), 3) := by decide +kernel
theorem d_Mo_byteIn_94 : decode prog_12_method_28_code 94 = .ok (.iconst 1, 1) := by decide +kernel
theorem d_Mo_byteIn_95 : decode prog_12_method_28_code 95 = .ok (.ireturn, 1) := by decide +kernel
theorem d_Mo_noProposer_0 : decode prog_12_method_26_code 0 = .ok (.iload_n 0, 1) := by decide +kernel
theorem d_Mo_noProposer_1 : decode prog_12_method_26_code 1 = .ok (.ifCond .lt 8, 3) := by decide +kernel
theorem d_Mo_noProposer_4 : decode prog_12_method_26_code 4 = .ok (.iload_n 0, 1) := by decide +kernel
theorem d_Mo_noProposer_5 : decode prog_12_method_26_code 5 = .ok (.iconst 1, 1) := by decide +kernel
theorem d_Mo_noProposer_6 : decode prog_12_method_26_code 6 = .ok (.if_icmp .le 7, 3) := by decide +kernel
theorem d_Mo_noProposer_9 : decode prog_12_method_26_code 9 = .ok (.iconst 1, 1) := by decide +kernel
theorem d_Mo_noProposer_10 : decode prog_12_method_26_code 10 = .ok (.goto 4, 3) := by decide +kernel
theorem d_Mo_noProposer_13 : decode prog_12_method_26_code 13 = .ok (.iconst 0, 1) := by decide +kernel
theorem d_Mo_noProposer_14 : decode prog_12_method_26_code 14 = .ok (.ireturn, 1) := by decide +kernel
theorem d_Mo_campaign_0 : decode prog_12_method_29_code 0 = .ok (.aload_n 0, 1) := by decide +kernel
theorem d_Mo_campaign_1 : decode prog_12_method_29_code 1 = .ok (.iload_n 1, 1) := by decide +kernel
theorem d_Mo_campaign_2 : decode prog_12_method_29_code 2 = .ok (.invokestatic 158, 3) := by decide +kernel
theorem d_Mo_campaign_5 : decode prog_12_method_29_code 5 = .ok (.ifCond .eq 7, 3) := by decide +kernel
theorem d_Mo_campaign_8 : decode prog_12_method_29_code 8 = .ok (.iconst 1, 1) := by decide +kernel
theorem d_Mo_campaign_9 : decode prog_12_method_29_code 9 = .ok (.goto 4, 3) := by decide +kernel
theorem d_Mo_campaign_12 : decode prog_12_method_29_code 12 = .ok (.iconst 0, 1) := by decide +kernel
theorem d_Mo_campaign_13 : decode prog_12_method_29_code 13 = .ok (.putfield 7, 3) := by decide +kernel
theorem d_Mo_campaign_16 : decode prog_12_method_29_code 16 = .ok (.aload_n 0, 1) := by decide +kernel
theorem d_Mo_campaign_17 : decode prog_12_method_29_code 17 = .ok (.getfield 7, 3) := by decide +kernel
theorem d_Mo_campaign_20 : decode prog_12_method_29_code 20 = .ok (.ifCond .eq 5, 3) := by decide +kernel
theorem d_Mo_campaign_23 : decode prog_12_method_29_code 23 = .ok (.iconst 0, 1) := by decide +kernel
theorem d_Mo_campaign_24 : decode prog_12_method_29_code 24 = .ok (.ireturn, 1) := by decide +kernel
theorem d_Mo_campaign_25 : decode prog_12_method_29_code 25 = .ok (.aload_n 0, 1) := by decide +kernel
theorem d_Mo_campaign_26 : decode prog_12_method_29_code 26 = .ok (.getfield 39, 3) := by decide +kernel
theorem d_Mo_campaign_29 : decode prog_12_method_29_code 29 = .ok (.iload_n 1, 1) := by decide +kernel
theorem d_Mo_campaign_30 : decode prog_12_method_29_code 30 = .ok (.iaload, 1) := by decide +kernel
theorem d_Mo_campaign_31 : decode prog_12_method_29_code 31 = .ok (.istore_n 2, 1) := by decide +kernel
theorem d_Mo_campaign_32 : decode prog_12_method_29_code 32 = .ok (.iconst 0, 1) := by decide +kernel
theorem d_Mo_campaign_33 : decode prog_12_method_29_code 33 = .ok (.istore_n 3, 1) := by decide +kernel
theorem d_Mo_campaign_34 : decode prog_12_method_29_code 34 = .ok (.iload_n 3, 1) := by decide +kernel
theorem d_Mo_campaign_35 : decode prog_12_method_29_code 35 = .ok (.bipush 7, 2) := by decide +kernel
theorem d_Mo_campaign_37 : decode prog_12_method_29_code 37 = .ok (.if_icmp .ge 26, 3) := by decide +kernel
theorem d_Mo_campaign_40 : decode prog_12_method_29_code 40 = .ok (.aload_n 0, 1) := by decide +kernel
theorem d_Mo_campaign_41 : decode prog_12_method_29_code 41 = .ok (.getfield 13, 3) := by decide +kernel
theorem d_Mo_campaign_44 : decode prog_12_method_29_code 44 = .ok (.iload_n 3, 1) := by decide +kernel
theorem d_Mo_campaign_45 : decode prog_12_method_29_code 45 = .ok (.iaload, 1) := by decide +kernel
theorem d_Mo_campaign_46 : decode prog_12_method_29_code 46 = .ok (.iload_n 2, 1) := by decide +kernel
theorem d_Mo_campaign_47 : decode prog_12_method_29_code 47 = .ok (.if_icmp .le 10, 3) := by decide +kernel
theorem d_Mo_campaign_50 : decode prog_12_method_29_code 50 = .ok (.aload_n 0, 1) := by decide +kernel
theorem d_Mo_campaign_51 : decode prog_12_method_29_code 51 = .ok (.getfield 13, 3) := by decide +kernel
theorem d_Mo_campaign_54 : decode prog_12_method_29_code 54 = .ok (.iload_n 3, 1) := by decide +kernel
theorem d_Mo_campaign_55 : decode prog_12_method_29_code 55 = .ok (.iaload, 1) := by decide +kernel
theorem d_Mo_campaign_56 : decode prog_12_method_29_code 56 = .ok (.istore_n 2, 1) := by decide +kernel
theorem d_Mo_campaign_57 : decode prog_12_method_29_code 57 = .ok (.iinc 3 1, 3) := by decide +kernel
theorem d_Mo_campaign_60 : decode prog_12_method_29_code 60 = .ok (.goto (-26), 3) := by decide +kernel
theorem d_Mo_campaign_63 : decode prog_12_method_29_code 63 = .ok (.iconst 2, 1) := by decide +kernel
theorem d_Mo_campaign_64 : decode prog_12_method_29_code 64 = .ok (.iload_n 1, 1) := by decide +kernel
theorem d_Mo_campaign_65 : decode prog_12_method_29_code 65 = .ok (.iadd, 1) := by decide +kernel
theorem d_Mo_campaign_66 : decode prog_12_method_29_code 66 = .ok (.istore_n 3, 1) := by decide +kernel
theorem d_Mo_campaign_67 : decode prog_12_method_29_code 67 = .ok (.iload_n 3, 1) := by decide +kernel
theorem d_Mo_campaign_68 : decode prog_12_method_29_code 68 = .ok (.iload_n 2, 1) := by decide +kernel
theorem d_Mo_campaign_69 : decode prog_12_method_29_code 69 = .ok (.if_icmp .gt 9, 3) := by decide +kernel
theorem d_Mo_campaign_72 : decode prog_12_method_29_code 72 = .ok (.iinc 3 2, 3) := by decide +kernel
theorem d_Mo_campaign_75 : decode prog_12_method_29_code 75 = .ok (.goto (-8), 3) := by decide +kernel
theorem d_Mo_campaign_78 : decode prog_12_method_29_code 78 = .ok (.aload_n 0, 1) := by decide +kernel
theorem d_Mo_campaign_79 : decode prog_12_method_29_code 79 = .ok (.getfield 39, 3) := by decide +kernel
theorem d_Mo_campaign_82 : decode prog_12_method_29_code 82 = .ok (.iload_n 1, 1) := by decide +kernel
theorem d_Mo_campaign_83 : decode prog_12_method_29_code 83 = .ok (.iload_n 3, 1) := by decide +kernel
theorem d_Mo_campaign_84 : decode prog_12_method_29_code 84 = .ok (.iastore, 1) := by decide +kernel
theorem d_Mo_campaign_85 : decode prog_12_method_29_code 85 = .ok (.aload_n 0, 1) := by decide +kernel
theorem d_Mo_campaign_86 : decode prog_12_method_29_code 86 = .ok (.getfield 36, 3) := by decide +kernel
theorem d_Mo_campaign_89 : decode prog_12_method_29_code 89 = .ok (.iload_n 1, 1) := by decide +kernel
theorem d_Mo_campaign_90 : decode prog_12_method_29_code 90 = .ok (.iconst 1, 1) := by decide +kernel
theorem d_Mo_campaign_91 : decode prog_12_method_29_code 91 = .ok (.iastore, 1) := by decide +kernel
theorem d_Mo_campaign_92 : decode prog_12_method_29_code 92 = .ok (.aload_n 0, 1) := by decide +kernel
theorem d_Mo_campaign_93 : decode prog_12_method_29_code 93 = .ok (.getfield 42, 3) := by decide +kernel
theorem d_Mo_campaign_96 : decode prog_12_method_29_code 96 = .ok (.iload_n 1, 1) := by decide +kernel
theorem d_Mo_campaign_97 : decode prog_12_method_29_code 97 = .ok (.iconst 0, 1) := by decide +kernel
theorem d_Mo_campaign_98 : decode prog_12_method_29_code 98 = .ok (.iastore, 1) := by decide +kernel
theorem d_Mo_campaign_99 : decode prog_12_method_29_code 99 = .ok (.iconst 0, 1) := by decide +kernel
theorem d_Mo_campaign_100 : decode prog_12_method_29_code 100 = .ok (.istore 4, 2) := by decide +kernel
theorem d_Mo_campaign_102 : decode prog_12_method_29_code 102 = .ok (.iload 4, 2) := by decide +kernel
theorem d_Mo_campaign_104 : decode prog_12_method_29_code 104 = .ok (.bipush 8, 2) := by decide +kernel
theorem d_Mo_campaign_106 : decode prog_12_method_29_code 106 = .ok (.if_icmp .ge 22, 3) := by decide +kernel
theorem d_Mo_campaign_109 : decode prog_12_method_29_code 109 = .ok (.aload_n 0, 1) := by decide +kernel
theorem d_Mo_campaign_110 : decode prog_12_method_29_code 110 = .ok (.getfield 57, 3) := by decide +kernel
theorem d_Mo_campaign_113 : decode prog_12_method_29_code 113 = .ok (.bipush 8, 2) := by decide +kernel
theorem d_Mo_campaign_115 : decode prog_12_method_29_code 115 = .ok (.iload_n 1, 1) := by decide +kernel
theorem d_Mo_campaign_116 : decode prog_12_method_29_code 116 = .ok (.imul, 1) := by decide +kernel
theorem d_Mo_campaign_117 : decode prog_12_method_29_code 117 = .ok (.iload 4, 2) := by decide +kernel
theorem d_Mo_campaign_119 : decode prog_12_method_29_code 119 = .ok (.iadd, 1) := by decide +kernel
theorem d_Mo_campaign_120 : decode prog_12_method_29_code 120 = .ok (.iconst 0, 1) := by decide +kernel
theorem d_Mo_campaign_121 : decode prog_12_method_29_code 121 = .ok (.iastore, 1) := by decide +kernel
theorem d_Mo_campaign_122 : decode prog_12_method_29_code 122 = .ok (.iinc 4 1, 3) := by decide +kernel
theorem d_Mo_campaign_125 : decode prog_12_method_29_code 125 = .ok (.goto (-23), 3) := by decide +kernel
theorem d_Mo_campaign_128 : decode prog_12_method_29_code 128 = .ok (.iconst 0, 1) := by decide +kernel
theorem d_Mo_campaign_129 : decode prog_12_method_29_code 129 = .ok (.istore 4, 2) := by decide +kernel
theorem d_Mo_campaign_131 : decode prog_12_method_29_code 131 = .ok (.iload 4, 2) := by decide +kernel
theorem d_Mo_campaign_133 : decode prog_12_method_29_code 133 = .ok (.bipush 7, 2) := by decide +kernel
theorem d_Mo_campaign_135 : decode prog_12_method_29_code 135 = .ok (.if_icmp .ge 17, 3) := by decide +kernel
theorem d_Mo_campaign_138 : decode prog_12_method_29_code 138 = .ok (.aload_n 0, 1) := by decide +kernel
theorem d_Mo_campaign_139 : decode prog_12_method_29_code 139 = .ok (.iload_n 1, 1) := by decide +kernel
theorem d_Mo_campaign_140 : decode prog_12_method_29_code 140 = .ok (.iload 4, 2) := by decide +kernel
theorem d_Mo_campaign_142 : decode prog_12_method_29_code 142 = .ok (.invokevirtual 162, 3) := by decide +kernel
theorem d_Mo_campaign_145 : decode prog_12_method_29_code 145 = .ok (.pop, 1) := by decide +kernel
theorem d_Mo_campaign_146 : decode prog_12_method_29_code 146 = .ok (.iinc 4 1, 3) := by decide +kernel
theorem d_Mo_campaign_149 : decode prog_12_method_29_code 149 = .ok (.goto (-18), 3) := by decide +kernel
theorem d_Mo_campaign_152 : decode prog_12_method_29_code 152 = .ok (.iload_n 3, 1) := by decide +kernel
theorem d_Mo_campaign_153 : decode prog_12_method_29_code 153 = .ok (.ireturn, 1) := by decide +kernel
theorem d_Mo_prepare_0 : decode prog_12_method_10_code 0 = .ok (.aload_n 0, 1) := by decide +kernel
theorem d_Mo_prepare_1 : decode prog_12_method_10_code 1 = .ok (.iconst 0, 1) := by decide +kernel
theorem d_Mo_prepare_2 : decode prog_12_method_10_code 2 = .ok (.iload_n 2, 1) := by decide +kernel
theorem d_Mo_prepare_3 : decode prog_12_method_10_code 3 = .ok (.iload_n 1, 1) := by decide +kernel
theorem d_Mo_prepare_4 : decode prog_12_method_10_code 4 = .ok (.aload_n 0, 1) := by decide +kernel
theorem d_Mo_prepare_5 : decode prog_12_method_10_code 5 = .ok (.getfield 39, 3) := by decide +kernel
theorem d_Mo_prepare_8 : decode prog_12_method_10_code 8 = .ok (.iload_n 1, 1) := by decide +kernel
theorem d_Mo_prepare_9 : decode prog_12_method_10_code 9 = .ok (.iaload, 1) := by decide +kernel
theorem d_Mo_prepare_10 : decode prog_12_method_10_code 10 = .ok (.invokevirtual 114, 3) := by decide +kernel
theorem d_Mo_prepare_13 : decode prog_12_method_10_code 13 = .ok (.ifCond .eq 7, 3) := by decide +kernel
theorem d_Mo_prepare_16 : decode prog_12_method_10_code 16 = .ok (.iconst 1, 1) := by decide +kernel
theorem d_Mo_prepare_17 : decode prog_12_method_10_code 17 = .ok (.goto 4, 3) := by decide +kernel
theorem d_Mo_prepare_20 : decode prog_12_method_10_code 20 = .ok (.iconst 0, 1) := by decide +kernel
theorem d_Mo_prepare_21 : decode prog_12_method_10_code 21 = .ok (.ireturn, 1) := by decide +kernel
theorem d_Mo_letter4_0 : decode prog_12_method_9_code 0 = .ok (.aload_n 0, 1) := by decide +kernel
theorem d_Mo_letter4_1 : decode prog_12_method_9_code 1 = .ok (.getfield 27, 3) := by decide +kernel
theorem d_Mo_letter4_4 : decode prog_12_method_9_code 4 = .ok (.bipush 60, 2) := by decide +kernel
theorem d_Mo_letter4_6 : decode prog_12_method_9_code 6 = .ok (.if_icmp .ne 5, 3) := by decide +kernel
theorem d_Mo_letter4_9 : decode prog_12_method_9_code 9 = .ok (.iconst 0, 1) := by decide +kernel
theorem d_Mo_letter4_10 : decode prog_12_method_9_code 10 = .ok (.ireturn, 1) := by decide +kernel
theorem d_Mo_letter4_11 : decode prog_12_method_9_code 11 = .ok (.bipush 7, 2) := by decide +kernel
theorem d_Mo_letter4_13 : decode prog_12_method_9_code 13 = .ok (.aload_n 0, 1) := by decide +kernel
theorem d_Mo_letter4_14 : decode prog_12_method_9_code 14 = .ok (.getfield 27, 3) := by decide +kernel
theorem d_Mo_letter4_17 : decode prog_12_method_9_code 17 = .ok (.imul, 1) := by decide +kernel
theorem d_Mo_letter4_18 : decode prog_12_method_9_code 18 = .ok (.istore 5, 2) := by decide +kernel
theorem d_Mo_letter4_20 : decode prog_12_method_9_code 20 = .ok (.aload_n 0, 1) := by decide +kernel
theorem d_Mo_letter4_21 : decode prog_12_method_9_code 21 = .ok (.getfield 30, 3) := by decide +kernel
theorem d_Mo_letter4_24 : decode prog_12_method_9_code 24 = .ok (.iload 5, 2) := by decide +kernel
theorem d_Mo_letter4_26 : decode prog_12_method_9_code 26 = .ok (.iload_n 1, 1) := by decide +kernel
theorem d_Mo_letter4_27 : decode prog_12_method_9_code 27 = .ok (.iastore, 1) := by decide +kernel
theorem d_Mo_letter4_28 : decode prog_12_method_9_code 28 = .ok (.aload_n 0, 1) := by decide +kernel
theorem d_Mo_letter4_29 : decode prog_12_method_9_code 29 = .ok (.getfield 30, 3) := by decide +kernel
theorem d_Mo_letter4_32 : decode prog_12_method_9_code 32 = .ok (.iload 5, 2) := by decide +kernel
theorem d_Mo_letter4_34 : decode prog_12_method_9_code 34 = .ok (.iconst 1, 1) := by decide +kernel
theorem d_Mo_letter4_35 : decode prog_12_method_9_code 35 = .ok (.iadd, 1) := by decide +kernel
theorem d_Mo_letter4_36 : decode prog_12_method_9_code 36 = .ok (.iload_n 2, 1) := by decide +kernel
theorem d_Mo_letter4_37 : decode prog_12_method_9_code 37 = .ok (.iastore, 1) := by decide +kernel
theorem d_Mo_letter4_38 : decode prog_12_method_9_code 38 = .ok (.aload_n 0, 1) := by decide +kernel
theorem d_Mo_letter4_39 : decode prog_12_method_9_code 39 = .ok (.getfield 30, 3) := by decide +kernel
theorem d_Mo_letter4_42 : decode prog_12_method_9_code 42 = .ok (.iload 5, 2) := by decide +kernel
theorem d_Mo_letter4_44 : decode prog_12_method_9_code 44 = .ok (.iconst 2, 1) := by decide +kernel
theorem d_Mo_letter4_45 : decode prog_12_method_9_code 45 = .ok (.iadd, 1) := by decide +kernel
theorem d_Mo_letter4_46 : decode prog_12_method_9_code 46 = .ok (.iload_n 3, 1) := by decide +kernel
theorem d_Mo_letter4_47 : decode prog_12_method_9_code 47 = .ok (.iastore, 1) := by decide +kernel
theorem d_Mo_letter4_48 : decode prog_12_method_9_code 48 = .ok (.aload_n 0, 1) := by decide +kernel
theorem d_Mo_letter4_49 : decode prog_12_method_9_code 49 = .ok (.getfield 30, 3) := by decide +kernel
theorem d_Mo_letter4_52 : decode prog_12_method_9_code 52 = .ok (.iload 5, 2) := by decide +kernel
theorem d_Mo_letter4_54 : decode prog_12_method_9_code 54 = .ok (.iconst 3, 1) := by decide +kernel
theorem d_Mo_letter4_55 : decode prog_12_method_9_code 55 = .ok (.iadd, 1) := by decide +kernel
theorem d_Mo_letter4_56 : decode prog_12_method_9_code 56 = .ok (.iload 4, 2) := by decide +kernel
theorem d_Mo_letter4_58 : decode prog_12_method_9_code 58 = .ok (.iastore, 1) := by decide +kernel
theorem d_Mo_letter4_59 : decode prog_12_method_9_code 59 = .ok (.aload_n 0, 1) := by decide +kernel
theorem d_Mo_letter4_60 : decode prog_12_method_9_code 60 = .ok (.getfield 30, 3) := by decide +kernel
theorem d_Mo_letter4_63 : decode prog_12_method_9_code 63 = .ok (.iload 5, 2) := by decide +kernel
theorem d_Mo_letter4_65 : decode prog_12_method_9_code 65 = .ok (.iconst 4, 1) := by decide +kernel
theorem d_Mo_letter4_66 : decode prog_12_method_9_code 66 = .ok (.iadd, 1) := by decide +kernel
theorem d_Mo_letter4_67 : decode prog_12_method_9_code 67 = .ok (.iconst (-1), 1) := by decide +kernel
theorem d_Mo_letter4_68 : decode prog_12_method_9_code 68 = .ok (.iastore, 1) := by decide +kernel
theorem d_Mo_letter4_69 : decode prog_12_method_9_code 69 = .ok (.aload_n 0, 1) := by decide +kernel
theorem d_Mo_letter4_70 : decode prog_12_method_9_code 70 = .ok (.getfield 30, 3) := by decide +kernel
theorem d_Mo_letter4_73 : decode prog_12_method_9_code 73 = .ok (.iload 5, 2) := by decide +kernel
theorem d_Mo_letter4_75 : decode prog_12_method_9_code 75 = .ok (.iconst 5, 1) := by decide +kernel
theorem d_Mo_letter4_76 : decode prog_12_method_9_code 76 = .ok (.iadd, 1) := by decide +kernel
theorem d_Mo_letter4_77 : decode prog_12_method_9_code 77 = .ok (.iconst (-1), 1) := by decide +kernel
theorem d_Mo_letter4_78 : decode prog_12_method_9_code 78 = .ok (.iastore, 1) := by decide +kernel
theorem d_Mo_letter4_79 : decode prog_12_method_9_code 79 = .ok (.aload_n 0, 1) := by decide +kernel
theorem d_Mo_letter4_80 : decode prog_12_method_9_code 80 = .ok (.dup, 1) := by decide +kernel
theorem d_Mo_letter4_81 : decode prog_12_method_9_code 81 = .ok (.getfield 27, 3) := by decide +kernel
theorem d_Mo_letter4_84 : decode prog_12_method_9_code 84 = .ok (.iconst 1, 1) := by decide +kernel
theorem d_Mo_letter4_85 : decode prog_12_method_9_code 85 = .ok (.iadd, 1) := by decide +kernel
theorem d_Mo_letter4_86 : decode prog_12_method_9_code 86 = .ok (.putfield 27, 3) := by decide +kernel
theorem d_Mo_letter4_89 : decode prog_12_method_9_code 89 = .ok (.iconst 1, 1) := by decide +kernel
theorem d_Mo_letter4_90 : decode prog_12_method_9_code 90 = .ok (.ireturn, 1) := by decide +kernel
theorem d_Mo_propose_0 : decode prog_12_method_30_code 0 = .ok (.aload_n 0, 1) := by decide +kernel
theorem d_Mo_propose_1 : decode prog_12_method_30_code 1 = .ok (.iload_n 1, 1) := by decide +kernel
theorem d_Mo_propose_2 : decode prog_12_method_30_code 2 = .ok (.invokestatic 158, 3) := by decide +kernel
theorem d_Mo_propose_5 : decode prog_12_method_30_code 5 = .ok (.ifCond .eq 7, 3) := by decide +kernel
theorem d_Mo_propose_8 : decode prog_12_method_30_code 8 = .ok (.iconst 1, 1) := by decide +kernel
theorem d_Mo_propose_9 : decode prog_12_method_30_code 9 = .ok (.goto 4, 3) := by decide +kernel
theorem d_Mo_propose_12 : decode prog_12_method_30_code 12 = .ok (.iconst 0, 1) := by decide +kernel
theorem d_Mo_propose_13 : decode prog_12_method_30_code 13 = .ok (.putfield 7, 3) := by decide +kernel
theorem d_Mo_propose_16 : decode prog_12_method_30_code 16 = .ok (.aload_n 0, 1) := by decide +kernel
theorem d_Mo_propose_17 : decode prog_12_method_30_code 17 = .ok (.getfield 7, 3) := by decide +kernel
theorem d_Mo_propose_20 : decode prog_12_method_30_code 20 = .ok (.ifCond .eq 5, 3) := by decide +kernel
theorem d_Mo_propose_23 : decode prog_12_method_30_code 23 = .ok (.iconst 0, 1) := by decide +kernel
theorem d_Mo_propose_24 : decode prog_12_method_30_code 24 = .ok (.ireturn, 1) := by decide +kernel
theorem d_Mo_propose_25 : decode prog_12_method_30_code 25 = .ok (.aload_n 0, 1) := by decide +kernel
theorem d_Mo_propose_26 : decode prog_12_method_30_code 26 = .ok (.iload_n 1, 1) := by decide +kernel
theorem d_Mo_propose_27 : decode prog_12_method_30_code 27 = .ok (.invokevirtual 165, 3) := by decide +kernel
theorem d_Mo_propose_30 : decode prog_12_method_30_code 30 = .ok (.istore_n 2, 1) := by decide +kernel
theorem d_Mo_propose_31 : decode prog_12_method_30_code 31 = .ok (.iload_n 2, 1) := by decide +kernel
theorem d_Mo_propose_32 : decode prog_12_method_30_code 32 = .ok (.ifCond .lt 12, 3) := by decide +kernel
theorem d_Mo_propose_35 : decode prog_12_method_30_code 35 = .ok (.aload_n 0, 1) := by decide +kernel
theorem d_Mo_propose_36 : decode prog_12_method_30_code 36 = .ok (.getfield 51, 3) := by decide +kernel
theorem d_Mo_propose_39 : decode prog_12_method_30_code 39 = .ok (.iload_n 1, 1) := by decide +kernel
theorem d_Mo_propose_40 : decode prog_12_method_30_code 40 = .ok (.iaload, 1) := by decide +kernel
theorem d_Mo_propose_41 : decode prog_12_method_30_code 41 = .ok (.ifCond .ne 10, 3) := by decide +kernel
theorem d_Mo_propose_44 : decode prog_12_method_30_code 44 = .ok (.aload_n 0, 1) := by decide +kernel
theorem d_Mo_propose_45 : decode prog_12_method_30_code 45 = .ok (.iconst 2, 1) := by decide +kernel
theorem d_Mo_propose_46 : decode prog_12_method_30_code 46 = .ok (.putfield 7, 3) := by decide +kernel
theorem d_Mo_propose_49 : decode prog_12_method_30_code 49 = .ok (.iconst 0, 1) := by decide +kernel
theorem d_Mo_propose_50 : decode prog_12_method_30_code 50 = .ok (.ireturn, 1) := by decide +kernel
theorem d_Mo_propose_51 : decode prog_12_method_30_code 51 = .ok (.aload_n 0, 1) := by decide +kernel
theorem d_Mo_propose_52 : decode prog_12_method_30_code 52 = .ok (.iload_n 1, 1) := by decide +kernel
theorem d_Mo_propose_53 : decode prog_12_method_30_code 53 = .ok (.iload_n 2, 1) := by decide +kernel
theorem d_Mo_propose_54 : decode prog_12_method_30_code 54 = .ok (.aload_n 0, 1) := by decide +kernel
theorem d_Mo_propose_55 : decode prog_12_method_30_code 55 = .ok (.getfield 39, 3) := by decide +kernel
theorem d_Mo_propose_58 : decode prog_12_method_30_code 58 = .ok (.iload_n 1, 1) := by decide +kernel
theorem d_Mo_propose_59 : decode prog_12_method_30_code 59 = .ok (.iaload, 1) := by decide +kernel
theorem d_Mo_propose_60 : decode prog_12_method_30_code 60 = .ok (.aload_n 0, 1) := by decide +kernel
theorem d_Mo_propose_61 : decode prog_12_method_30_code 61 = .ok (.getfield 48, 3) := by decide +kernel
theorem d_Mo_propose_64 : decode prog_12_method_30_code 64 = .ok (.bipush 24, 2) := by decide +kernel
theorem d_Mo_propose_66 : decode prog_12_method_30_code 66 = .ok (.iload_n 1, 1) := by decide +kernel
theorem d_Mo_propose_67 : decode prog_12_method_30_code 67 = .ok (.imul, 1) := by decide +kernel
theorem d_Mo_propose_68 : decode prog_12_method_30_code 68 = .ok (.aload_n 0, 1) := by decide +kernel
theorem d_Mo_propose_69 : decode prog_12_method_30_code 69 = .ok (.getfield 51, 3) := by decide +kernel
theorem d_Mo_propose_72 : decode prog_12_method_30_code 72 = .ok (.iload_n 1, 1) := by decide +kernel
theorem d_Mo_propose_73 : decode prog_12_method_30_code 73 = .ok (.iaload, 1) := by decide +kernel
theorem d_Mo_propose_74 : decode prog_12_method_30_code 74 = .ok (.invokevirtual 150, 3) := by decide +kernel
theorem d_Mo_propose_77 : decode prog_12_method_30_code 77 = .ok (.aload_n 0, 1) := by decide +kernel
theorem d_Mo_propose_78 : decode prog_12_method_30_code 78 = .ok (.getfield 51, 3) := by decide +kernel
theorem d_Mo_propose_81 : decode prog_12_method_30_code 81 = .ok (.iload_n 1, 1) := by decide +kernel
theorem d_Mo_propose_82 : decode prog_12_method_30_code 82 = .ok (.iconst 0, 1) := by decide +kernel
theorem d_Mo_propose_83 : decode prog_12_method_30_code 83 = .ok (.iastore, 1) := by decide +kernel
theorem d_Mo_propose_84 : decode prog_12_method_30_code 84 = .ok (.aload_n 0, 1) := by decide +kernel
theorem d_Mo_propose_85 : decode prog_12_method_30_code 85 = .ok (.iload_n 1, 1) := by decide +kernel
theorem d_Mo_propose_86 : decode prog_12_method_30_code 86 = .ok (.iload_n 2, 1) := by decide +kernel
theorem d_Mo_propose_87 : decode prog_12_method_30_code 87 = .ok (.invokevirtual 140, 3) := by decide +kernel
theorem d_Mo_propose_90 : decode prog_12_method_30_code 90 = .ok (.pop, 1) := by decide +kernel
theorem d_Mo_propose_91 : decode prog_12_method_30_code 91 = .ok (.iload_n 2, 1) := by decide +kernel
theorem d_Mo_propose_92 : decode prog_12_method_30_code 92 = .ok (.ireturn, 1) := by decide +kernel
theorem d_Mo_firstFree_0 : decode prog_12_method_24_code 0 = .ok (.aload_n 0, 1) := by decide +kernel
theorem d_Mo_firstFree_1 : decode prog_12_method_24_code 1 = .ok (.getfield 36, 3) := by decide +kernel
theorem d_Mo_firstFree_4 : decode prog_12_method_24_code 4 = .ok (.iload_n 1, 1) := by decide +kernel
theorem d_Mo_firstFree_5 : decode prog_12_method_24_code 5 = .ok (.iaload, 1) := by decide +kernel
theorem d_Mo_firstFree_6 : decode prog_12_method_24_code 6 = .ok (.iconst 2, 1) := by decide +kernel
theorem d_Mo_firstFree_7 : decode prog_12_method_24_code 7 = .ok (.if_icmp .eq 5, 3) := by decide +kernel
theorem d_Mo_firstFree_10 : decode prog_12_method_24_code 10 = .ok (.iconst (-1), 1) := by decide +kernel
theorem d_Mo_firstFree_11 : decode prog_12_method_24_code 11 = .ok (.ireturn, 1) := by decide +kernel
theorem d_Mo_firstFree_12 : decode prog_12_method_24_code 12 = .ok (.iconst 0, 1) := by decide +kernel
theorem d_Mo_firstFree_13 : decode prog_12_method_24_code 13 = .ok (.istore_n 2, 1) := by decide +kernel
theorem d_Mo_firstFree_14 : decode prog_12_method_24_code 14 = .ok (.iload_n 2, 1) := by decide +kernel
theorem d_Mo_firstFree_15 : decode prog_12_method_24_code 15 = .ok (.bipush 8, 2) := by decide +kernel
theorem d_Mo_firstFree_17 : decode prog_12_method_24_code 17 = .ok (.if_icmp .ge 37, 3) := by decide +kernel
theorem d_Mo_firstFree_20 : decode prog_12_method_24_code 20 = .ok (.aload_n 0, 1) := by decide +kernel
theorem d_Mo_firstFree_21 : decode prog_12_method_24_code 21 = .ok (.getfield 54, 3) := by decide +kernel
theorem d_Mo_firstFree_24 : decode prog_12_method_24_code 24 = .ok (.bipush 8, 2) := by decide +kernel
theorem d_Mo_firstFree_26 : decode prog_12_method_24_code 26 = .ok (.iload_n 1, 1) := by decide +kernel
theorem d_Mo_firstFree_27 : decode prog_12_method_24_code 27 = .ok (.imul, 1) := by decide +kernel
theorem d_Mo_firstFree_28 : decode prog_12_method_24_code 28 = .ok (.iload_n 2, 1) := by decide +kernel
theorem d_Mo_firstFree_29 : decode prog_12_method_24_code 29 = .ok (.iadd, 1) := by decide +kernel
theorem d_Mo_firstFree_30 : decode prog_12_method_24_code 30 = .ok (.iaload, 1) := by decide +kernel
theorem d_Mo_firstFree_31 : decode prog_12_method_24_code 31 = .ok (.ifCond .ne 17, 3) := by decide +kernel
theorem d_Mo_firstFree_34 : decode prog_12_method_24_code 34 = .ok (.aload_n 0, 1) := by decide +kernel
theorem d_Mo_firstFree_35 : decode prog_12_method_24_code 35 = .ok (.getfield 57, 3) := by decide +kernel
theorem d_Mo_firstFree_38 : decode prog_12_method_24_code 38 = .ok (.bipush 8, 2) := by decide +kernel
theorem d_Mo_firstFree_40 : decode prog_12_method_24_code 40 = .ok (.iload_n 1, 1) := by decide +kernel
theorem d_Mo_firstFree_41 : decode prog_12_method_24_code 41 = .ok (.imul, 1) := by decide +kernel
theorem d_Mo_firstFree_42 : decode prog_12_method_24_code 42 = .ok (.iload_n 2, 1) := by decide +kernel
theorem d_Mo_firstFree_43 : decode prog_12_method_24_code 43 = .ok (.iadd, 1) := by decide +kernel
theorem d_Mo_firstFree_44 : decode prog_12_method_24_code 44 = .ok (.iaload, 1) := by decide +kernel
theorem d_Mo_firstFree_45 : decode prog_12_method_24_code 45 = .ok (.ifCond .eq 9, 3) := by decide +kernel
theorem d_Mo_firstFree_48 : decode prog_12_method_24_code 48 = .ok (.iinc 2 1, 3) := by decide +kernel
theorem d_Mo_firstFree_51 : decode prog_12_method_24_code 51 = .ok (.goto (-37), 3) := by decide +kernel
theorem d_Mo_firstFree_54 : decode prog_12_method_24_code 54 = .ok (.iload_n 2, 1) := by decide +kernel
theorem d_Mo_firstFree_55 : decode prog_12_method_24_code 55 = .ok (.bipush 8, 2) := by decide +kernel
theorem d_Mo_firstFree_57 : decode prog_12_method_24_code 57 = .ok (.if_icmp .ne 7, 3) := by decide +kernel
theorem d_Mo_firstFree_60 : decode prog_12_method_24_code 60 = .ok (.iconst (-1), 1) := by decide +kernel
theorem d_Mo_firstFree_61 : decode prog_12_method_24_code 61 = .ok (.goto 4, 3) := by decide +kernel
theorem d_Mo_firstFree_64 : decode prog_12_method_24_code 64 = .ok (.iload_n 2, 1) := by decide +kernel
theorem d_Mo_firstFree_65 : decode prog_12_method_24_code 65 = .ok (.ireturn, 1) := by decide +kernel
theorem d_Mo_putForward_0 : decode prog_12_method_19_code 0 = .ok (.bipush 8, 2) := by decide +kernel
theorem d_Mo_putForward_2 : decode prog_12_method_19_code 2 = .ok (.iload_n 1, 1) := by decide +kernel
theorem d_Mo_putForward_3 : decode prog_12_method_19_code 3 = .ok (.imul, 1) := by decide +kernel
theorem d_Mo_putForward_4 : decode prog_12_method_19_code 4 = .ok (.iload_n 2, 1) := by decide +kernel
theorem d_Mo_putForward_5 : decode prog_12_method_19_code 5 = .ok (.iadd, 1) := by decide +kernel
theorem d_Mo_putForward_6 : decode prog_12_method_19_code 6 = .ok (.istore 7, 2) := by decide +kernel
theorem d_Mo_putForward_8 : decode prog_12_method_19_code 8 = .ok (.aload_n 0, 1) := by decide +kernel
theorem d_Mo_putForward_9 : decode prog_12_method_19_code 9 = .ok (.getfield 57, 3) := by decide +kernel
theorem d_Mo_putForward_12 : decode prog_12_method_19_code 12 = .ok (.iload 7, 2) := by decide +kernel
theorem d_Mo_putForward_14 : decode prog_12_method_19_code 14 = .ok (.iload_n 3, 1) := by decide +kernel
theorem d_Mo_putForward_15 : decode prog_12_method_19_code 15 = .ok (.iastore, 1) := by decide +kernel
theorem d_Mo_putForward_16 : decode prog_12_method_19_code 16 = .ok (.aload_n 0, 1) := by decide +kernel
theorem d_Mo_putForward_17 : decode prog_12_method_19_code 17 = .ok (.getfield 60, 3) := by decide +kernel
theorem d_Mo_putForward_20 : decode prog_12_method_19_code 20 = .ok (.iload 7, 2) := by decide +kernel
theorem d_Mo_putForward_22 : decode prog_12_method_19_code 22 = .ok (.iload 6, 2) := by decide +kernel
theorem d_Mo_putForward_24 : decode prog_12_method_19_code 24 = .ok (.iastore, 1) := by decide +kernel
theorem d_Mo_putForward_25 : decode prog_12_method_19_code 25 = .ok (.aload_n 0, 1) := by decide +kernel
theorem d_Mo_putForward_26 : decode prog_12_method_19_code 26 = .ok (.getfield 63, 3) := by decide +kernel
theorem d_Mo_putForward_29 : decode prog_12_method_19_code 29 = .ok (.iload 7, 2) := by decide +kernel
theorem d_Mo_putForward_31 : decode prog_12_method_19_code 31 = .ok (.iconst 0, 1) := by decide +kernel
theorem d_Mo_putForward_32 : decode prog_12_method_19_code 32 = .ok (.iastore, 1) := by decide +kernel
theorem d_Mo_putForward_33 : decode prog_12_method_19_code 33 = .ok (.iconst 0, 1) := by decide +kernel
theorem d_Mo_putForward_34 : decode prog_12_method_19_code 34 = .ok (.istore 8, 2) := by decide +kernel
theorem d_Mo_putForward_36 : decode prog_12_method_19_code 36 = .ok (.iload 8, 2) := by decide +kernel
theorem d_Mo_putForward_38 : decode prog_12_method_19_code 38 = .ok (.iload 6, 2) := by decide +kernel
theorem d_Mo_putForward_40 : decode prog_12_method_19_code 40 = .ok (.if_icmp .ge 30, 3) := by decide +kernel
theorem d_Mo_putForward_43 : decode prog_12_method_19_code 43 = .ok (.aload_n 0, 1) := by decide +kernel
theorem d_Mo_putForward_44 : decode prog_12_method_19_code 44 = .ok (.getfield 66, 3) := by decide +kernel
theorem d_Mo_putForward_47 : decode prog_12_method_19_code 47 = .ok (.bipush 24, 2) := by decide +kernel
theorem d_Mo_putForward_49 : decode prog_12_method_19_code 49 = .ok (.iload 7, 2) := by decide +kernel
theorem d_Mo_putForward_51 : decode prog_12_method_19_code 51 = .ok (.imul, 1) := by decide +kernel
theorem d_Mo_putForward_52 : decode prog_12_method_19_code 52 = .ok (.iload 8, 2) := by decide +kernel
theorem d_Mo_putForward_54 : decode prog_12_method_19_code 54 = .ok (.iadd, 1) := by decide +kernel
theorem d_Mo_putForward_55 : decode prog_12_method_19_code 55 = .ok (.aload 4, 2) := by decide +kernel
theorem d_Mo_putForward_57 : decode prog_12_method_19_code 57 = .ok (.iload 5, 2) := by decide +kernel
theorem d_Mo_putForward_59 : decode prog_12_method_19_code 59 = .ok (.iload 8, 2) := by decide +kernel
theorem d_Mo_putForward_61 : decode prog_12_method_19_code 61 = .ok (.iadd, 1) := by decide +kernel
theorem d_Mo_putForward_62 : decode prog_12_method_19_code 62 = .ok (.iaload, 1) := by decide +kernel
theorem d_Mo_putForward_63 : decode prog_12_method_19_code 63 = .ok (.iastore, 1) := by decide +kernel
theorem d_Mo_putForward_64 : decode prog_12_method_19_code 64 = .ok (.iinc 8 1, 3) := by decide +kernel
theorem d_Mo_putForward_67 : decode prog_12_method_19_code 67 = .ok (.goto (-31), 3) := by decide +kernel
theorem d_Mo_putForward_70 : decode prog_12_method_19_code 70 = .ok (.return_, 1) := by decide +kernel
theorem d_Mo_acceptAll_0 : decode prog_12_method_12_code 0 = .ok (.iconst 0, 1) := by decide +kernel
theorem d_Mo_acceptAll_1 : decode prog_12_method_12_code 1 = .ok (.istore_n 3, 1) := by decide +kernel
theorem d_Mo_acceptAll_2 : decode prog_12_method_12_code 2 = .ok (.iconst 0, 1) := by decide +kernel
theorem d_Mo_acceptAll_3 : decode prog_12_method_12_code 3 = .ok (.istore 4, 2) := by decide +kernel
theorem d_Mo_acceptAll_5 : decode prog_12_method_12_code 5 = .ok (.iload 4, 2) := by decide +kernel
theorem d_Mo_acceptAll_7 : decode prog_12_method_12_code 7 = .ok (.bipush 7, 2) := by decide +kernel
theorem d_Mo_acceptAll_9 : decode prog_12_method_12_code 9 = .ok (.if_icmp .ge 20, 3) := by decide +kernel
theorem d_Mo_acceptAll_12 : decode prog_12_method_12_code 12 = .ok (.iload_n 3, 1) := by decide +kernel
theorem d_Mo_acceptAll_13 : decode prog_12_method_12_code 13 = .ok (.aload_n 0, 1) := by decide +kernel
theorem d_Mo_acceptAll_14 : decode prog_12_method_12_code 14 = .ok (.iload_n 1, 1) := by decide +kernel
theorem d_Mo_acceptAll_15 : decode prog_12_method_12_code 15 = .ok (.iload_n 2, 1) := by decide +kernel
theorem d_Mo_acceptAll_16 : decode prog_12_method_12_code 16 = .ok (.iload 4, 2) := by decide +kernel
theorem d_Mo_acceptAll_18 : decode prog_12_method_12_code 18 = .ok (.invokevirtual 122, 3) := by decide +kernel
theorem d_Mo_acceptAll_21 : decode prog_12_method_12_code 21 = .ok (.iadd, 1) := by decide +kernel
theorem d_Mo_acceptAll_22 : decode prog_12_method_12_code 22 = .ok (.istore_n 3, 1) := by decide +kernel
theorem d_Mo_acceptAll_23 : decode prog_12_method_12_code 23 = .ok (.iinc 4 1, 3) := by decide +kernel
theorem d_Mo_acceptAll_26 : decode prog_12_method_12_code 26 = .ok (.goto (-21), 3) := by decide +kernel
theorem d_Mo_acceptAll_29 : decode prog_12_method_12_code 29 = .ok (.iload_n 3, 1) := by decide +kernel
theorem d_Mo_acceptAll_30 : decode prog_12_method_12_code 30 = .ok (.ireturn, 1) := by decide +kernel
theorem d_Mo_accept_0 : decode prog_12_method_11_code 0 = .ok (.aload_n 0, 1) := by decide +kernel
theorem d_Mo_accept_1 : decode prog_12_method_11_code 1 = .ok (.iconst 2, 1) := by decide +kernel
theorem d_Mo_accept_2 : decode prog_12_method_11_code 2 = .ok (.iload_n 3, 1) := by decide +kernel
theorem d_Mo_accept_3 : decode prog_12_method_11_code 3 = .ok (.iload_n 1, 1) := by decide +kernel
theorem d_Mo_accept_4 : decode prog_12_method_11_code 4 = .ok (.aload_n 0, 1) := by decide +kernel
theorem d_Mo_accept_5 : decode prog_12_method_11_code 5 = .ok (.getfield 39, 3) := by decide +kernel
theorem d_Mo_accept_8 : decode prog_12_method_11_code 8 = .ok (.iload_n 1, 1) := by decide +kernel
theorem d_Mo_accept_9 : decode prog_12_method_11_code 9 = .ok (.iaload, 1) := by decide +kernel
theorem d_Mo_accept_10 : decode prog_12_method_11_code 10 = .ok (.invokevirtual 114, 3) := by decide +kernel
theorem d_Mo_accept_13 : decode prog_12_method_11_code 13 = .ok (.ifCond .ne 5, 3) := by decide +kernel
theorem d_Mo_accept_16 : decode prog_12_method_11_code 16 = .ok (.iconst 0, 1) := by decide +kernel
theorem d_Mo_accept_17 : decode prog_12_method_11_code 17 = .ok (.ireturn, 1) := by decide +kernel
theorem d_Mo_accept_18 : decode prog_12_method_11_code 18 = .ok (.bipush 7, 2) := by decide +kernel
theorem d_Mo_accept_20 : decode prog_12_method_11_code 20 = .ok (.aload_n 0, 1) := by decide +kernel
theorem d_Mo_accept_21 : decode prog_12_method_11_code 21 = .ok (.getfield 27, 3) := by decide +kernel
theorem d_Mo_accept_24 : decode prog_12_method_11_code 24 = .ok (.imul, 1) := by decide +kernel
theorem d_Mo_accept_25 : decode prog_12_method_11_code 25 = .ok (.bipush 7, 2) := by decide +kernel
theorem d_Mo_accept_27 : decode prog_12_method_11_code 27 = .ok (.isub, 1) := by decide +kernel
theorem d_Mo_accept_28 : decode prog_12_method_11_code 28 = .ok (.istore 4, 2) := by decide +kernel
theorem d_Mo_accept_30 : decode prog_12_method_11_code 30 = .ok (.bipush 8, 2) := by decide +kernel
theorem d_Mo_accept_32 : decode prog_12_method_11_code 32 = .ok (.iload_n 1, 1) := by decide +kernel
theorem d_Mo_accept_33 : decode prog_12_method_11_code 33 = .ok (.imul, 1) := by decide +kernel
theorem d_Mo_accept_34 : decode prog_12_method_11_code 34 = .ok (.iload_n 2, 1) := by decide +kernel
theorem d_Mo_accept_35 : decode prog_12_method_11_code 35 = .ok (.iadd, 1) := by decide +kernel
theorem d_Mo_accept_36 : decode prog_12_method_11_code 36 = .ok (.istore 5, 2) := by decide +kernel
theorem d_Mo_accept_38 : decode prog_12_method_11_code 38 = .ok (.aload_n 0, 1) := by decide +kernel
theorem d_Mo_accept_39 : decode prog_12_method_11_code 39 = .ok (.getfield 30, 3) := by decide +kernel
theorem d_Mo_accept_42 : decode prog_12_method_11_code 42 = .ok (.iload 4, 2) := by decide +kernel
theorem d_Mo_accept_44 : decode prog_12_method_11_code 44 = .ok (.iconst 4, 1) := by decide +kernel
theorem d_Mo_accept_45 : decode prog_12_method_11_code 45 = .ok (.iadd, 1) := by decide +kernel
theorem d_Mo_accept_46 : decode prog_12_method_11_code 46 = .ok (.iload_n 2, 1) := by decide +kernel
theorem d_Mo_accept_47 : decode prog_12_method_11_code 47 = .ok (.iastore, 1) := by decide +kernel
theorem d_Mo_accept_48 : decode prog_12_method_11_code 48 = .ok (.aload_n 0, 1) := by decide +kernel
theorem d_Mo_accept_49 : decode prog_12_method_11_code 49 = .ok (.getfield 30, 3) := by decide +kernel
theorem d_Mo_accept_52 : decode prog_12_method_11_code 52 = .ok (.iload 4, 2) := by decide +kernel
theorem d_Mo_accept_54 : decode prog_12_method_11_code 54 = .ok (.iconst 5, 1) := by decide +kernel
theorem d_Mo_accept_55 : decode prog_12_method_11_code 55 = .ok (.iadd, 1) := by decide +kernel
theorem d_Mo_accept_56 : decode prog_12_method_11_code 56 = .ok (.aload_n 0, 1) := by decide +kernel
theorem d_Mo_accept_57 : decode prog_12_method_11_code 57 = .ok (.getfield 57, 3) := by decide +kernel
theorem d_Mo_accept_60 : decode prog_12_method_11_code 60 = .ok (.iload 5, 2) := by decide +kernel
theorem d_Mo_accept_62 : decode prog_12_method_11_code 62 = .ok (.iaload, 1) := by decide +kernel
theorem d_Mo_accept_63 : decode prog_12_method_11_code 63 = .ok (.iastore, 1) := by decide +kernel
theorem d_Mo_accept_64 : decode prog_12_method_11_code 64 = .ok (.aload_n 0, 1) := by decide +kernel
theorem d_Mo_accept_65 : decode prog_12_method_11_code 65 = .ok (.getfield 30, 3) := by decide +kernel
theorem d_Mo_accept_68 : decode prog_12_method_11_code 68 = .ok (.iload 4, 2) := by decide +kernel
theorem d_Mo_accept_70 : decode prog_12_method_11_code 70 = .ok (.bipush 6, 2) := by decide +kernel
theorem d_Mo_accept_72 : decode prog_12_method_11_code 72 = .ok (.iadd, 1) := by decide +kernel
theorem d_Mo_accept_73 : decode prog_12_method_11_code 73 = .ok (.aload_n 0, 1) := by decide +kernel
theorem d_Mo_accept_74 : decode prog_12_method_11_code 74 = .ok (.getfield 60, 3) := by decide +kernel
theorem d_Mo_accept_77 : decode prog_12_method_11_code 77 = .ok (.iload 5, 2) := by decide +kernel
theorem d_Mo_accept_79 : decode prog_12_method_11_code 79 = .ok (.iaload, 1) := by decide +kernel
theorem d_Mo_accept_80 : decode prog_12_method_11_code 80 = .ok (.iastore, 1) := by decide +kernel
theorem d_Mo_accept_81 : decode prog_12_method_11_code 81 = .ok (.iconst 0, 1) := by decide +kernel
theorem d_Mo_accept_82 : decode prog_12_method_11_code 82 = .ok (.istore 6, 2) := by decide +kernel
theorem d_Mo_accept_84 : decode prog_12_method_11_code 84 = .ok (.iload 6, 2) := by decide +kernel
theorem d_Mo_accept_86 : decode prog_12_method_11_code 86 = .ok (.aload_n 0, 1) := by decide +kernel
theorem d_Mo_accept_87 : decode prog_12_method_11_code 87 = .ok (.getfield 60, 3) := by decide +kernel
theorem d_Mo_accept_90 : decode prog_12_method_11_code 90 = .ok (.iload 5, 2) := by decide +kernel
theorem d_Mo_accept_92 : decode prog_12_method_11_code 92 = .ok (.iaload, 1) := by decide +kernel
theorem d_Mo_accept_93 : decode prog_12_method_11_code 93 = .ok (.invokestatic 100, 3) := by decide +kernel
theorem d_Mo_accept_96 : decode prog_12_method_11_code 96 = .ok (.if_icmp .ge 50, 3) := by decide +kernel
theorem d_Mo_accept_99 : decode prog_12_method_11_code 99 = .ok (.aload_n 0, 1) := by decide +kernel
theorem d_Mo_accept_100 : decode prog_12_method_11_code 100 = .ok (.getfield 33, 3) := by decide +kernel
theorem d_Mo_accept_103 : decode prog_12_method_11_code 103 = .ok (.bipush 88, 2) := by decide +kernel
theorem d_Mo_accept_105 : decode prog_12_method_11_code 105 = .ok (.aload_n 0, 1) := by decide +kernel
theorem d_Mo_accept_106 : decode prog_12_method_11_code 106 = .ok (.getfield 27, 3) := by decide +kernel
theorem d_Mo_accept_109 : decode prog_12_method_11_code 109 = .ok (.imul, 1) := by decide +kernel
theorem d_Mo_accept_110 : decode prog_12_method_11_code 110 = .ok (.bipush 88, 2) := by decide +kernel
theorem d_Mo_accept_112 : decode prog_12_method_11_code 112 = .ok (.isub, 1) := by decide +kernel
theorem d_Mo_accept_113 : decode prog_12_method_11_code 113 = .ok (.iload 6, 2) := by decide +kernel
theorem d_Mo_accept_115 : decode prog_12_method_11_code 115 = .ok (.iadd, 1) := by decide +kernel
theorem d_Mo_accept_116 : decode prog_12_method_11_code 116 = .ok (.aload_n 0, 1) := by decide +kernel
theorem d_Mo_accept_117 : decode prog_12_method_11_code 117 = .ok (.aload_n 0, 1) := by decide +kernel
theorem d_Mo_accept_118 : decode prog_12_method_11_code 118 = .ok (.getfield 66, 3) := by decide +kernel
theorem d_Mo_accept_121 : decode prog_12_method_11_code 121 = .ok (.bipush 24, 2) := by decide +kernel
theorem d_Mo_accept_123 : decode prog_12_method_11_code 123 = .ok (.iload 5, 2) := by decide +kernel
theorem d_Mo_accept_125 : decode prog_12_method_11_code 125 = .ok (.imul, 1) := by decide +kernel
theorem d_Mo_accept_126 : decode prog_12_method_11_code 126 = .ok (.aload_n 0, 1) := by decide +kernel
theorem d_Mo_accept_127 : decode prog_12_method_11_code 127 = .ok (.getfield 60, 3) := by decide +kernel
theorem d_Mo_accept_130 : decode prog_12_method_11_code 130 = .ok (.iload 5, 2) := by decide +kernel
theorem d_Mo_accept_132 : decode prog_12_method_11_code 132 = .ok (.iaload, 1) := by decide +kernel
theorem d_Mo_accept_133 : decode prog_12_method_11_code 133 = .ok (.iload_n 3, 1) := by decide +kernel
theorem d_Mo_accept_134 : decode prog_12_method_11_code 134 = .ok (.iload 6, 2) := by decide +kernel
theorem d_Mo_accept_136 : decode prog_12_method_11_code 136 = .ok (.invokevirtual 118, 3) := by decide +kernel
theorem d_Mo_accept_139 : decode prog_12_method_11_code 139 = .ok (.iastore, 1) := by decide +kernel
theorem d_Mo_accept_140 : decode prog_12_method_11_code 140 = .ok (.iinc 6 1, 3) := by decide +kernel
theorem d_Mo_accept_143 : decode prog_12_method_11_code 143 = .ok (.goto (-59), 3) := by decide +kernel
theorem d_Mo_accept_146 : decode prog_12_method_11_code 146 = .ok (.iconst 1, 1) := by decide +kernel
theorem d_Mo_accept_147 : decode prog_12_method_11_code 147 = .ok (.ireturn, 1) := by decide +kernel
theorem d_Mo_third_0 : decode prog_12_method_4_code 0 = .ok (.iload_n 0, 1) := by decide +kernel
theorem d_Mo_third_1 : decode prog_12_method_4_code 1 = .ok (.iconst 2, 1) := by decide +kernel
theorem d_Mo_third_2 : decode prog_12_method_4_code 2 = .ok (.iadd, 1) := by decide +kernel
theorem d_Mo_third_3 : decode prog_12_method_4_code 3 = .ok (.iconst 3, 1) := by decide +kernel
theorem d_Mo_third_4 : decode prog_12_method_4_code 4 = .ok (.idiv, 1) := by decide +kernel
theorem d_Mo_third_5 : decode prog_12_method_4_code 5 = .ok (.ireturn, 1) := by decide +kernel
theorem d_Mo_shareByte_0 : decode prog_12_method_5_code 0 = .ok (.iload_n 3, 1) := by decide +kernel
theorem d_Mo_shareByte_1 : decode prog_12_method_5_code 1 = .ok (.invokestatic 100, 3) := by decide +kernel
theorem d_Mo_shareByte_4 : decode prog_12_method_5_code 4 = .ok (.istore 6, 2) := by decide +kernel
theorem d_Mo_shareByte_6 : decode prog_12_method_5_code 6 = .ok (.iload 4, 2) := by decide +kernel
theorem d_Mo_shareByte_8 : decode prog_12_method_5_code 8 = .ok (.iconst 1, 1) := by decide +kernel
theorem d_Mo_shareByte_9 : decode prog_12_method_5_code 9 = .ok (.iadd, 1) := by decide +kernel
theorem d_Mo_shareByte_10 : decode prog_12_method_5_code 10 = .ok (.istore 7, 2) := by decide +kernel
theorem d_Mo_shareByte_12 : decode prog_12_method_5_code 12 = .ok (.iconst 0, 1) := by decide +kernel
theorem d_Mo_shareByte_13 : decode prog_12_method_5_code 13 = .ok (.istore 8, 2) := by decide +kernel
theorem d_Mo_shareByte_15 : decode prog_12_method_5_code 15 = .ok (.iconst 2, 1) := by decide +kernel
theorem d_Mo_shareByte_16 : decode prog_12_method_5_code 16 = .ok (.istore 9, 2) := by decide +kernel
theorem d_Mo_shareByte_18 : decode prog_12_method_5_code 18 = .ok (.iload 9, 2) := by decide +kernel
theorem d_Mo_shareByte_20 : decode prog_12_method_5_code 20 = .ok (.ifCond .lt 52, 3) := by decide +kernel
theorem d_Mo_shareByte_23 : decode prog_12_method_5_code 23 = .ok (.iload 6, 2) := by decide +kernel
theorem d_Mo_shareByte_25 : decode prog_12_method_5_code 25 = .ok (.iload 9, 2) := by decide +kernel
theorem d_Mo_shareByte_27 : decode prog_12_method_5_code 27 = .ok (.imul, 1) := by decide +kernel
theorem d_Mo_shareByte_28 : decode prog_12_method_5_code 28 = .ok (.iload 5, 2) := by decide +kernel
theorem d_Mo_shareByte_30 : decode prog_12_method_5_code 30 = .ok (.iadd, 1) := by decide +kernel
theorem d_Mo_shareByte_31 : decode prog_12_method_5_code 31 = .ok (.iload_n 3, 1) := by decide +kernel
theorem d_Mo_shareByte_32 : decode prog_12_method_5_code 32 = .ok (.if_icmp .ge 18, 3) := by decide +kernel
theorem d_Mo_shareByte_35 : decode prog_12_method_5_code 35 = .ok (.aload_n 1, 1) := by decide +kernel
theorem d_Mo_shareByte_36 : decode prog_12_method_5_code 36 = .ok (.iload_n 2, 1) := by decide +kernel
theorem d_Mo_shareByte_37 : decode prog_12_method_5_code 37 = .ok (.iload 6, 2) := by decide +kernel
theorem d_Mo_shareByte_39 : decode prog_12_method_5_code 39 = .ok (.iload 9, 2) := by decide +kernel
theorem d_Mo_shareByte_41 : decode prog_12_method_5_code 41 = .ok (.imul, 1) := by decide +kernel
theorem d_Mo_shareByte_42 : decode prog_12_method_5_code 42 = .ok (.iadd, 1) := by decide +kernel
theorem d_Mo_shareByte_43 : decode prog_12_method_5_code 43 = .ok (.iload 5, 2) := by decide +kernel
theorem d_Mo_shareByte_45 : decode prog_12_method_5_code 45 = .ok (.iadd, 1) := by decide +kernel
theorem d_Mo_shareByte_46 : decode prog_12_method_5_code 46 = .ok (.iaload, 1) := by decide +kernel
theorem d_Mo_shareByte_47 : decode prog_12_method_5_code 47 = .ok (.goto 4, 3) := by decide +kernel
theorem d_Mo_shareByte_50 : decode prog_12_method_5_code 50 = .ok (.iconst 0, 1) := by decide +kernel
theorem d_Mo_shareByte_51 : decode prog_12_method_5_code 51 = .ok (.istore 10, 2) := by decide +kernel
theorem d_Mo_shareByte_53 : decode prog_12_method_5_code 53 = .ok (.aload_n 0, 1) := by decide +kernel
theorem d_Mo_shareByte_54 : decode prog_12_method_5_code 54 = .ok (.iload 8, 2) := by decide +kernel
theorem d_Mo_shareByte_56 : decode prog_12_method_5_code 56 = .ok (.iload 7, 2) := by decide +kernel
theorem d_Mo_shareByte_58 : decode prog_12_method_5_code 58 = .ok (.invokevirtual 104, 3) := by decide +kernel
theorem d_Mo_shareByte_61 : decode prog_12_method_5_code 61 = .ok (.iload 10, 2) := by decide +kernel
theorem d_Mo_shareByte_63 : decode prog_12_method_5_code 63 = .ok (.ixor, 1) := by decide +kernel
theorem d_Mo_shareByte_64 : decode prog_12_method_5_code 64 = .ok (.istore 8, 2) := by decide +kernel
theorem d_Mo_shareByte_66 : decode prog_12_method_5_code 66 = .ok (.iinc 9 (-1), 3) := by decide +kernel
theorem d_Mo_shareByte_69 : decode prog_12_method_5_code 69 = .ok (.goto (-51), 3) := by decide +kernel
theorem d_Mo_shareByte_72 : decode prog_12_method_5_code 72 = .ok (.iload 8, 2) := by decide +kernel
theorem d_Mo_shareByte_74 : decode prog_12_method_5_code 74 = .ok (.ireturn, 1) := by decide +kernel
theorem d_Mo_product_0 : decode prog_12_method_3_code 0 = .ok (.iload_n 1, 1) := by decide +kernel
theorem d_Mo_product_1 : decode prog_12_method_3_code 1 = .ok (.ifCond .eq 7, 3) := by decide +kernel
theorem d_Mo_product_4 : decode prog_12_method_3_code 4 = .ok (.iload_n 2, 1) := by decide +kernel
theorem d_Mo_product_5 : decode prog_12_method_3_code 5 = .ok (.ifCond .ne 7, 3) := by decide +kernel
theorem d_Mo_product_8 : decode prog_12_method_3_code 8 = .ok (.iconst 0, 1) := by decide +kernel
theorem d_Mo_product_9 : decode prog_12_method_3_code 9 = .ok (.goto 21, 3) := by decide +kernel
theorem d_Mo_product_12 : decode prog_12_method_3_code 12 = .ok (.aload_n 0, 1) := by decide +kernel
theorem d_Mo_product_13 : decode prog_12_method_3_code 13 = .ok (.getfield 69, 3) := by decide +kernel
theorem d_Mo_product_16 : decode prog_12_method_3_code 16 = .ok (.aload_n 0, 1) := by decide +kernel
theorem d_Mo_product_17 : decode prog_12_method_3_code 17 = .ok (.getfield 72, 3) := by decide +kernel
theorem d_Mo_product_20 : decode prog_12_method_3_code 20 = .ok (.iload_n 1, 1) := by decide +kernel
theorem d_Mo_product_21 : decode prog_12_method_3_code 21 = .ok (.iaload, 1) := by decide +kernel
theorem d_Mo_product_22 : decode prog_12_method_3_code 22 = .ok (.aload_n 0, 1) := by decide +kernel
theorem d_Mo_product_23 : decode prog_12_method_3_code 23 = .ok (.getfield 72, 3) := by decide +kernel
theorem d_Mo_product_26 : decode prog_12_method_3_code 26 = .ok (.iload_n 2, 1) := by decide +kernel
theorem d_Mo_product_27 : decode prog_12_method_3_code 27 = .ok (.iaload, 1) := by decide +kernel
theorem d_Mo_product_28 : decode prog_12_method_3_code 28 = .ok (.iadd, 1) := by decide +kernel
theorem d_Mo_product_29 : decode prog_12_method_3_code 29 = .ok (.iaload, 1) := by decide +kernel
theorem d_Mo_product_30 : decode prog_12_method_3_code 30 = .ok (.ireturn, 1) := by decide +kernel
theorem d_Mo_resend_0 : decode prog_12_method_31_code 0 = .ok (.aload_n 0, 1) := by decide +kernel
theorem d_Mo_resend_1 : decode prog_12_method_31_code 1 = .ok (.iload_n 1, 1) := by decide +kernel
theorem d_Mo_resend_2 : decode prog_12_method_31_code 2 = .ok (.invokestatic 158, 3) := by decide +kernel
theorem d_Mo_resend_5 : decode prog_12_method_31_code 5 = .ok (.ifCond .eq 7, 3) := by decide +kernel
theorem d_Mo_resend_8 : decode prog_12_method_31_code 8 = .ok (.iconst 1, 1) := by decide +kernel
theorem d_Mo_resend_9 : decode prog_12_method_31_code 9 = .ok (.goto 4, 3) := by decide +kernel
theorem d_Mo_resend_12 : decode prog_12_method_31_code 12 = .ok (.iconst 0, 1) := by decide +kernel
theorem d_Mo_resend_13 : decode prog_12_method_31_code 13 = .ok (.putfield 7, 3) := by decide +kernel
theorem d_Mo_resend_16 : decode prog_12_method_31_code 16 = .ok (.aload_n 0, 1) := by decide +kernel
theorem d_Mo_resend_17 : decode prog_12_method_31_code 17 = .ok (.getfield 7, 3) := by decide +kernel
theorem d_Mo_resend_20 : decode prog_12_method_31_code 20 = .ok (.ifCond .eq 5, 3) := by decide +kernel
theorem d_Mo_resend_23 : decode prog_12_method_31_code 23 = .ok (.iconst 0, 1) := by decide +kernel
theorem d_Mo_resend_24 : decode prog_12_method_31_code 24 = .ok (.ireturn, 1) := by decide +kernel
theorem d_Mo_resend_25 : decode prog_12_method_31_code 25 = .ok (.iconst 0, 1) := by decide +kernel
theorem d_Mo_resend_26 : decode prog_12_method_31_code 26 = .ok (.istore_n 2, 1) := by decide +kernel
theorem d_Mo_resend_27 : decode prog_12_method_31_code 27 = .ok (.iconst 0, 1) := by decide +kernel
theorem d_Mo_resend_28 : decode prog_12_method_31_code 28 = .ok (.istore_n 3, 1) := by decide +kernel
theorem d_Mo_resend_29 : decode prog_12_method_31_code 29 = .ok (.iload_n 3, 1) := by decide +kernel
theorem d_Mo_resend_30 : decode prog_12_method_31_code 30 = .ok (.bipush 7, 2) := by decide +kernel
theorem d_Mo_resend_32 : decode prog_12_method_31_code 32 = .ok (.if_icmp .ge 41, 3) := by decide +kernel
theorem d_Mo_resend_35 : decode prog_12_method_31_code 35 = .ok (.aload_n 0, 1) := by decide +kernel
theorem d_Mo_resend_36 : decode prog_12_method_31_code 36 = .ok (.getfield 36, 3) := by decide +kernel
theorem d_Mo_resend_39 : decode prog_12_method_31_code 39 = .ok (.iload_n 1, 1) := by decide +kernel
theorem d_Mo_resend_40 : decode prog_12_method_31_code 40 = .ok (.iaload, 1) := by decide +kernel
theorem d_Mo_resend_41 : decode prog_12_method_31_code 41 = .ok (.iconst 1, 1) := by decide +kernel
theorem d_Mo_resend_42 : decode prog_12_method_31_code 42 = .ok (.if_icmp .ne 31, 3) := by decide +kernel
theorem d_Mo_resend_45 : decode prog_12_method_31_code 45 = .ok (.aload_n 0, 1) := by decide +kernel
theorem d_Mo_resend_46 : decode prog_12_method_31_code 46 = .ok (.getfield 42, 3) := by decide +kernel
theorem d_Mo_resend_49 : decode prog_12_method_31_code 49 = .ok (.iload_n 1, 1) := by decide +kernel
theorem d_Mo_resend_50 : decode prog_12_method_31_code 50 = .ok (.iaload, 1) := by decide +kernel
theorem d_Mo_resend_51 : decode prog_12_method_31_code 51 = .ok (.iload_n 3, 1) := by decide +kernel
theorem d_Mo_resend_52 : decode prog_12_method_31_code 52 = .ok (.ishr, 1) := by decide +kernel
theorem d_Mo_resend_53 : decode prog_12_method_31_code 53 = .ok (.iconst 1, 1) := by decide +kernel
theorem d_Mo_resend_54 : decode prog_12_method_31_code 54 = .ok (.iand, 1) := by decide +kernel
theorem d_Mo_resend_55 : decode prog_12_method_31_code 55 = .ok (.ifCond .ne 12, 3) := by decide +kernel
theorem d_Mo_resend_58 : decode prog_12_method_31_code 58 = .ok (.iload_n 2, 1) := by decide +kernel
theorem d_Mo_resend_59 : decode prog_12_method_31_code 59 = .ok (.aload_n 0, 1) := by decide +kernel
theorem d_Mo_resend_60 : decode prog_12_method_31_code 60 = .ok (.iload_n 1, 1) := by decide +kernel
theorem d_Mo_resend_61 : decode prog_12_method_31_code 61 = .ok (.iload_n 3, 1) := by decide +kernel
theorem d_Mo_resend_62 : decode prog_12_method_31_code 62 = .ok (.invokevirtual 162, 3) := by decide +kernel
theorem d_Mo_resend_65 : decode prog_12_method_31_code 65 = .ok (.iadd, 1) := by decide +kernel
theorem d_Mo_resend_66 : decode prog_12_method_31_code 66 = .ok (.istore_n 2, 1) := by decide +kernel
theorem d_Mo_resend_67 : decode prog_12_method_31_code 67 = .ok (.iinc 3 1, 3) := by decide +kernel
theorem d_Mo_resend_70 : decode prog_12_method_31_code 70 = .ok (.goto (-41), 3) := by decide +kernel
theorem d_Mo_resend_73 : decode prog_12_method_31_code 73 = .ok (.iconst 0, 1) := by decide +kernel
theorem d_Mo_resend_74 : decode prog_12_method_31_code 74 = .ok (.istore_n 3, 1) := by decide +kernel
theorem d_Mo_resend_75 : decode prog_12_method_31_code 75 = .ok (.iload_n 3, 1) := by decide +kernel
theorem d_Mo_resend_76 : decode prog_12_method_31_code 76 = .ok (.bipush 8, 2) := by decide +kernel
theorem d_Mo_resend_78 : decode prog_12_method_31_code 78 = .ok (.if_icmp .ge 79, 3) := by decide +kernel
theorem d_Mo_resend_81 : decode prog_12_method_31_code 81 = .ok (.aload_n 0, 1) := by decide +kernel
theorem d_Mo_resend_82 : decode prog_12_method_31_code 82 = .ok (.getfield 36, 3) := by decide +kernel
theorem d_Mo_resend_85 : decode prog_12_method_31_code 85 = .ok (.iload_n 1, 1) := by decide +kernel
theorem d_Mo_resend_86 : decode prog_12_method_31_code 86 = .ok (.iaload, 1) := by decide +kernel
theorem d_Mo_resend_87 : decode prog_12_method_31_code 87 = .ok (.iconst 2, 1) := by decide +kernel
theorem d_Mo_resend_88 : decode prog_12_method_31_code 88 = .ok (.if_icmp .ne 69, 3) := by decide +kernel
theorem d_Mo_resend_91 : decode prog_12_method_31_code 91 = .ok (.iconst 0, 1) := by decide +kernel
theorem d_Mo_resend_92 : decode prog_12_method_31_code 92 = .ok (.istore 4, 2) := by decide +kernel
theorem d_Mo_resend_94 : decode prog_12_method_31_code 94 = .ok (.iload 4, 2) := by decide +kernel
theorem d_Mo_resend_96 : decode prog_12_method_31_code 96 = .ok (.bipush 7, 2) := by decide +kernel
theorem d_Mo_resend_98 : decode prog_12_method_31_code 98 = .ok (.if_icmp .ge 53, 3) := by decide +kernel
theorem d_Mo_resend_101 : decode prog_12_method_31_code 101 = .ok (.aload_n 0, 1) := by decide +kernel
theorem d_Mo_resend_102 : decode prog_12_method_31_code 102 = .ok (.getfield 57, 3) := by decide +kernel
theorem d_Mo_resend_105 : decode prog_12_method_31_code 105 = .ok (.bipush 8, 2) := by decide +kernel
theorem d_Mo_resend_107 : decode prog_12_method_31_code 107 = .ok (.iload_n 1, 1) := by decide +kernel
theorem d_Mo_resend_108 : decode prog_12_method_31_code 108 = .ok (.imul, 1) := by decide +kernel
theorem d_Mo_resend_109 : decode prog_12_method_31_code 109 = .ok (.iload_n 3, 1) := by decide +kernel
theorem d_Mo_resend_110 : decode prog_12_method_31_code 110 = .ok (.iadd, 1) := by decide +kernel
theorem d_Mo_resend_111 : decode prog_12_method_31_code 111 = .ok (.iaload, 1) := by decide +kernel
theorem d_Mo_resend_112 : decode prog_12_method_31_code 112 = .ok (.ifCond .eq 33, 3) := by decide +kernel
theorem d_Mo_resend_115 : decode prog_12_method_31_code 115 = .ok (.aload_n 0, 1) := by decide +kernel
theorem d_Mo_resend_116 : decode prog_12_method_31_code 116 = .ok (.getfield 63, 3) := by decide +kernel
theorem d_Mo_resend_119 : decode prog_12_method_31_code 119 = .ok (.bipush 8, 2) := by decide +kernel
theorem d_Mo_resend_121 : decode prog_12_method_31_code 121 = .ok (.iload_n 1, 1) := by decide +kernel
theorem d_Mo_resend_122 : decode prog_12_method_31_code 122 = .ok (.imul, 1) := by decide +kernel
theorem d_Mo_resend_123 : decode prog_12_method_31_code 123 = .ok (.iload_n 3, 1) := by decide +kernel
theorem d_Mo_resend_124 : decode prog_12_method_31_code 124 = .ok (.iadd, 1) := by decide +kernel
theorem d_Mo_resend_125 : decode prog_12_method_31_code 125 = .ok (.iaload, 1) := by decide +kernel
theorem d_Mo_resend_126 : decode prog_12_method_31_code 126 = .ok (.iload 4, 2) := by decide +kernel
theorem d_Mo_resend_128 : decode prog_12_method_31_code 128 = .ok (.ishr, 1) := by decide +kernel
theorem d_Mo_resend_129 : decode prog_12_method_31_code 129 = .ok (.iconst 1, 1) := by decide +kernel
theorem d_Mo_resend_130 : decode prog_12_method_31_code 130 = .ok (.iand, 1) := by decide +kernel
theorem d_Mo_resend_131 : decode prog_12_method_31_code 131 = .ok (.ifCond .ne 14, 3) := by decide +kernel
theorem d_Mo_resend_134 : decode prog_12_method_31_code 134 = .ok (.iload_n 2, 1) := by decide +kernel
theorem d_Mo_resend_135 : decode prog_12_method_31_code 135 = .ok (.aload_n 0, 1) := by decide +kernel
theorem d_Mo_resend_136 : decode prog_12_method_31_code 136 = .ok (.iload_n 1, 1) := by decide +kernel
theorem d_Mo_resend_137 : decode prog_12_method_31_code 137 = .ok (.iload_n 3, 1) := by decide +kernel
theorem d_Mo_resend_138 : decode prog_12_method_31_code 138 = .ok (.iload 4, 2) := by decide +kernel
theorem d_Mo_resend_140 : decode prog_12_method_31_code 140 = .ok (.invokevirtual 122, 3) := by decide +kernel
theorem d_Mo_resend_143 : decode prog_12_method_31_code 143 = .ok (.iadd, 1) := by decide +kernel
theorem d_Mo_resend_144 : decode prog_12_method_31_code 144 = .ok (.istore_n 2, 1) := by decide +kernel
theorem d_Mo_resend_145 : decode prog_12_method_31_code 145 = .ok (.iinc 4 1, 3) := by decide +kernel
theorem d_Mo_resend_148 : decode prog_12_method_31_code 148 = .ok (.goto (-54), 3) := by decide +kernel
theorem d_Mo_resend_151 : decode prog_12_method_31_code 151 = .ok (.iinc 3 1, 3) := by decide +kernel
theorem d_Mo_resend_154 : decode prog_12_method_31_code 154 = .ok (.goto (-79), 3) := by decide +kernel
theorem d_Mo_resend_157 : decode prog_12_method_31_code 157 = .ok (.iload_n 2, 1) := by decide +kernel
theorem d_Mo_resend_158 : decode prog_12_method_31_code 158 = .ok (.ireturn, 1) := by decide +kernel
theorem d_Mo_deliver_0 : decode prog_12_method_33_code 0 = .ok (.aload_n 0, 1) := by decide +kernel
theorem d_Mo_deliver_1 : decode prog_12_method_33_code 1 = .ok (.aload_n 0, 1) := by decide +kernel
theorem d_Mo_deliver_2 : decode prog_12_method_33_code 2 = .ok (.iload_n 1, 1) := by decide +kernel
theorem d_Mo_deliver_3 : decode prog_12_method_33_code 3 = .ok (.invokevirtual 168, 3) := by decide +kernel
theorem d_Mo_deliver_6 : decode prog_12_method_33_code 6 = .ok (.ifCond .eq 7, 3) := by decide +kernel
theorem d_Mo_deliver_9 : decode prog_12_method_33_code 9 = .ok (.iconst 1, 1) := by decide +kernel
theorem d_Mo_deliver_10 : decode prog_12_method_33_code 10 = .ok (.goto 4, 3) := by decide +kernel
theorem d_Mo_deliver_13 : decode prog_12_method_33_code 13 = .ok (.iconst 0, 1) := by decide +kernel
theorem d_Mo_deliver_14 : decode prog_12_method_33_code 14 = .ok (.putfield 7, 3) := by decide +kernel
theorem d_Mo_deliver_17 : decode prog_12_method_33_code 17 = .ok (.aload_n 0, 1) := by decide +kernel
theorem d_Mo_deliver_18 : decode prog_12_method_33_code 18 = .ok (.getfield 7, 3) := by decide +kernel
theorem d_Mo_deliver_21 : decode prog_12_method_33_code 21 = .ok (.ifCond .eq 5, 3) := by decide +kernel
theorem d_Mo_deliver_24 : decode prog_12_method_33_code 24 = .ok (.iconst 0, 1) := by decide +kernel
theorem d_Mo_deliver_25 : decode prog_12_method_33_code 25 = .ok (.ireturn, 1) := by decide +kernel
theorem d_Mo_deliver_26 : decode prog_12_method_33_code 26 = .ok (.iconst 0, 1) := by decide +kernel
theorem d_Mo_deliver_27 : decode prog_12_method_33_code 27 = .ok (.istore_n 2, 1) := by decide +kernel
theorem d_Mo_deliver_28 : decode prog_12_method_33_code 28 = .ok (.iload_n 2, 1) := by decide +kernel
theorem d_Mo_deliver_29 : decode prog_12_method_33_code 29 = .ok (.bipush 7, 2) := by decide +kernel
theorem d_Mo_deliver_31 : decode prog_12_method_33_code 31 = .ok (.if_icmp .ge 26, 3) := by decide +kernel
theorem d_Mo_deliver_34 : decode prog_12_method_33_code 34 = .ok (.aload_n 0, 1) := by decide +kernel
theorem d_Mo_deliver_35 : decode prog_12_method_33_code 35 = .ok (.getfield 90, 3) := by decide +kernel
theorem d_Mo_deliver_38 : decode prog_12_method_33_code 38 = .ok (.iload_n 2, 1) := by decide +kernel
theorem d_Mo_deliver_39 : decode prog_12_method_33_code 39 = .ok (.aload_n 0, 1) := by decide +kernel
theorem d_Mo_deliver_40 : decode prog_12_method_33_code 40 = .ok (.getfield 30, 3) := by decide +kernel
theorem d_Mo_deliver_43 : decode prog_12_method_33_code 43 = .ok (.bipush 7, 2) := by decide +kernel
theorem d_Mo_deliver_45 : decode prog_12_method_33_code 45 = .ok (.iload_n 1, 1) := by decide +kernel
theorem d_Mo_deliver_46 : decode prog_12_method_33_code 46 = .ok (.imul, 1) := by decide +kernel
theorem d_Mo_deliver_47 : decode prog_12_method_33_code 47 = .ok (.iload_n 2, 1) := by decide +kernel
theorem d_Mo_deliver_48 : decode prog_12_method_33_code 48 = .ok (.iadd, 1) := by decide +kernel
theorem d_Mo_deliver_49 : decode prog_12_method_33_code 49 = .ok (.iaload, 1) := by decide +kernel
theorem d_Mo_deliver_50 : decode prog_12_method_33_code 50 = .ok (.iastore, 1) := by decide +kernel
theorem d_Mo_deliver_51 : decode prog_12_method_33_code 51 = .ok (.iinc 2 1, 3) := by decide +kernel
theorem d_Mo_deliver_54 : decode prog_12_method_33_code 54 = .ok (.goto (-26), 3) := by decide +kernel
theorem d_Mo_deliver_57 : decode prog_12_method_33_code 57 = .ok (.iconst 0, 1) := by decide +kernel
theorem d_Mo_deliver_58 : decode prog_12_method_33_code 58 = .ok (.istore_n 2, 1) := by decide +kernel
theorem d_Mo_deliver_59 : decode prog_12_method_33_code 59 = .ok (.iload_n 2, 1) := by decide +kernel
theorem d_Mo_deliver_60 : decode prog_12_method_33_code 60 = .ok (.bipush 88, 2) := by decide +kernel
theorem d_Mo_deliver_62 : decode prog_12_method_33_code 62 = .ok (.if_icmp .ge 26, 3) := by decide +kernel
theorem d_Mo_deliver_65 : decode prog_12_method_33_code 65 = .ok (.aload_n 0, 1) := by decide +kernel
theorem d_Mo_deliver_66 : decode prog_12_method_33_code 66 = .ok (.getfield 93, 3) := by decide +kernel
theorem d_Mo_deliver_69 : decode prog_12_method_33_code 69 = .ok (.iload_n 2, 1) := by decide +kernel
theorem d_Mo_deliver_70 : decode prog_12_method_33_code 70 = .ok (.aload_n 0, 1) := by decide +kernel
theorem d_Mo_deliver_71 : decode prog_12_method_33_code 71 = .ok (.getfield 33, 3) := by decide +kernel
theorem d_Mo_deliver_74 : decode prog_12_method_33_code 74 = .ok (.bipush 88, 2) := by decide +kernel
theorem d_Mo_deliver_76 : decode prog_12_method_33_code 76 = .ok (.iload_n 1, 1) := by decide +kernel
theorem d_Mo_deliver_77 : decode prog_12_method_33_code 77 = .ok (.imul, 1) := by decide +kernel
theorem d_Mo_deliver_78 : decode prog_12_method_33_code 78 = .ok (.iload_n 2, 1) := by decide +kernel
theorem d_Mo_deliver_79 : decode prog_12_method_33_code 79 = .ok (.iadd, 1) := by decide +kernel
theorem d_Mo_deliver_80 : decode prog_12_method_33_code 80 = .ok (.iaload, 1) := by decide +kernel
theorem d_Mo_deliver_81 : decode prog_12_method_33_code 81 = .ok (.iastore, 1) := by decide +kernel
theorem d_Mo_deliver_82 : decode prog_12_method_33_code 82 = .ok (.iinc 2 1, 3) := by decide +kernel
theorem d_Mo_deliver_85 : decode prog_12_method_33_code 85 = .ok (.goto (-26), 3) := by decide +kernel
theorem d_Mo_deliver_88 : decode prog_12_method_33_code 88 = .ok (.aload_n 0, 1) := by decide +kernel
theorem d_Mo_deliver_89 : decode prog_12_method_33_code 89 = .ok (.iload_n 1, 1) := by decide +kernel
theorem d_Mo_deliver_90 : decode prog_12_method_33_code 90 = .ok (.invokevirtual 171, 3) := by decide +kernel
theorem d_Mo_deliver_93 : decode prog_12_method_33_code 93 = .ok (.aload_n 0, 1) := by decide +kernel
theorem d_Mo_deliver_94 : decode prog_12_method_33_code 94 = .ok (.invokevirtual 175, 3) := by decide +kernel
theorem d_Mo_deliver_97 : decode prog_12_method_33_code 97 = .ok (.ireturn, 1) := by decide +kernel
theorem d_Mo_noLetter_0 : decode prog_12_method_32_code 0 = .ok (.iload_n 1, 1) := by decide +kernel
theorem d_Mo_noLetter_1 : decode prog_12_method_32_code 1 = .ok (.ifCond .lt 11, 3) := by decide +kernel
theorem d_Mo_noLetter_4 : decode prog_12_method_32_code 4 = .ok (.iload_n 1, 1) := by decide +kernel
theorem d_Mo_noLetter_5 : decode prog_12_method_32_code 5 = .ok (.aload_n 0, 1) := by decide +kernel
theorem d_Mo_noLetter_6 : decode prog_12_method_32_code 6 = .ok (.getfield 27, 3) := by decide +kernel
theorem d_Mo_noLetter_9 : decode prog_12_method_32_code 9 = .ok (.if_icmp .lt 7, 3) := by decide +kernel
theorem d_Mo_noLetter_12 : decode prog_12_method_32_code 12 = .ok (.iconst 1, 1) := by decide +kernel
theorem d_Mo_noLetter_13 : decode prog_12_method_32_code 13 = .ok (.goto 4, 3) := by decide +kernel
theorem d_Mo_noLetter_16 : decode prog_12_method_32_code 16 = .ok (.iconst 0, 1) := by decide +kernel
theorem d_Mo_noLetter_17 : decode prog_12_method_32_code 17 = .ok (.ireturn, 1) := by decide +kernel
theorem d_Mo_remove_0 : decode prog_12_method_13_code 0 = .ok (.aload_n 0, 1) := by decide +kernel
theorem d_Mo_remove_1 : decode prog_12_method_13_code 1 = .ok (.dup, 1) := by decide +kernel
theorem d_Mo_remove_2 : decode prog_12_method_13_code 2 = .ok (.getfield 27, 3) := by decide +kernel
theorem d_Mo_remove_5 : decode prog_12_method_13_code 5 = .ok (.iconst 1, 1) := by decide +kernel
theorem d_Mo_remove_6 : decode prog_12_method_13_code 6 = .ok (.isub, 1) := by decide +kernel
theorem d_Mo_remove_7 : decode prog_12_method_13_code 7 = .ok (.putfield 27, 3) := by decide +kernel
theorem d_Mo_remove_10 : decode prog_12_method_13_code 10 = .ok (.bipush 7, 2) := by decide +kernel
theorem d_Mo_remove_12 : decode prog_12_method_13_code 12 = .ok (.iload_n 1, 1) := by decide +kernel
theorem d_Mo_remove_13 : decode prog_12_method_13_code 13 = .ok (.imul, 1) := by decide +kernel
theorem d_Mo_remove_14 : decode prog_12_method_13_code 14 = .ok (.istore_n 2, 1) := by decide +kernel
theorem d_Mo_remove_15 : decode prog_12_method_13_code 15 = .ok (.iload_n 2, 1) := by decide +kernel
theorem d_Mo_remove_16 : decode prog_12_method_13_code 16 = .ok (.bipush 7, 2) := by decide +kernel
theorem d_Mo_remove_18 : decode prog_12_method_13_code 18 = .ok (.aload_n 0, 1) := by decide +kernel
theorem d_Mo_remove_19 : decode prog_12_method_13_code 19 = .ok (.getfield 27, 3) := by decide +kernel
theorem d_Mo_remove_22 : decode prog_12_method_13_code 22 = .ok (.imul, 1) := by decide +kernel
theorem d_Mo_remove_23 : decode prog_12_method_13_code 23 = .ok (.if_icmp .ge 24, 3) := by decide +kernel
theorem d_Mo_remove_26 : decode prog_12_method_13_code 26 = .ok (.aload_n 0, 1) := by decide +kernel
theorem d_Mo_remove_27 : decode prog_12_method_13_code 27 = .ok (.getfield 30, 3) := by decide +kernel
theorem d_Mo_remove_30 : decode prog_12_method_13_code 30 = .ok (.iload_n 2, 1) := by decide +kernel
theorem d_Mo_remove_31 : decode prog_12_method_13_code 31 = .ok (.aload_n 0, 1) := by decide +kernel
theorem d_Mo_remove_32 : decode prog_12_method_13_code 32 = .ok (.getfield 30, 3) := by decide +kernel
theorem d_Mo_remove_35 : decode prog_12_method_13_code 35 = .ok (.iload_n 2, 1) := by decide +kernel
theorem d_Mo_remove_36 : decode prog_12_method_13_code 36 = .ok (.bipush 7, 2) := by decide +kernel
theorem d_Mo_remove_38 : decode prog_12_method_13_code 38 = .ok (.iadd, 1) := by decide +kernel
theorem d_Mo_remove_39 : decode prog_12_method_13_code 39 = .ok (.iaload, 1) := by decide +kernel
theorem d_Mo_remove_40 : decode prog_12_method_13_code 40 = .ok (.iastore, 1) := by decide +kernel
theorem d_Mo_remove_41 : decode prog_12_method_13_code 41 = .ok (.iinc 2 1, 3) := by decide +kernel
theorem d_Mo_remove_44 : decode prog_12_method_13_code 44 = .ok (.goto (-29), 3) := by decide +kernel
theorem d_Mo_remove_47 : decode prog_12_method_13_code 47 = .ok (.bipush 88, 2) := by decide +kernel
theorem d_Mo_remove_49 : decode prog_12_method_13_code 49 = .ok (.iload_n 1, 1) := by decide +kernel
theorem d_Mo_remove_50 : decode prog_12_method_13_code 50 = .ok (.imul, 1) := by decide +kernel
theorem d_Mo_remove_51 : decode prog_12_method_13_code 51 = .ok (.istore_n 2, 1) := by decide +kernel
theorem d_Mo_remove_52 : decode prog_12_method_13_code 52 = .ok (.iload_n 2, 1) := by decide +kernel
theorem d_Mo_remove_53 : decode prog_12_method_13_code 53 = .ok (.bipush 88, 2) := by decide +kernel
theorem d_Mo_remove_55 : decode prog_12_method_13_code 55 = .ok (.aload_n 0, 1) := by decide +kernel
theorem d_Mo_remove_56 : decode prog_12_method_13_code 56 = .ok (.getfield 27, 3) := by decide +kernel
theorem d_Mo_remove_59 : decode prog_12_method_13_code 59 = .ok (.imul, 1) := by decide +kernel
theorem d_Mo_remove_60 : decode prog_12_method_13_code 60 = .ok (.if_icmp .ge 24, 3) := by decide +kernel
theorem d_Mo_remove_63 : decode prog_12_method_13_code 63 = .ok (.aload_n 0, 1) := by decide +kernel
theorem d_Mo_remove_64 : decode prog_12_method_13_code 64 = .ok (.getfield 33, 3) := by decide +kernel
theorem d_Mo_remove_67 : decode prog_12_method_13_code 67 = .ok (.iload_n 2, 1) := by decide +kernel
theorem d_Mo_remove_68 : decode prog_12_method_13_code 68 = .ok (.aload_n 0, 1) := by decide +kernel
theorem d_Mo_remove_69 : decode prog_12_method_13_code 69 = .ok (.getfield 33, 3) := by decide +kernel
theorem d_Mo_remove_72 : decode prog_12_method_13_code 72 = .ok (.iload_n 2, 1) := by decide +kernel
theorem d_Mo_remove_73 : decode prog_12_method_13_code 73 = .ok (.bipush 88, 2) := by decide +kernel
theorem d_Mo_remove_75 : decode prog_12_method_13_code 75 = .ok (.iadd, 1) := by decide +kernel
theorem d_Mo_remove_76 : decode prog_12_method_13_code 76 = .ok (.iaload, 1) := by decide +kernel
theorem d_Mo_remove_77 : decode prog_12_method_13_code 77 = .ok (.iastore, 1) := by decide +kernel
theorem d_Mo_remove_78 : decode prog_12_method_13_code 78 = .ok (.iinc 2 1, 3) := by decide +kernel
theorem d_Mo_remove_81 : decode prog_12_method_13_code 81 = .ok (.goto (-29), 3) := by decide +kernel
theorem d_Mo_remove_84 : decode prog_12_method_13_code 84 = .ok (.return_, 1) := by decide +kernel
theorem d_Mo_comes_0 : decode prog_12_method_14_code 0 = .ok (.aload_n 0, 1) := by decide +kernel
theorem d_Mo_comes_1 : decode prog_12_method_14_code 1 = .ok (.getfield 90, 3) := by decide +kernel
theorem d_Mo_comes_4 : decode prog_12_method_14_code 4 = .ok (.iconst 1, 1) := by decide +kernel
theorem d_Mo_comes_5 : decode prog_12_method_14_code 5 = .ok (.iaload, 1) := by decide +kernel
theorem d_Mo_comes_6 : decode prog_12_method_14_code 6 = .ok (.istore_n 1, 1) := by decide +kernel
theorem d_Mo_comes_7 : decode prog_12_method_14_code 7 = .ok (.aload_n 0, 1) := by decide +kernel
theorem d_Mo_comes_8 : decode prog_12_method_14_code 8 = .ok (.getfield 90, 3) := by decide +kernel
theorem d_Mo_comes_11 : decode prog_12_method_14_code 11 = .ok (.iconst 2, 1) := by decide +kernel
theorem d_Mo_comes_12 : decode prog_12_method_14_code 12 = .ok (.iaload, 1) := by decide +kernel
theorem d_Mo_comes_13 : decode prog_12_method_14_code 13 = .ok (.istore_n 2, 1) := by decide +kernel
theorem d_Mo_comes_14 : decode prog_12_method_14_code 14 = .ok (.aload_n 0, 1) := by decide +kernel
theorem d_Mo_comes_15 : decode prog_12_method_14_code 15 = .ok (.getfield 90, 3) := by decide +kernel
theorem d_Mo_comes_18 : decode prog_12_method_14_code 18 = .ok (.iconst 0, 1) := by decide +kernel
theorem d_Mo_comes_19 : decode prog_12_method_14_code 19 = .ok (.iaload, 1) := by decide +kernel
theorem d_Mo_comes_20 : decode prog_12_method_14_code 20 = .ok (.iconst 1, 1) := by decide +kernel
theorem d_Mo_comes_21 : decode prog_12_method_14_code 21 = .ok (.if_icmp .ne 10, 3) := by decide +kernel
theorem d_Mo_comes_24 : decode prog_12_method_14_code 24 = .ok (.aload_n 0, 1) := by decide +kernel
theorem d_Mo_comes_25 : decode prog_12_method_14_code 25 = .ok (.iload_n 1, 1) := by decide +kernel
theorem d_Mo_comes_26 : decode prog_12_method_14_code 26 = .ok (.iload_n 2, 1) := by decide +kernel
theorem d_Mo_comes_27 : decode prog_12_method_14_code 27 = .ok (.invokevirtual 126, 3) := by decide +kernel
theorem d_Mo_comes_30 : decode prog_12_method_14_code 30 = .ok (.ireturn, 1) := by decide +kernel
theorem d_Mo_comes_31 : decode prog_12_method_14_code 31 = .ok (.aload_n 0, 1) := by decide +kernel
theorem d_Mo_comes_32 : decode prog_12_method_14_code 32 = .ok (.getfield 90, 3) := by decide +kernel
theorem d_Mo_comes_35 : decode prog_12_method_14_code 35 = .ok (.iconst 0, 1) := by decide +kernel
theorem d_Mo_comes_36 : decode prog_12_method_14_code 36 = .ok (.iaload, 1) := by decide +kernel
theorem d_Mo_comes_37 : decode prog_12_method_14_code 37 = .ok (.iconst 3, 1) := by decide +kernel
theorem d_Mo_comes_38 : decode prog_12_method_14_code 38 = .ok (.if_icmp .ne 11, 3) := by decide +kernel
theorem d_Mo_comes_41 : decode prog_12_method_14_code 41 = .ok (.aload_n 0, 1) := by decide +kernel
theorem d_Mo_comes_42 : decode prog_12_method_14_code 42 = .ok (.iload_n 1, 1) := by decide +kernel
theorem d_Mo_comes_43 : decode prog_12_method_14_code 43 = .ok (.iload_n 2, 1) := by decide +kernel
theorem d_Mo_comes_44 : decode prog_12_method_14_code 44 = .ok (.invokevirtual 129, 3) := by decide +kernel
theorem d_Mo_comes_47 : decode prog_12_method_14_code 47 = .ok (.iconst 0, 1) := by decide +kernel
theorem d_Mo_comes_48 : decode prog_12_method_14_code 48 = .ok (.ireturn, 1) := by decide +kernel
theorem d_Mo_comes_49 : decode prog_12_method_14_code 49 = .ok (.aload_n 0, 1) := by decide +kernel
theorem d_Mo_comes_50 : decode prog_12_method_14_code 50 = .ok (.getfield 17, 3) := by decide +kernel
theorem d_Mo_comes_53 : decode prog_12_method_14_code 53 = .ok (.iload_n 1, 1) := by decide +kernel
theorem d_Mo_comes_54 : decode prog_12_method_14_code 54 = .ok (.baload, 1) := by decide +kernel
theorem d_Mo_comes_55 : decode prog_12_method_14_code 55 = .ok (.ifCond .ne 27, 3) := by decide +kernel
theorem d_Mo_comes_58 : decode prog_12_method_14_code 58 = .ok (.aload_n 0, 1) := by decide +kernel
theorem d_Mo_comes_59 : decode prog_12_method_14_code 59 = .ok (.getfield 21, 3) := by decide +kernel
theorem d_Mo_comes_62 : decode prog_12_method_14_code 62 = .ok (.iload_n 1, 1) := by decide +kernel
theorem d_Mo_comes_63 : decode prog_12_method_14_code 63 = .ok (.baload, 1) := by decide +kernel
theorem d_Mo_comes_64 : decode prog_12_method_14_code 64 = .ok (.ifCond .ne 18, 3) := by decide +kernel
theorem d_Mo_comes_67 : decode prog_12_method_14_code 67 = .ok (.aload_n 0, 1) := by decide +kernel
theorem d_Mo_comes_68 : decode prog_12_method_14_code 68 = .ok (.getfield 90, 3) := by decide +kernel
theorem d_Mo_comes_71 : decode prog_12_method_14_code 71 = .ok (.iconst 3, 1) := by decide +kernel
theorem d_Mo_comes_72 : decode prog_12_method_14_code 72 = .ok (.iaload, 1) := by decide +kernel
theorem d_Mo_comes_73 : decode prog_12_method_14_code 73 = .ok (.aload_n 0, 1) := by decide +kernel
theorem d_Mo_comes_74 : decode prog_12_method_14_code 74 = .ok (.getfield 13, 3) := by decide +kernel
theorem d_Mo_comes_77 : decode prog_12_method_14_code 77 = .ok (.iload_n 1, 1) := by decide +kernel
theorem d_Mo_comes_78 : decode prog_12_method_14_code 78 = .ok (.iaload, 1) := by decide +kernel
theorem d_Mo_comes_79 : decode prog_12_method_14_code 79 = .ok (.if_icmp .ge 5, 3) := by decide +kernel
theorem d_Mo_comes_82 : decode prog_12_method_14_code 82 = .ok (.iconst 0, 1) := by decide +kernel
theorem d_Mo_comes_83 : decode prog_12_method_14_code 83 = .ok (.ireturn, 1) := by decide +kernel
theorem d_Mo_comes_84 : decode prog_12_method_14_code 84 = .ok (.aload_n 0, 1) := by decide +kernel
theorem d_Mo_comes_85 : decode prog_12_method_14_code 85 = .ok (.getfield 13, 3) := by decide +kernel
theorem d_Mo_comes_88 : decode prog_12_method_14_code 88 = .ok (.iload_n 1, 1) := by decide +kernel
theorem d_Mo_comes_89 : decode prog_12_method_14_code 89 = .ok (.aload_n 0, 1) := by decide +kernel
theorem d_Mo_comes_90 : decode prog_12_method_14_code 90 = .ok (.getfield 90, 3) := by decide +kernel
theorem d_Mo_comes_93 : decode prog_12_method_14_code 93 = .ok (.iconst 3, 1) := by decide +kernel
theorem d_Mo_comes_94 : decode prog_12_method_14_code 94 = .ok (.iaload, 1) := by decide +kernel
theorem d_Mo_comes_95 : decode prog_12_method_14_code 95 = .ok (.iastore, 1) := by decide +kernel
theorem d_Mo_comes_96 : decode prog_12_method_14_code 96 = .ok (.aload_n 0, 1) := by decide +kernel
theorem d_Mo_comes_97 : decode prog_12_method_14_code 97 = .ok (.getfield 90, 3) := by decide +kernel
theorem d_Mo_comes_100 : decode prog_12_method_14_code 100 = .ok (.iconst 0, 1) := by decide +kernel
theorem d_Mo_comes_101 : decode prog_12_method_14_code 101 = .ok (.iaload, 1) := by decide +kernel
theorem d_Mo_comes_102 : decode prog_12_method_14_code 102 = .ok (.ifCond .ne 65, 3) := by decide +kernel
theorem d_Mo_comes_105 : decode prog_12_method_14_code 105 = .ok (.aload_n 0, 1) := by decide +kernel
theorem d_Mo_comes_106 : decode prog_12_method_14_code 106 = .ok (.iconst 1, 1) := by decide +kernel
theorem d_Mo_comes_107 : decode prog_12_method_14_code 107 = .ok (.iload_n 1, 1) := by decide +kernel
theorem d_Mo_comes_108 : decode prog_12_method_14_code 108 = .ok (.iload_n 2, 1) := by decide +kernel
theorem d_Mo_comes_109 : decode prog_12_method_14_code 109 = .ok (.aload_n 0, 1) := by decide +kernel
theorem d_Mo_comes_110 : decode prog_12_method_14_code 110 = .ok (.getfield 90, 3) := by decide +kernel
theorem d_Mo_comes_113 : decode prog_12_method_14_code 113 = .ok (.iconst 3, 1) := by decide +kernel
theorem d_Mo_comes_114 : decode prog_12_method_14_code 114 = .ok (.iaload, 1) := by decide +kernel
theorem d_Mo_comes_115 : decode prog_12_method_14_code 115 = .ok (.invokevirtual 114, 3) := by decide +kernel
theorem d_Mo_comes_118 : decode prog_12_method_14_code 118 = .ok (.ifCond .ne 5, 3) := by decide +kernel
theorem d_Mo_comes_121 : decode prog_12_method_14_code 121 = .ok (.iconst 0, 1) := by decide +kernel
theorem d_Mo_comes_122 : decode prog_12_method_14_code 122 = .ok (.ireturn, 1) := by decide +kernel
theorem d_Mo_comes_123 : decode prog_12_method_14_code 123 = .ok (.iconst 0, 1) := by decide +kernel
theorem d_Mo_comes_124 : decode prog_12_method_14_code 124 = .ok (.istore_n 3, 1) := by decide +kernel
theorem d_Mo_comes_125 : decode prog_12_method_14_code 125 = .ok (.iload_n 3, 1) := by decide +kernel
theorem d_Mo_comes_126 : decode prog_12_method_14_code 126 = .ok (.bipush 88, 2) := by decide +kernel
theorem d_Mo_comes_128 : decode prog_12_method_14_code 128 = .ok (.if_icmp .ge 37, 3) := by decide +kernel
theorem d_Mo_comes_131 : decode prog_12_method_14_code 131 = .ok (.aload_n 0, 1) := by decide +kernel
theorem d_Mo_comes_132 : decode prog_12_method_14_code 132 = .ok (.getfield 33, 3) := by decide +kernel
theorem d_Mo_comes_135 : decode prog_12_method_14_code 135 = .ok (.bipush 88, 2) := by decide +kernel
theorem d_Mo_comes_137 : decode prog_12_method_14_code 137 = .ok (.aload_n 0, 1) := by decide +kernel
theorem d_Mo_comes_138 : decode prog_12_method_14_code 138 = .ok (.getfield 27, 3) := by decide +kernel
theorem d_Mo_comes_141 : decode prog_12_method_14_code 141 = .ok (.imul, 1) := by decide +kernel
theorem d_Mo_comes_142 : decode prog_12_method_14_code 142 = .ok (.bipush 88, 2) := by decide +kernel
theorem d_Mo_comes_144 : decode prog_12_method_14_code 144 = .ok (.isub, 1) := by decide +kernel
theorem d_Mo_comes_145 : decode prog_12_method_14_code 145 = .ok (.iload_n 3, 1) := by decide +kernel
theorem d_Mo_comes_146 : decode prog_12_method_14_code 146 = .ok (.iadd, 1) := by decide +kernel
theorem d_Mo_comes_147 : decode prog_12_method_14_code 147 = .ok (.aload_n 0, 1) := by decide +kernel
theorem d_Mo_comes_148 : decode prog_12_method_14_code 148 = .ok (.getfield 24, 3) := by decide +kernel
theorem d_Mo_comes_151 : decode prog_12_method_14_code 151 = .ok (.bipush 88, 2) := by decide +kernel
theorem d_Mo_comes_153 : decode prog_12_method_14_code 153 = .ok (.iload_n 1, 1) := by decide +kernel
theorem d_Mo_comes_154 : decode prog_12_method_14_code 154 = .ok (.imul, 1) := by decide +kernel
theorem d_Mo_comes_155 : decode prog_12_method_14_code 155 = .ok (.iload_n 3, 1) := by decide +kernel
theorem d_Mo_comes_156 : decode prog_12_method_14_code 156 = .ok (.iadd, 1) := by decide +kernel
theorem d_Mo_comes_157 : decode prog_12_method_14_code 157 = .ok (.iaload, 1) := by decide +kernel
theorem d_Mo_comes_158 : decode prog_12_method_14_code 158 = .ok (.iastore, 1) := by decide +kernel
theorem d_Mo_comes_159 : decode prog_12_method_14_code 159 = .ok (.iinc 3 1, 3) := by decide +kernel
theorem d_Mo_comes_162 : decode prog_12_method_14_code 162 = .ok (.goto (-37), 3) := by decide +kernel
theorem d_Mo_comes_165 : decode prog_12_method_14_code 165 = .ok (.iconst 1, 1) := by decide +kernel
theorem d_Mo_comes_166 : decode prog_12_method_14_code 166 = .ok (.ireturn, 1) := by decide +kernel
theorem d_Mo_comes_167 : decode prog_12_method_14_code 167 = .ok (.bipush 88, 2) := by decide +kernel
theorem d_Mo_comes_169 : decode prog_12_method_14_code 169 = .ok (.iload_n 1, 1) := by decide +kernel
theorem d_Mo_comes_170 : decode prog_12_method_14_code 170 = .ok (.imul, 1) := by decide +kernel
theorem d_Mo_comes_171 : decode prog_12_method_14_code 171 = .ok (.bipush 11, 2) := by decide +kernel
theorem d_Mo_comes_173 : decode prog_12_method_14_code 173 = .ok (.aload_n 0, 1) := by decide +kernel
theorem d_Mo_comes_174 : decode prog_12_method_14_code 174 = .ok (.getfield 90, 3) := by decide +kernel
theorem d_Mo_comes_177 : decode prog_12_method_14_code 177 = .ok (.iconst 4, 1) := by decide +kernel
theorem d_Mo_comes_178 : decode prog_12_method_14_code 178 = .ok (.iaload, 1) := by decide +kernel
theorem d_Mo_comes_179 : decode prog_12_method_14_code 179 = .ok (.imul, 1) := by decide +kernel
theorem d_Mo_comes_180 : decode prog_12_method_14_code 180 = .ok (.iadd, 1) := by decide +kernel
theorem d_Mo_comes_181 : decode prog_12_method_14_code 181 = .ok (.istore_n 3, 1) := by decide +kernel
theorem d_Mo_comes_182 : decode prog_12_method_14_code 182 = .ok (.aload_n 0, 1) := by decide +kernel
theorem d_Mo_comes_183 : decode prog_12_method_14_code 183 = .ok (.getfield 24, 3) := by decide +kernel
theorem d_Mo_comes_186 : decode prog_12_method_14_code 186 = .ok (.iload_n 3, 1) := by decide +kernel
theorem d_Mo_comes_187 : decode prog_12_method_14_code 187 = .ok (.aload_n 0, 1) := by decide +kernel
theorem d_Mo_comes_188 : decode prog_12_method_14_code 188 = .ok (.getfield 90, 3) := by decide +kernel
theorem d_Mo_comes_191 : decode prog_12_method_14_code 191 = .ok (.iconst 3, 1) := by decide +kernel
theorem d_Mo_comes_192 : decode prog_12_method_14_code 192 = .ok (.iaload, 1) := by decide +kernel
theorem d_Mo_comes_193 : decode prog_12_method_14_code 193 = .ok (.iastore, 1) := by decide +kernel
theorem d_Mo_comes_194 : decode prog_12_method_14_code 194 = .ok (.aload_n 0, 1) := by decide +kernel
theorem d_Mo_comes_195 : decode prog_12_method_14_code 195 = .ok (.getfield 24, 3) := by decide +kernel
theorem d_Mo_comes_198 : decode prog_12_method_14_code 198 = .ok (.iload_n 3, 1) := by decide +kernel
theorem d_Mo_comes_199 : decode prog_12_method_14_code 199 = .ok (.iconst 1, 1) := by decide +kernel
theorem d_Mo_comes_200 : decode prog_12_method_14_code 200 = .ok (.iadd, 1) := by decide +kernel
theorem d_Mo_comes_201 : decode prog_12_method_14_code 201 = .ok (.aload_n 0, 1) := by decide +kernel
theorem d_Mo_comes_202 : decode prog_12_method_14_code 202 = .ok (.getfield 90, 3) := by decide +kernel
theorem d_Mo_comes_205 : decode prog_12_method_14_code 205 = .ok (.iconst 5, 1) := by decide +kernel
theorem d_Mo_comes_206 : decode prog_12_method_14_code 206 = .ok (.iaload, 1) := by decide +kernel
theorem d_Mo_comes_207 : decode prog_12_method_14_code 207 = .ok (.iastore, 1) := by decide +kernel
theorem d_Mo_comes_208 : decode prog_12_method_14_code 208 = .ok (.aload_n 0, 1) := by decide +kernel
theorem d_Mo_comes_209 : decode prog_12_method_14_code 209 = .ok (.getfield 24, 3) := by decide +kernel
theorem d_Mo_comes_212 : decode prog_12_method_14_code 212 = .ok (.iload_n 3, 1) := by decide +kernel
theorem d_Mo_comes_213 : decode prog_12_method_14_code 213 = .ok (.iconst 2, 1) := by decide +kernel
theorem d_Mo_comes_214 : decode prog_12_method_14_code 214 = .ok (.iadd, 1) := by decide +kernel
theorem d_Mo_comes_215 : decode prog_12_method_14_code 215 = .ok (.aload_n 0, 1) := by decide +kernel
theorem d_Mo_comes_216 : decode prog_12_method_14_code 216 = .ok (.getfield 90, 3) := by decide +kernel
theorem d_Mo_comes_219 : decode prog_12_method_14_code 219 = .ok (.bipush 6, 2) := by decide +kernel
theorem d_Mo_comes_221 : decode prog_12_method_14_code 221 = .ok (.iaload, 1) := by decide +kernel
theorem d_Mo_comes_222 : decode prog_12_method_14_code 222 = .ok (.iastore, 1) := by decide +kernel
theorem d_Mo_comes_223 : decode prog_12_method_14_code 223 = .ok (.iconst 0, 1) := by decide +kernel
theorem d_Mo_comes_224 : decode prog_12_method_14_code 224 = .ok (.istore 4, 2) := by decide +kernel
theorem d_Mo_comes_226 : decode prog_12_method_14_code 226 = .ok (.iload 4, 2) := by decide +kernel
theorem d_Mo_comes_228 : decode prog_12_method_14_code 228 = .ok (.bipush 8, 2) := by decide +kernel
theorem d_Mo_comes_230 : decode prog_12_method_14_code 230 = .ok (.if_icmp .ge 46, 3) := by decide +kernel
theorem d_Mo_comes_233 : decode prog_12_method_14_code 233 = .ok (.aload_n 0, 1) := by decide +kernel
theorem d_Mo_comes_234 : decode prog_12_method_14_code 234 = .ok (.getfield 24, 3) := by decide +kernel
theorem d_Mo_comes_237 : decode prog_12_method_14_code 237 = .ok (.iload_n 3, 1) := by decide +kernel
theorem d_Mo_comes_238 : decode prog_12_method_14_code 238 = .ok (.iconst 3, 1) := by decide +kernel
theorem d_Mo_comes_239 : decode prog_12_method_14_code 239 = .ok (.iadd, 1) := by decide +kernel
theorem d_Mo_comes_240 : decode prog_12_method_14_code 240 = .ok (.iload 4, 2) := by decide +kernel
theorem d_Mo_comes_242 : decode prog_12_method_14_code 242 = .ok (.iadd, 1) := by decide +kernel
theorem d_Mo_comes_243 : decode prog_12_method_14_code 243 = .ok (.iload 4, 2) := by decide +kernel
theorem d_Mo_comes_245 : decode prog_12_method_14_code 245 = .ok (.aload_n 0, 1) := by decide +kernel
theorem d_Mo_comes_246 : decode prog_12_method_14_code 246 = .ok (.getfield 90, 3) := by decide +kernel
theorem d_Mo_comes_249 : decode prog_12_method_14_code 249 = .ok (.bipush 6, 2) := by decide +kernel
theorem d_Mo_comes_251 : decode prog_12_method_14_code 251 = .ok (.iaload, 1) := by decide +kernel
theorem d_Mo_comes_252 : decode prog_12_method_14_code 252 = .ok (.invokestatic 100, 3) := by decide +kernel
theorem d_Mo_comes_255 : decode prog_12_method_14_code 255 = .ok (.if_icmp .ge 13, 3) := by decide +kernel
theorem d_Mo_comes_258 : decode prog_12_method_14_code 258 = .ok (.aload_n 0, 1) := by decide +kernel
theorem d_Mo_comes_259 : decode prog_12_method_14_code 259 = .ok (.getfield 93, 3) := by decide +kernel
theorem d_Mo_comes_262 : decode prog_12_method_14_code 262 = .ok (.iload 4, 2) := by decide +kernel
theorem d_Mo_comes_264 : decode prog_12_method_14_code 264 = .ok (.iaload, 1) := by decide +kernel
theorem d_Mo_comes_265 : decode prog_12_method_14_code 265 = .ok (.goto 4, 3) := by decide +kernel
theorem d_Mo_comes_268 : decode prog_12_method_14_code 268 = .ok (.iconst 0, 1) := by decide +kernel
theorem d_Mo_comes_269 : decode prog_12_method_14_code 269 = .ok (.iastore, 1) := by decide +kernel
theorem d_Mo_comes_270 : decode prog_12_method_14_code 270 = .ok (.iinc 4 1, 3) := by decide +kernel
theorem d_Mo_comes_273 : decode prog_12_method_14_code 273 = .ok (.goto (-47), 3) := by decide +kernel
theorem d_Mo_comes_276 : decode prog_12_method_14_code 276 = .ok (.aload_n 0, 1) := by decide +kernel
theorem d_Mo_comes_277 : decode prog_12_method_14_code 277 = .ok (.iconst 3, 1) := by decide +kernel
theorem d_Mo_comes_278 : decode prog_12_method_14_code 278 = .ok (.iload_n 1, 1) := by decide +kernel
theorem d_Mo_comes_279 : decode prog_12_method_14_code 279 = .ok (.iload_n 2, 1) := by decide +kernel
theorem d_Mo_comes_280 : decode prog_12_method_14_code 280 = .ok (.aload_n 0, 1) := by decide +kernel
theorem d_Mo_comes_281 : decode prog_12_method_14_code 281 = .ok (.getfield 90, 3) := by decide +kernel
theorem d_Mo_comes_284 : decode prog_12_method_14_code 284 = .ok (.iconst 3, 1) := by decide +kernel
theorem d_Mo_comes_285 : decode prog_12_method_14_code 285 = .ok (.iaload, 1) := by decide +kernel
theorem d_Mo_comes_286 : decode prog_12_method_14_code 286 = .ok (.invokevirtual 114, 3) := by decide +kernel
theorem d_Mo_comes_289 : decode prog_12_method_14_code 289 = .ok (.ifCond .ne 5, 3) := by decide +kernel
theorem d_Mo_comes_292 : decode prog_12_method_14_code 292 = .ok (.iconst 0, 1) := by decide +kernel
theorem d_Mo_comes_293 : decode prog_12_method_14_code 293 = .ok (.ireturn, 1) := by decide +kernel
theorem d_Mo_comes_294 : decode prog_12_method_14_code 294 = .ok (.aload_n 0, 1) := by decide +kernel
theorem d_Mo_comes_295 : decode prog_12_method_14_code 295 = .ok (.getfield 30, 3) := by decide +kernel
theorem d_Mo_comes_298 : decode prog_12_method_14_code 298 = .ok (.bipush 7, 2) := by decide +kernel
theorem d_Mo_comes_300 : decode prog_12_method_14_code 300 = .ok (.aload_n 0, 1) := by decide +kernel
theorem d_Mo_comes_301 : decode prog_12_method_14_code 301 = .ok (.getfield 27, 3) := by decide +kernel
theorem d_Mo_comes_304 : decode prog_12_method_14_code 304 = .ok (.imul, 1) := by decide +kernel
theorem d_Mo_comes_305 : decode prog_12_method_14_code 305 = .ok (.iconst 3, 1) := by decide +kernel
theorem d_Mo_comes_306 : decode prog_12_method_14_code 306 = .ok (.isub, 1) := by decide +kernel
theorem d_Mo_comes_307 : decode prog_12_method_14_code 307 = .ok (.aload_n 0, 1) := by decide +kernel
theorem d_Mo_comes_308 : decode prog_12_method_14_code 308 = .ok (.getfield 90, 3) := by decide +kernel
theorem d_Mo_comes_311 : decode prog_12_method_14_code 311 = .ok (.iconst 4, 1) := by decide +kernel
theorem d_Mo_comes_312 : decode prog_12_method_14_code 312 = .ok (.iaload, 1) := by decide +kernel
theorem d_Mo_comes_313 : decode prog_12_method_14_code 313 = .ok (.iastore, 1) := by decide +kernel
theorem d_Mo_comes_314 : decode prog_12_method_14_code 314 = .ok (.aload_n 0, 1) := by decide +kernel
theorem d_Mo_comes_315 : decode prog_12_method_14_code 315 = .ok (.getfield 30, 3) := by decide +kernel
theorem d_Mo_comes_318 : decode prog_12_method_14_code 318 = .ok (.bipush 7, 2) := by decide +kernel
theorem d_Mo_comes_320 : decode prog_12_method_14_code 320 = .ok (.aload_n 0, 1) := by decide +kernel
theorem d_Mo_comes_321 : decode prog_12_method_14_code 321 = .ok (.getfield 27, 3) := by decide +kernel
theorem d_Mo_comes_324 : decode prog_12_method_14_code 324 = .ok (.imul, 1) := by decide +kernel
theorem d_Mo_comes_325 : decode prog_12_method_14_code 325 = .ok (.iconst 2, 1) := by decide +kernel
theorem d_Mo_comes_326 : decode prog_12_method_14_code 326 = .ok (.isub, 1) := by decide +kernel
theorem d_Mo_comes_327 : decode prog_12_method_14_code 327 = .ok (.aload_n 0, 1) := by decide +kernel
theorem d_Mo_comes_328 : decode prog_12_method_14_code 328 = .ok (.getfield 90, 3) := by decide +kernel
theorem d_Mo_comes_331 : decode prog_12_method_14_code 331 = .ok (.iconst 5, 1) := by decide +kernel
theorem d_Mo_comes_332 : decode prog_12_method_14_code 332 = .ok (.iaload, 1) := by decide +kernel
theorem d_Mo_comes_333 : decode prog_12_method_14_code 333 = .ok (.iastore, 1) := by decide +kernel
theorem d_Mo_comes_334 : decode prog_12_method_14_code 334 = .ok (.iconst 1, 1) := by decide +kernel
theorem d_Mo_comes_335 : decode prog_12_method_14_code 335 = .ok (.ireturn, 1) := by decide +kernel
theorem d_Mo_promiseComes_0 : decode prog_12_method_16_code 0 = .ok (.aload_n 0, 1) := by decide +kernel
theorem d_Mo_promiseComes_1 : decode prog_12_method_16_code 1 = .ok (.getfield 36, 3) := by decide +kernel
theorem d_Mo_promiseComes_4 : decode prog_12_method_16_code 4 = .ok (.iload_n 2, 1) := by decide +kernel
theorem d_Mo_promiseComes_5 : decode prog_12_method_16_code 5 = .ok (.iaload, 1) := by decide +kernel
theorem d_Mo_promiseComes_6 : decode prog_12_method_16_code 6 = .ok (.iconst 1, 1) := by decide +kernel
theorem d_Mo_promiseComes_7 : decode prog_12_method_16_code 7 = .ok (.if_icmp .ne 32, 3) := by decide +kernel
theorem d_Mo_promiseComes_10 : decode prog_12_method_16_code 10 = .ok (.aload_n 0, 1) := by decide +kernel
theorem d_Mo_promiseComes_11 : decode prog_12_method_16_code 11 = .ok (.getfield 90, 3) := by decide +kernel
theorem d_Mo_promiseComes_14 : decode prog_12_method_16_code 14 = .ok (.iconst 3, 1) := by decide +kernel
theorem d_Mo_promiseComes_15 : decode prog_12_method_16_code 15 = .ok (.iaload, 1) := by decide +kernel
theorem d_Mo_promiseComes_16 : decode prog_12_method_16_code 16 = .ok (.aload_n 0, 1) := by decide +kernel
theorem d_Mo_promiseComes_17 : decode prog_12_method_16_code 17 = .ok (.getfield 39, 3) := by decide +kernel
theorem d_Mo_promiseComes_20 : decode prog_12_method_16_code 20 = .ok (.iload_n 2, 1) := by decide +kernel
theorem d_Mo_promiseComes_21 : decode prog_12_method_16_code 21 = .ok (.iaload, 1) := by decide +kernel
theorem d_Mo_promiseComes_22 : decode prog_12_method_16_code 22 = .ok (.if_icmp .ne 17, 3) := by decide +kernel
theorem d_Mo_promiseComes_25 : decode prog_12_method_16_code 25 = .ok (.aload_n 0, 1) := by decide +kernel
theorem d_Mo_promiseComes_26 : decode prog_12_method_16_code 26 = .ok (.getfield 42, 3) := by decide +kernel
theorem d_Mo_promiseComes_29 : decode prog_12_method_16_code 29 = .ok (.iload_n 2, 1) := by decide +kernel
theorem d_Mo_promiseComes_30 : decode prog_12_method_16_code 30 = .ok (.iaload, 1) := by decide +kernel
theorem d_Mo_promiseComes_31 : decode prog_12_method_16_code 31 = .ok (.iload_n 1, 1) := by decide +kernel
theorem d_Mo_promiseComes_32 : decode prog_12_method_16_code 32 = .ok (.ishr, 1) := by decide +kernel
theorem d_Mo_promiseComes_33 : decode prog_12_method_16_code 33 = .ok (.iconst 1, 1) := by decide +kernel
theorem d_Mo_promiseComes_34 : decode prog_12_method_16_code 34 = .ok (.iand, 1) := by decide +kernel
theorem d_Mo_promiseComes_35 : decode prog_12_method_16_code 35 = .ok (.iconst 1, 1) := by decide +kernel
theorem d_Mo_promiseComes_36 : decode prog_12_method_16_code 36 = .ok (.if_icmp .ne 5, 3) := by decide +kernel
theorem d_Mo_promiseComes_39 : decode prog_12_method_16_code 39 = .ok (.iconst 0, 1) := by decide +kernel
theorem d_Mo_promiseComes_40 : decode prog_12_method_16_code 40 = .ok (.ireturn, 1) := by decide +kernel
theorem d_Mo_promiseComes_41 : decode prog_12_method_16_code 41 = .ok (.aload_n 0, 1) := by decide +kernel
theorem d_Mo_promiseComes_42 : decode prog_12_method_16_code 42 = .ok (.getfield 42, 3) := by decide +kernel
theorem d_Mo_promiseComes_45 : decode prog_12_method_16_code 45 = .ok (.iload_n 2, 1) := by decide +kernel
theorem d_Mo_promiseComes_46 : decode prog_12_method_16_code 46 = .ok (.aload_n 0, 1) := by decide +kernel
theorem d_Mo_promiseComes_47 : decode prog_12_method_16_code 47 = .ok (.getfield 42, 3) := by decide +kernel
theorem d_Mo_promiseComes_50 : decode prog_12_method_16_code 50 = .ok (.iload_n 2, 1) := by decide +kernel
theorem d_Mo_promiseComes_51 : decode prog_12_method_16_code 51 = .ok (.iaload, 1) := by decide +kernel
theorem d_Mo_promiseComes_52 : decode prog_12_method_16_code 52 = .ok (.iconst 1, 1) := by decide +kernel
theorem d_Mo_promiseComes_53 : decode prog_12_method_16_code 53 = .ok (.iload_n 1, 1) := by decide +kernel
theorem d_Mo_promiseComes_54 : decode prog_12_method_16_code 54 = .ok (.ishl, 1) := by decide +kernel
theorem d_Mo_promiseComes_55 : decode prog_12_method_16_code 55 = .ok (.ior, 1) := by decide +kernel
theorem d_Mo_promiseComes_56 : decode prog_12_method_16_code 56 = .ok (.iastore, 1) := by decide +kernel
theorem d_Mo_promiseComes_57 : decode prog_12_method_16_code 57 = .ok (.iconst 0, 1) := by decide +kernel
theorem d_Mo_promiseComes_58 : decode prog_12_method_16_code 58 = .ok (.istore_n 3, 1) := by decide +kernel
theorem d_Mo_promiseComes_59 : decode prog_12_method_16_code 59 = .ok (.iload_n 3, 1) := by decide +kernel
theorem d_Mo_promiseComes_60 : decode prog_12_method_16_code 60 = .ok (.bipush 88, 2) := by decide +kernel
theorem d_Mo_promiseComes_62 : decode prog_12_method_16_code 62 = .ok (.if_icmp .ge 32, 3) := by decide +kernel
theorem d_Mo_promiseComes_65 : decode prog_12_method_16_code 65 = .ok (.aload_n 0, 1) := by decide +kernel
theorem d_Mo_promiseComes_66 : decode prog_12_method_16_code 66 = .ok (.getfield 45, 3) := by decide +kernel
theorem d_Mo_promiseComes_69 : decode prog_12_method_16_code 69 = .ok (.sipush 616, 3) := by decide +kernel
theorem d_Mo_promiseComes_72 : decode prog_12_method_16_code 72 = .ok (.iload_n 2, 1) := by decide +kernel
theorem d_Mo_promiseComes_73 : decode prog_12_method_16_code 73 = .ok (.imul, 1) := by decide +kernel
theorem d_Mo_promiseComes_74 : decode prog_12_method_16_code 74 = .ok (.bipush 88, 2) := by decide +kernel
theorem d_Mo_promiseComes_76 : decode prog_12_method_16_code 76 = .ok (.iload_n 1, 1) := by decide +kernel
theorem d_Mo_promiseComes_77 : decode prog_12_method_16_code 77 = .ok (.imul, 1) := by decide +kernel
theorem d_Mo_promiseComes_78 : decode prog_12_method_16_code 78 = .ok (.iadd, 1) := by decide +kernel
theorem d_Mo_promiseComes_79 : decode prog_12_method_16_code 79 = .ok (.iload_n 3, 1) := by decide +kernel
theorem d_Mo_promiseComes_80 : decode prog_12_method_16_code 80 = .ok (.iadd, 1) := by decide +kernel
theorem d_Mo_promiseComes_81 : decode prog_12_method_16_code 81 = .ok (.aload_n 0, 1) := by decide +kernel
theorem d_Mo_promiseComes_82 : decode prog_12_method_16_code 82 = .ok (.getfield 93, 3) := by decide +kernel
theorem d_Mo_promiseComes_85 : decode prog_12_method_16_code 85 = .ok (.iload_n 3, 1) := by decide +kernel
theorem d_Mo_promiseComes_86 : decode prog_12_method_16_code 86 = .ok (.iaload, 1) := by decide +kernel
theorem d_Mo_promiseComes_87 : decode prog_12_method_16_code 87 = .ok (.iastore, 1) := by decide +kernel
theorem d_Mo_promiseComes_88 : decode prog_12_method_16_code 88 = .ok (.iinc 3 1, 3) := by decide +kernel
theorem d_Mo_promiseComes_91 : decode prog_12_method_16_code 91 = .ok (.goto (-32), 3) := by decide +kernel
theorem d_Mo_promiseComes_94 : decode prog_12_method_16_code 94 = .ok (.aload_n 0, 1) := by decide +kernel
theorem d_Mo_promiseComes_95 : decode prog_12_method_16_code 95 = .ok (.getfield 42, 3) := by decide +kernel
theorem d_Mo_promiseComes_98 : decode prog_12_method_16_code 98 = .ok (.iload_n 2, 1) := by decide +kernel
theorem d_Mo_promiseComes_99 : decode prog_12_method_16_code 99 = .ok (.iaload, 1) := by decide +kernel
theorem d_Mo_promiseComes_100 : decode prog_12_method_16_code 100 = .ok (.invokestatic 133, 3) := by decide +kernel
theorem d_Mo_promiseComes_103 : decode prog_12_method_16_code 103 = .ok (.iconst 5, 1) := by decide +kernel
theorem d_Mo_promiseComes_104 : decode prog_12_method_16_code 104 = .ok (.if_icmp .ge 5, 3) := by decide +kernel
theorem d_Mo_promiseComes_107 : decode prog_12_method_16_code 107 = .ok (.iconst 0, 1) := by decide +kernel
theorem d_Mo_promiseComes_108 : decode prog_12_method_16_code 108 = .ok (.ireturn, 1) := by decide +kernel
theorem d_Mo_promiseComes_109 : decode prog_12_method_16_code 109 = .ok (.aload_n 0, 1) := by decide +kernel
theorem d_Mo_promiseComes_110 : decode prog_12_method_16_code 110 = .ok (.getfield 36, 3) := by decide +kernel
theorem d_Mo_promiseComes_113 : decode prog_12_method_16_code 113 = .ok (.iload_n 2, 1) := by decide +kernel
theorem d_Mo_promiseComes_114 : decode prog_12_method_16_code 114 = .ok (.iconst 2, 1) := by decide +kernel
theorem d_Mo_promiseComes_115 : decode prog_12_method_16_code 115 = .ok (.iastore, 1) := by decide +kernel
theorem d_Mo_promiseComes_116 : decode prog_12_method_16_code 116 = .ok (.iconst 0, 1) := by decide +kernel
theorem d_Mo_promiseComes_117 : decode prog_12_method_16_code 117 = .ok (.istore_n 3, 1) := by decide +kernel
theorem d_Mo_promiseComes_118 : decode prog_12_method_16_code 118 = .ok (.iconst 0, 1) := by decide +kernel
theorem d_Mo_promiseComes_119 : decode prog_12_method_16_code 119 = .ok (.istore 4, 2) := by decide +kernel
theorem d_Mo_promiseComes_121 : decode prog_12_method_16_code 121 = .ok (.iload 4, 2) := by decide +kernel
theorem d_Mo_promiseComes_123 : decode prog_12_method_16_code 123 = .ok (.bipush 8, 2) := by decide +kernel
theorem d_Mo_promiseComes_125 : decode prog_12_method_16_code 125 = .ok (.if_icmp .ge 44, 3) := by decide +kernel
theorem d_Mo_promiseComes_128 : decode prog_12_method_16_code 128 = .ok (.aload_n 0, 1) := by decide +kernel
theorem d_Mo_promiseComes_129 : decode prog_12_method_16_code 129 = .ok (.getfield 54, 3) := by decide +kernel
theorem d_Mo_promiseComes_132 : decode prog_12_method_16_code 132 = .ok (.bipush 8, 2) := by decide +kernel
theorem d_Mo_promiseComes_134 : decode prog_12_method_16_code 134 = .ok (.iload_n 2, 1) := by decide +kernel
theorem d_Mo_promiseComes_135 : decode prog_12_method_16_code 135 = .ok (.imul, 1) := by decide +kernel
theorem d_Mo_promiseComes_136 : decode prog_12_method_16_code 136 = .ok (.iload 4, 2) := by decide +kernel
theorem d_Mo_promiseComes_138 : decode prog_12_method_16_code 138 = .ok (.iadd, 1) := by decide +kernel
theorem d_Mo_promiseComes_139 : decode prog_12_method_16_code 139 = .ok (.iaload, 1) := by decide +kernel
theorem d_Mo_promiseComes_140 : decode prog_12_method_16_code 140 = .ok (.ifCond .ne 23, 3) := by decide +kernel
theorem d_Mo_promiseComes_143 : decode prog_12_method_16_code 143 = .ok (.aload_n 0, 1) := by decide +kernel
theorem d_Mo_promiseComes_144 : decode prog_12_method_16_code 144 = .ok (.iload_n 2, 1) := by decide +kernel
theorem d_Mo_promiseComes_145 : decode prog_12_method_16_code 145 = .ok (.iload 4, 2) := by decide +kernel
theorem d_Mo_promiseComes_147 : decode prog_12_method_16_code 147 = .ok (.invokevirtual 136, 3) := by decide +kernel
theorem d_Mo_promiseComes_150 : decode prog_12_method_16_code 150 = .ok (.ifCond .eq 13, 3) := by decide +kernel
theorem d_Mo_promiseComes_153 : decode prog_12_method_16_code 153 = .ok (.iload_n 3, 1) := by decide +kernel
theorem d_Mo_promiseComes_154 : decode prog_12_method_16_code 154 = .ok (.aload_n 0, 1) := by decide +kernel
theorem d_Mo_promiseComes_155 : decode prog_12_method_16_code 155 = .ok (.iload_n 2, 1) := by decide +kernel
theorem d_Mo_promiseComes_156 : decode prog_12_method_16_code 156 = .ok (.iload 4, 2) := by decide +kernel
theorem d_Mo_promiseComes_158 : decode prog_12_method_16_code 158 = .ok (.invokevirtual 140, 3) := by decide +kernel
theorem d_Mo_promiseComes_161 : decode prog_12_method_16_code 161 = .ok (.iadd, 1) := by decide +kernel
theorem d_Mo_promiseComes_162 : decode prog_12_method_16_code 162 = .ok (.istore_n 3, 1) := by decide +kernel
theorem d_Mo_promiseComes_163 : decode prog_12_method_16_code 163 = .ok (.iinc 4 1, 3) := by decide +kernel
theorem d_Mo_promiseComes_166 : decode prog_12_method_16_code 166 = .ok (.goto (-45), 3) := by decide +kernel
theorem d_Mo_promiseComes_169 : decode prog_12_method_16_code 169 = .ok (.iload_n 3, 1) := by decide +kernel
theorem d_Mo_promiseComes_170 : decode prog_12_method_16_code 170 = .ok (.ireturn, 1) := by decide +kernel
theorem d_Mo_bits_0 : decode prog_12_method_15_code 0 = .ok (.iconst 0, 1) := by decide +kernel
theorem d_Mo_bits_1 : decode prog_12_method_15_code 1 = .ok (.istore_n 1, 1) := by decide +kernel
theorem d_Mo_bits_2 : decode prog_12_method_15_code 2 = .ok (.iconst 0, 1) := by decide +kernel
theorem d_Mo_bits_3 : decode prog_12_method_15_code 3 = .ok (.istore_n 2, 1) := by decide +kernel
theorem d_Mo_bits_4 : decode prog_12_method_15_code 4 = .ok (.iload_n 2, 1) := by decide +kernel
theorem d_Mo_bits_5 : decode prog_12_method_15_code 5 = .ok (.bipush 7, 2) := by decide +kernel
theorem d_Mo_bits_7 : decode prog_12_method_15_code 7 = .ok (.if_icmp .ge 17, 3) := by decide +kernel
theorem d_Mo_bits_10 : decode prog_12_method_15_code 10 = .ok (.iload_n 1, 1) := by decide +kernel
theorem d_Mo_bits_11 : decode prog_12_method_15_code 11 = .ok (.iload_n 0, 1) := by decide +kernel
theorem d_Mo_bits_12 : decode prog_12_method_15_code 12 = .ok (.iload_n 2, 1) := by decide +kernel
theorem d_Mo_bits_13 : decode prog_12_method_15_code 13 = .ok (.ishr, 1) := by decide +kernel
theorem d_Mo_bits_14 : decode prog_12_method_15_code 14 = .ok (.iconst 1, 1) := by decide +kernel
theorem d_Mo_bits_15 : decode prog_12_method_15_code 15 = .ok (.iand, 1) := by decide +kernel
theorem d_Mo_bits_16 : decode prog_12_method_15_code 16 = .ok (.iadd, 1) := by decide +kernel
theorem d_Mo_bits_17 : decode prog_12_method_15_code 17 = .ok (.istore_n 1, 1) := by decide +kernel
theorem d_Mo_bits_18 : decode prog_12_method_15_code 18 = .ok (.iinc 2 1, 3) := by decide +kernel
theorem d_Mo_bits_21 : decode prog_12_method_15_code 21 = .ok (.goto (-17), 3) := by decide +kernel
theorem d_Mo_bits_24 : decode prog_12_method_15_code 24 = .ok (.iload_n 1, 1) := by decide +kernel
theorem d_Mo_bits_25 : decode prog_12_method_15_code 25 = .ok (.ireturn, 1) := by decide +kernel
theorem d_Mo_again_0 : decode prog_12_method_18_code 0 = .ok (.iconst (-1), 1) := by decide +kernel
theorem d_Mo_again_1 : decode prog_12_method_18_code 1 = .ok (.istore_n 3, 1) := by decide +kernel
theorem d_Mo_again_2 : decode prog_12_method_18_code 2 = .ok (.iconst 0, 1) := by decide +kernel
theorem d_Mo_again_3 : decode prog_12_method_18_code 3 = .ok (.istore 4, 2) := by decide +kernel
theorem d_Mo_again_5 : decode prog_12_method_18_code 5 = .ok (.iconst 0, 1) := by decide +kernel
theorem d_Mo_again_6 : decode prog_12_method_18_code 6 = .ok (.istore 5, 2) := by decide +kernel
theorem d_Mo_again_8 : decode prog_12_method_18_code 8 = .ok (.iload 5, 2) := by decide +kernel
theorem d_Mo_again_10 : decode prog_12_method_18_code 10 = .ok (.bipush 7, 2) := by decide +kernel
theorem d_Mo_again_12 : decode prog_12_method_18_code 12 = .ok (.if_icmp .ge 185, 3) := by decide +kernel
theorem d_Mo_again_15 : decode prog_12_method_18_code 15 = .ok (.iload_n 1, 1) := by decide +kernel
theorem d_Mo_again_16 : decode prog_12_method_18_code 16 = .ok (.iload 5, 2) := by decide +kernel
theorem d_Mo_again_18 : decode prog_12_method_18_code 18 = .ok (.iload_n 2, 1) := by decide +kernel
theorem d_Mo_again_19 : decode prog_12_method_18_code 19 = .ok (.invokestatic 143, 3) := by decide +kernel
theorem d_Mo_again_22 : decode prog_12_method_18_code 22 = .ok (.istore 6, 2) := by decide +kernel
theorem d_Mo_again_24 : decode prog_12_method_18_code 24 = .ok (.aload_n 0, 1) := by decide +kernel
theorem d_Mo_again_25 : decode prog_12_method_18_code 25 = .ok (.getfield 42, 3) := by decide +kernel
theorem d_Mo_again_28 : decode prog_12_method_18_code 28 = .ok (.iload_n 1, 1) := by decide +kernel
theorem d_Mo_again_29 : decode prog_12_method_18_code 29 = .ok (.iaload, 1) := by decide +kernel
theorem d_Mo_again_30 : decode prog_12_method_18_code 30 = .ok (.iload 5, 2) := by decide +kernel
theorem d_Mo_again_32 : decode prog_12_method_18_code 32 = .ok (.ishr, 1) := by decide +kernel
theorem d_Mo_again_33 : decode prog_12_method_18_code 33 = .ok (.iconst 1, 1) := by decide +kernel
theorem d_Mo_again_34 : decode prog_12_method_18_code 34 = .ok (.iand, 1) := by decide +kernel
theorem d_Mo_again_35 : decode prog_12_method_18_code 35 = .ok (.iconst 1, 1) := by decide +kernel
theorem d_Mo_again_36 : decode prog_12_method_18_code 36 = .ok (.if_icmp .ne 155, 3) := by decide +kernel
theorem d_Mo_again_39 : decode prog_12_method_18_code 39 = .ok (.aload_n 0, 1) := by decide +kernel
theorem d_Mo_again_40 : decode prog_12_method_18_code 40 = .ok (.getfield 45, 3) := by decide +kernel
theorem d_Mo_again_43 : decode prog_12_method_18_code 43 = .ok (.iload 6, 2) := by decide +kernel
theorem d_Mo_again_45 : decode prog_12_method_18_code 45 = .ok (.iconst 2, 1) := by decide +kernel
theorem d_Mo_again_46 : decode prog_12_method_18_code 46 = .ok (.iadd, 1) := by decide +kernel
theorem d_Mo_again_47 : decode prog_12_method_18_code 47 = .ok (.iaload, 1) := by decide +kernel
theorem d_Mo_again_48 : decode prog_12_method_18_code 48 = .ok (.ifCond .le 143, 3) := by decide +kernel
theorem d_Mo_again_51 : decode prog_12_method_18_code 51 = .ok (.iconst 0, 1) := by decide +kernel
theorem d_Mo_again_52 : decode prog_12_method_18_code 52 = .ok (.istore 7, 2) := by decide +kernel
theorem d_Mo_again_54 : decode prog_12_method_18_code 54 = .ok (.iconst 0, 1) := by decide +kernel
theorem d_Mo_again_55 : decode prog_12_method_18_code 55 = .ok (.istore 8, 2) := by decide +kernel
theorem d_Mo_again_57 : decode prog_12_method_18_code 57 = .ok (.iload 8, 2) := by decide +kernel
theorem d_Mo_again_59 : decode prog_12_method_18_code 59 = .ok (.bipush 7, 2) := by decide +kernel
theorem d_Mo_again_61 : decode prog_12_method_18_code 61 = .ok (.if_icmp .ge 69, 3) := by decide +kernel
theorem d_Mo_again_64 : decode prog_12_method_18_code 64 = .ok (.iload_n 1, 1) := by decide +kernel
theorem d_Mo_again_65 : decode prog_12_method_18_code 65 = .ok (.iload 8, 2) := by decide +kernel
theorem d_Mo_again_67 : decode prog_12_method_18_code 67 = .ok (.iload_n 2, 1) := by decide +kernel
theorem d_Mo_again_68 : decode prog_12_method_18_code 68 = .ok (.invokestatic 143, 3) := by decide +kernel
theorem d_Mo_again_71 : decode prog_12_method_18_code 71 = .ok (.istore 9, 2) := by decide +kernel
theorem d_Mo_again_73 : decode prog_12_method_18_code 73 = .ok (.aload_n 0, 1) := by decide +kernel
theorem d_Mo_again_74 : decode prog_12_method_18_code 74 = .ok (.getfield 42, 3) := by decide +kernel
theorem d_Mo_again_77 : decode prog_12_method_18_code 77 = .ok (.iload_n 1, 1) := by decide +kernel
theorem d_Mo_again_78 : decode prog_12_method_18_code 78 = .ok (.iaload, 1) := by decide +kernel
theorem d_Mo_again_79 : decode prog_12_method_18_code 79 = .ok (.iload 8, 2) := by decide +kernel
theorem d_Mo_again_81 : decode prog_12_method_18_code 81 = .ok (.ishr, 1) := by decide +kernel
theorem d_Mo_again_82 : decode prog_12_method_18_code 82 = .ok (.iconst 1, 1) := by decide +kernel
theorem d_Mo_again_83 : decode prog_12_method_18_code 83 = .ok (.iand, 1) := by decide +kernel
theorem d_Mo_again_84 : decode prog_12_method_18_code 84 = .ok (.iconst 1, 1) := by decide +kernel
theorem d_Mo_again_85 : decode prog_12_method_18_code 85 = .ok (.if_icmp .ne 39, 3) := by decide +kernel
theorem d_Mo_again_88 : decode prog_12_method_18_code 88 = .ok (.aload_n 0, 1) := by decide +kernel
theorem d_Mo_again_89 : decode prog_12_method_18_code 89 = .ok (.getfield 45, 3) := by decide +kernel
theorem d_Mo_again_92 : decode prog_12_method_18_code 92 = .ok (.iload 9, 2) := by decide +kernel
theorem d_Mo_again_94 : decode prog_12_method_18_code 94 = .ok (.iconst 2, 1) := by decide +kernel
theorem d_Mo_again_95 : decode prog_12_method_18_code 95 = .ok (.iadd, 1) := by decide +kernel
theorem d_Mo_again_96 : decode prog_12_method_18_code 96 = .ok (.iaload, 1) := by decide +kernel
theorem d_Mo_again_97 : decode prog_12_method_18_code 97 = .ok (.ifCond .le 27, 3) := by decide +kernel
theorem d_Mo_again_100 : decode prog_12_method_18_code 100 = .ok (.aload_n 0, 1) := by decide +kernel
theorem d_Mo_again_101 : decode prog_12_method_18_code 101 = .ok (.getfield 45, 3) := by decide +kernel
theorem d_Mo_again_104 : decode prog_12_method_18_code 104 = .ok (.iload 9, 2) := by decide +kernel
theorem d_Mo_again_106 : decode prog_12_method_18_code 106 = .ok (.iconst 1, 1) := by decide +kernel
theorem d_Mo_again_107 : decode prog_12_method_18_code 107 = .ok (.iadd, 1) := by decide +kernel
theorem d_Mo_again_108 : decode prog_12_method_18_code 108 = .ok (.iaload, 1) := by decide +kernel
theorem d_Mo_again_109 : decode prog_12_method_18_code 109 = .ok (.aload_n 0, 1) := by decide +kernel
theorem d_Mo_again_110 : decode prog_12_method_18_code 110 = .ok (.getfield 45, 3) := by decide +kernel
theorem d_Mo_again_113 : decode prog_12_method_18_code 113 = .ok (.iload 6, 2) := by decide +kernel
theorem d_Mo_again_115 : decode prog_12_method_18_code 115 = .ok (.iconst 1, 1) := by decide +kernel
theorem d_Mo_again_116 : decode prog_12_method_18_code 116 = .ok (.iadd, 1) := by decide +kernel
theorem d_Mo_again_117 : decode prog_12_method_18_code 117 = .ok (.iaload, 1) := by decide +kernel
theorem d_Mo_again_118 : decode prog_12_method_18_code 118 = .ok (.if_icmp .ne 6, 3) := by decide +kernel
theorem d_Mo_again_121 : decode prog_12_method_18_code 121 = .ok (.iinc 7 1, 3) := by decide +kernel
theorem d_Mo_again_124 : decode prog_12_method_18_code 124 = .ok (.iinc 8 1, 3) := by decide +kernel
theorem d_Mo_again_127 : decode prog_12_method_18_code 127 = .ok (.goto (-70), 3) := by decide +kernel
theorem d_Mo_again_130 : decode prog_12_method_18_code 130 = .ok (.iload 7, 2) := by decide +kernel
theorem d_Mo_again_132 : decode prog_12_method_18_code 132 = .ok (.iconst 2, 1) := by decide +kernel
theorem d_Mo_again_133 : decode prog_12_method_18_code 133 = .ok (.if_icmp .le 58, 3) := by decide +kernel
theorem d_Mo_again_136 : decode prog_12_method_18_code 136 = .ok (.aload_n 0, 1) := by decide +kernel
theorem d_Mo_again_137 : decode prog_12_method_18_code 137 = .ok (.getfield 45, 3) := by decide +kernel
theorem d_Mo_again_140 : decode prog_12_method_18_code 140 = .ok (.iload 6, 2) := by decide +kernel
theorem d_Mo_again_142 : decode prog_12_method_18_code 142 = .ok (.iaload, 1) := by decide +kernel
theorem d_Mo_again_143 : decode prog_12_method_18_code 143 = .ok (.iload_n 3, 1) := by decide +kernel
theorem d_Mo_again_144 : decode prog_12_method_18_code 144 = .ok (.if_icmp .gt 28, 3) := by decide +kernel
theorem d_Mo_again_147 : decode prog_12_method_18_code 147 = .ok (.aload_n 0, 1) := by decide +kernel
theorem d_Mo_again_148 : decode prog_12_method_18_code 148 = .ok (.getfield 45, 3) := by decide +kernel
theorem d_Mo_again_151 : decode prog_12_method_18_code 151 = .ok (.iload 6, 2) := by decide +kernel
theorem d_Mo_again_153 : decode prog_12_method_18_code 153 = .ok (.iaload, 1) := by decide +kernel
theorem d_Mo_again_154 : decode prog_12_method_18_code 154 = .ok (.iload_n 3, 1) := by decide +kernel
theorem d_Mo_again_155 : decode prog_12_method_18_code 155 = .ok (.if_icmp .ne 36, 3) := by decide +kernel
theorem d_Mo_again_158 : decode prog_12_method_18_code 158 = .ok (.aload_n 0, 1) := by decide +kernel
theorem d_Mo_again_159 : decode prog_12_method_18_code 159 = .ok (.getfield 45, 3) := by decide +kernel
theorem d_Mo_again_162 : decode prog_12_method_18_code 162 = .ok (.iload 6, 2) := by decide +kernel
theorem d_Mo_again_164 : decode prog_12_method_18_code 164 = .ok (.iconst 1, 1) := by decide +kernel
theorem d_Mo_again_165 : decode prog_12_method_18_code 165 = .ok (.iadd, 1) := by decide +kernel
theorem d_Mo_again_166 : decode prog_12_method_18_code 166 = .ok (.iaload, 1) := by decide +kernel
theorem d_Mo_again_167 : decode prog_12_method_18_code 167 = .ok (.iload 4, 2) := by decide +kernel
theorem d_Mo_again_169 : decode prog_12_method_18_code 169 = .ok (.if_icmp .ge 22, 3) := by decide +kernel
theorem d_Mo_again_172 : decode prog_12_method_18_code 172 = .ok (.aload_n 0, 1) := by decide +kernel
theorem d_Mo_again_173 : decode prog_12_method_18_code 173 = .ok (.getfield 45, 3) := by decide +kernel
theorem d_Mo_again_176 : decode prog_12_method_18_code 176 = .ok (.iload 6, 2) := by decide +kernel
theorem d_Mo_again_178 : decode prog_12_method_18_code 178 = .ok (.iaload, 1) := by decide +kernel
theorem d_Mo_again_179 : decode prog_12_method_18_code 179 = .ok (.istore_n 3, 1) := by decide +kernel
theorem d_Mo_again_180 : decode prog_12_method_18_code 180 = .ok (.aload_n 0, 1) := by decide +kernel
theorem d_Mo_again_181 : decode prog_12_method_18_code 181 = .ok (.getfield 45, 3) := by decide +kernel
theorem d_Mo_again_184 : decode prog_12_method_18_code 184 = .ok (.iload 6, 2) := by decide +kernel
theorem d_Mo_again_186 : decode prog_12_method_18_code 186 = .ok (.iconst 1, 1) := by decide +kernel
theorem d_Mo_again_187 : decode prog_12_method_18_code 187 = .ok (.iadd, 1) := by decide +kernel
theorem d_Mo_again_188 : decode prog_12_method_18_code 188 = .ok (.iaload, 1) := by decide +kernel
theorem d_Mo_again_189 : decode prog_12_method_18_code 189 = .ok (.istore 4, 2) := by decide +kernel
theorem d_Mo_again_191 : decode prog_12_method_18_code 191 = .ok (.iinc 5 1, 3) := by decide +kernel
theorem d_Mo_again_194 : decode prog_12_method_18_code 194 = .ok (.goto (-186), 3) := by decide +kernel
theorem d_Mo_again_197 : decode prog_12_method_18_code 197 = .ok (.iload_n 3, 1) := by decide +kernel
theorem d_Mo_again_198 : decode prog_12_method_18_code 198 = .ok (.ifCond .ge 5, 3) := by decide +kernel
theorem d_Mo_again_201 : decode prog_12_method_18_code 201 = .ok (.iconst 0, 1) := by decide +kernel
theorem d_Mo_again_202 : decode prog_12_method_18_code 202 = .ok (.ireturn, 1) := by decide +kernel
theorem d_Mo_again_203 : decode prog_12_method_18_code 203 = .ok (.iconst 0, 1) := by decide +kernel
theorem d_Mo_again_204 : decode prog_12_method_18_code 204 = .ok (.istore 5, 2) := by decide +kernel
theorem d_Mo_again_206 : decode prog_12_method_18_code 206 = .ok (.iconst 0, 1) := by decide +kernel
theorem d_Mo_again_207 : decode prog_12_method_18_code 207 = .ok (.istore 6, 2) := by decide +kernel
theorem d_Mo_again_209 : decode prog_12_method_18_code 209 = .ok (.iload 6, 2) := by decide +kernel
theorem d_Mo_again_211 : decode prog_12_method_18_code 211 = .ok (.bipush 7, 2) := by decide +kernel
theorem d_Mo_again_213 : decode prog_12_method_18_code 213 = .ok (.if_icmp .ge 77, 3) := by decide +kernel
theorem d_Mo_again_216 : decode prog_12_method_18_code 216 = .ok (.iload 5, 2) := by decide +kernel
theorem d_Mo_again_218 : decode prog_12_method_18_code 218 = .ok (.iconst 3, 1) := by decide +kernel
theorem d_Mo_again_219 : decode prog_12_method_18_code 219 = .ok (.if_icmp .ge 71, 3) := by decide +kernel
theorem d_Mo_again_222 : decode prog_12_method_18_code 222 = .ok (.iload_n 1, 1) := by decide +kernel
theorem d_Mo_again_223 : decode prog_12_method_18_code 223 = .ok (.iload 6, 2) := by decide +kernel
theorem d_Mo_again_225 : decode prog_12_method_18_code 225 = .ok (.iload_n 2, 1) := by decide +kernel
theorem d_Mo_again_226 : decode prog_12_method_18_code 226 = .ok (.invokestatic 143, 3) := by decide +kernel
theorem d_Mo_again_229 : decode prog_12_method_18_code 229 = .ok (.istore 7, 2) := by decide +kernel
theorem d_Mo_again_231 : decode prog_12_method_18_code 231 = .ok (.aload_n 0, 1) := by decide +kernel
theorem d_Mo_again_232 : decode prog_12_method_18_code 232 = .ok (.getfield 42, 3) := by decide +kernel
theorem d_Mo_again_235 : decode prog_12_method_18_code 235 = .ok (.iload_n 1, 1) := by decide +kernel
theorem d_Mo_again_236 : decode prog_12_method_18_code 236 = .ok (.iaload, 1) := by decide +kernel
theorem d_Mo_again_237 : decode prog_12_method_18_code 237 = .ok (.iload 6, 2) := by decide +kernel
theorem d_Mo_again_239 : decode prog_12_method_18_code 239 = .ok (.ishr, 1) := by decide +kernel
theorem d_Mo_again_240 : decode prog_12_method_18_code 240 = .ok (.iconst 1, 1) := by decide +kernel
theorem d_Mo_again_241 : decode prog_12_method_18_code 241 = .ok (.iand, 1) := by decide +kernel
theorem d_Mo_again_242 : decode prog_12_method_18_code 242 = .ok (.iconst 1, 1) := by decide +kernel
theorem d_Mo_again_243 : decode prog_12_method_18_code 243 = .ok (.if_icmp .ne 41, 3) := by decide +kernel
theorem d_Mo_again_246 : decode prog_12_method_18_code 246 = .ok (.aload_n 0, 1) := by decide +kernel
theorem d_Mo_again_247 : decode prog_12_method_18_code 247 = .ok (.getfield 45, 3) := by decide +kernel
theorem d_Mo_again_250 : decode prog_12_method_18_code 250 = .ok (.iload 7, 2) := by decide +kernel
theorem d_Mo_again_252 : decode prog_12_method_18_code 252 = .ok (.iconst 2, 1) := by decide +kernel
theorem d_Mo_again_253 : decode prog_12_method_18_code 253 = .ok (.iadd, 1) := by decide +kernel
theorem d_Mo_again_254 : decode prog_12_method_18_code 254 = .ok (.iaload, 1) := by decide +kernel
theorem d_Mo_again_255 : decode prog_12_method_18_code 255 = .ok (.ifCond .le 29, 3) := by decide +kernel
theorem d_Mo_again_258 : decode prog_12_method_18_code 258 = .ok (.aload_n 0, 1) := by decide +kernel
theorem d_Mo_again_259 : decode prog_12_method_18_code 259 = .ok (.getfield 45, 3) := by decide +kernel
theorem d_Mo_again_262 : decode prog_12_method_18_code 262 = .ok (.iload 7, 2) := by decide +kernel
theorem d_Mo_again_264 : decode prog_12_method_18_code 264 = .ok (.iconst 1, 1) := by decide +kernel
theorem d_Mo_again_265 : decode prog_12_method_18_code 265 = .ok (.iadd, 1) := by decide +kernel
theorem d_Mo_again_266 : decode prog_12_method_18_code 266 = .ok (.iaload, 1) := by decide +kernel
theorem d_Mo_again_267 : decode prog_12_method_18_code 267 = .ok (.iload 4, 2) := by decide +kernel
theorem d_Mo_again_269 : decode prog_12_method_18_code 269 = .ok (.if_icmp .ne 15, 3) := by decide +kernel
theorem d_Mo_again_272 : decode prog_12_method_18_code 272 = .ok (.aload_n 0, 1) := by decide +kernel
theorem d_Mo_again_273 : decode prog_12_method_18_code 273 = .ok (.getfield 75, 3) := by decide +kernel
theorem d_Mo_again_276 : decode prog_12_method_18_code 276 = .ok (.iload 5, 2) := by decide +kernel
theorem d_Mo_again_278 : decode prog_12_method_18_code 278 = .ok (.iload 6, 2) := by decide +kernel
theorem d_Mo_again_280 : decode prog_12_method_18_code 280 = .ok (.iastore, 1) := by decide +kernel
theorem d_Mo_again_281 : decode prog_12_method_18_code 281 = .ok (.iinc 5 1, 3) := by decide +kernel
theorem d_Mo_again_284 : decode prog_12_method_18_code 284 = .ok (.iinc 6 1, 3) := by decide +kernel
theorem d_Mo_again_287 : decode prog_12_method_18_code 287 = .ok (.goto (-78), 3) := by decide +kernel
theorem d_Mo_again_290 : decode prog_12_method_18_code 290 = .ok (.aload_n 0, 1) := by decide +kernel
theorem d_Mo_again_291 : decode prog_12_method_18_code 291 = .ok (.aload_n 0, 1) := by decide +kernel
theorem d_Mo_again_292 : decode prog_12_method_18_code 292 = .ok (.getfield 45, 3) := by decide +kernel
theorem d_Mo_again_295 : decode prog_12_method_18_code 295 = .ok (.iload_n 1, 1) := by decide +kernel
theorem d_Mo_again_296 : decode prog_12_method_18_code 296 = .ok (.aload_n 0, 1) := by decide +kernel
theorem d_Mo_again_297 : decode prog_12_method_18_code 297 = .ok (.getfield 75, 3) := by decide +kernel
theorem d_Mo_again_300 : decode prog_12_method_18_code 300 = .ok (.iconst 0, 1) := by decide +kernel
theorem d_Mo_again_301 : decode prog_12_method_18_code 301 = .ok (.iaload, 1) := by decide +kernel
theorem d_Mo_again_302 : decode prog_12_method_18_code 302 = .ok (.iload_n 2, 1) := by decide +kernel
theorem d_Mo_again_303 : decode prog_12_method_18_code 303 = .ok (.invokestatic 143, 3) := by decide +kernel
theorem d_Mo_again_306 : decode prog_12_method_18_code 306 = .ok (.iload_n 1, 1) := by decide +kernel
theorem d_Mo_again_307 : decode prog_12_method_18_code 307 = .ok (.aload_n 0, 1) := by decide +kernel
theorem d_Mo_again_308 : decode prog_12_method_18_code 308 = .ok (.getfield 75, 3) := by decide +kernel
theorem d_Mo_again_311 : decode prog_12_method_18_code 311 = .ok (.iconst 1, 1) := by decide +kernel
theorem d_Mo_again_312 : decode prog_12_method_18_code 312 = .ok (.iaload, 1) := by decide +kernel
theorem d_Mo_again_313 : decode prog_12_method_18_code 313 = .ok (.iload_n 2, 1) := by decide +kernel
theorem d_Mo_again_314 : decode prog_12_method_18_code 314 = .ok (.invokestatic 143, 3) := by decide +kernel
theorem d_Mo_again_317 : decode prog_12_method_18_code 317 = .ok (.iload_n 1, 1) := by decide +kernel
theorem d_Mo_again_318 : decode prog_12_method_18_code 318 = .ok (.aload_n 0, 1) := by decide +kernel
theorem d_Mo_again_319 : decode prog_12_method_18_code 319 = .ok (.getfield 75, 3) := by decide +kernel
theorem d_Mo_again_322 : decode prog_12_method_18_code 322 = .ok (.iconst 2, 1) := by decide +kernel
theorem d_Mo_again_323 : decode prog_12_method_18_code 323 = .ok (.iaload, 1) := by decide +kernel
theorem d_Mo_again_324 : decode prog_12_method_18_code 324 = .ok (.iload_n 2, 1) := by decide +kernel
theorem d_Mo_again_325 : decode prog_12_method_18_code 325 = .ok (.invokestatic 143, 3) := by decide +kernel
theorem d_Mo_again_328 : decode prog_12_method_18_code 328 = .ok (.invokevirtual 146, 3) := by decide +kernel
theorem d_Mo_again_331 : decode prog_12_method_18_code 331 = .ok (.istore 6, 2) := by decide +kernel
theorem d_Mo_again_333 : decode prog_12_method_18_code 333 = .ok (.aload_n 0, 1) := by decide +kernel
theorem d_Mo_again_334 : decode prog_12_method_18_code 334 = .ok (.iload_n 1, 1) := by decide +kernel
theorem d_Mo_again_335 : decode prog_12_method_18_code 335 = .ok (.iload_n 2, 1) := by decide +kernel
theorem d_Mo_again_336 : decode prog_12_method_18_code 336 = .ok (.iload 4, 2) := by decide +kernel
theorem d_Mo_again_338 : decode prog_12_method_18_code 338 = .ok (.aload_n 0, 1) := by decide +kernel
theorem d_Mo_again_339 : decode prog_12_method_18_code 339 = .ok (.getfield 78, 3) := by decide +kernel
theorem d_Mo_again_342 : decode prog_12_method_18_code 342 = .ok (.iconst 0, 1) := by decide +kernel
theorem d_Mo_again_343 : decode prog_12_method_18_code 343 = .ok (.iload 6, 2) := by decide +kernel
theorem d_Mo_again_345 : decode prog_12_method_18_code 345 = .ok (.invokevirtual 150, 3) := by decide +kernel
theorem d_Mo_again_348 : decode prog_12_method_18_code 348 = .ok (.iconst 1, 1) := by decide +kernel
theorem d_Mo_again_349 : decode prog_12_method_18_code 349 = .ok (.ireturn, 1) := by decide +kernel
theorem d_Mo_heardAt_0 : decode prog_12_method_17_code 0 = .ok (.sipush 616, 3) := by decide +kernel
theorem d_Mo_heardAt_3 : decode prog_12_method_17_code 3 = .ok (.iload_n 0, 1) := by decide +kernel
theorem d_Mo_heardAt_4 : decode prog_12_method_17_code 4 = .ok (.imul, 1) := by decide +kernel
theorem d_Mo_heardAt_5 : decode prog_12_method_17_code 5 = .ok (.bipush 88, 2) := by decide +kernel
theorem d_Mo_heardAt_7 : decode prog_12_method_17_code 7 = .ok (.iload_n 1, 1) := by decide +kernel
theorem d_Mo_heardAt_8 : decode prog_12_method_17_code 8 = .ok (.imul, 1) := by decide +kernel
theorem d_Mo_heardAt_9 : decode prog_12_method_17_code 9 = .ok (.iadd, 1) := by decide +kernel
theorem d_Mo_heardAt_10 : decode prog_12_method_17_code 10 = .ok (.bipush 11, 2) := by decide +kernel
theorem d_Mo_heardAt_12 : decode prog_12_method_17_code 12 = .ok (.iload_n 2, 1) := by decide +kernel
theorem d_Mo_heardAt_13 : decode prog_12_method_17_code 13 = .ok (.imul, 1) := by decide +kernel
theorem d_Mo_heardAt_14 : decode prog_12_method_17_code 14 = .ok (.iadd, 1) := by decide +kernel
theorem d_Mo_heardAt_15 : decode prog_12_method_17_code 15 = .ok (.ireturn, 1) := by decide +kernel
theorem d_Mo_together_0 : decode prog_12_method_8_code 0 = .ok (.aload_n 1, 1) := by decide +kernel
theorem d_Mo_together_1 : decode prog_12_method_8_code 1 = .ok (.iload_n 2, 1) := by decide +kernel
theorem d_Mo_together_2 : decode prog_12_method_8_code 2 = .ok (.iconst 2, 1) := by decide +kernel
theorem d_Mo_together_3 : decode prog_12_method_8_code 3 = .ok (.iadd, 1) := by decide +kernel
theorem d_Mo_together_4 : decode prog_12_method_8_code 4 = .ok (.iaload, 1) := by decide +kernel
theorem d_Mo_together_5 : decode prog_12_method_8_code 5 = .ok (.istore 5, 2) := by decide +kernel
theorem d_Mo_together_7 : decode prog_12_method_8_code 7 = .ok (.iload 5, 2) := by decide +kernel
theorem d_Mo_together_9 : decode prog_12_method_8_code 9 = .ok (.invokestatic 100, 3) := by decide +kernel
theorem d_Mo_together_12 : decode prog_12_method_8_code 12 = .ok (.istore 6, 2) := by decide +kernel
theorem d_Mo_together_14 : decode prog_12_method_8_code 14 = .ok (.iconst 0, 1) := by decide +kernel
theorem d_Mo_together_15 : decode prog_12_method_8_code 15 = .ok (.istore 7, 2) := by decide +kernel
theorem d_Mo_together_17 : decode prog_12_method_8_code 17 = .ok (.iload 7, 2) := by decide +kernel
theorem d_Mo_together_19 : decode prog_12_method_8_code 19 = .ok (.iload 6, 2) := by decide +kernel
theorem d_Mo_together_21 : decode prog_12_method_8_code 21 = .ok (.if_icmp .ge 86, 3) := by decide +kernel
theorem d_Mo_together_24 : decode prog_12_method_8_code 24 = .ok (.aload_n 0, 1) := by decide +kernel
theorem d_Mo_together_25 : decode prog_12_method_8_code 25 = .ok (.aload_n 1, 1) := by decide +kernel
theorem d_Mo_together_26 : decode prog_12_method_8_code 26 = .ok (.iload_n 2, 1) := by decide +kernel
theorem d_Mo_together_27 : decode prog_12_method_8_code 27 = .ok (.iconst 3, 1) := by decide +kernel
theorem d_Mo_together_28 : decode prog_12_method_8_code 28 = .ok (.iadd, 1) := by decide +kernel
theorem d_Mo_together_29 : decode prog_12_method_8_code 29 = .ok (.iload 7, 2) := by decide +kernel
theorem d_Mo_together_31 : decode prog_12_method_8_code 31 = .ok (.iadd, 1) := by decide +kernel
theorem d_Mo_together_32 : decode prog_12_method_8_code 32 = .ok (.iaload, 1) := by decide +kernel
theorem d_Mo_together_33 : decode prog_12_method_8_code 33 = .ok (.aload_n 1, 1) := by decide +kernel
theorem d_Mo_together_34 : decode prog_12_method_8_code 34 = .ok (.iload_n 3, 1) := by decide +kernel
theorem d_Mo_together_35 : decode prog_12_method_8_code 35 = .ok (.iconst 3, 1) := by decide +kernel
theorem d_Mo_together_36 : decode prog_12_method_8_code 36 = .ok (.iadd, 1) := by decide +kernel
theorem d_Mo_together_37 : decode prog_12_method_8_code 37 = .ok (.iload 7, 2) := by decide +kernel
theorem d_Mo_together_39 : decode prog_12_method_8_code 39 = .ok (.iadd, 1) := by decide +kernel
theorem d_Mo_together_40 : decode prog_12_method_8_code 40 = .ok (.iaload, 1) := by decide +kernel
theorem d_Mo_together_41 : decode prog_12_method_8_code 41 = .ok (.aload_n 1, 1) := by decide +kernel
theorem d_Mo_together_42 : decode prog_12_method_8_code 42 = .ok (.iload 4, 2) := by decide +kernel
theorem d_Mo_together_44 : decode prog_12_method_8_code 44 = .ok (.iconst 3, 1) := by decide +kernel
theorem d_Mo_together_45 : decode prog_12_method_8_code 45 = .ok (.iadd, 1) := by decide +kernel
theorem d_Mo_together_46 : decode prog_12_method_8_code 46 = .ok (.iload 7, 2) := by decide +kernel
theorem d_Mo_together_48 : decode prog_12_method_8_code 48 = .ok (.iadd, 1) := by decide +kernel
theorem d_Mo_together_49 : decode prog_12_method_8_code 49 = .ok (.iaload, 1) := by decide +kernel
theorem d_Mo_together_50 : decode prog_12_method_8_code 50 = .ok (.invokevirtual 110, 3) := by decide +kernel
theorem d_Mo_together_53 : decode prog_12_method_8_code 53 = .ok (.iconst 0, 1) := by decide +kernel
theorem d_Mo_together_54 : decode prog_12_method_8_code 54 = .ok (.istore 8, 2) := by decide +kernel
theorem d_Mo_together_56 : decode prog_12_method_8_code 56 = .ok (.iload 8, 2) := by decide +kernel
theorem d_Mo_together_58 : decode prog_12_method_8_code 58 = .ok (.iconst 3, 1) := by decide +kernel
theorem d_Mo_together_59 : decode prog_12_method_8_code 59 = .ok (.if_icmp .ge 42, 3) := by decide +kernel
theorem d_Mo_together_62 : decode prog_12_method_8_code 62 = .ok (.iload 6, 2) := by decide +kernel
theorem d_Mo_together_64 : decode prog_12_method_8_code 64 = .ok (.iload 8, 2) := by decide +kernel
theorem d_Mo_together_66 : decode prog_12_method_8_code 66 = .ok (.imul, 1) := by decide +kernel
theorem d_Mo_together_67 : decode prog_12_method_8_code 67 = .ok (.iload 7, 2) := by decide +kernel
theorem d_Mo_together_69 : decode prog_12_method_8_code 69 = .ok (.iadd, 1) := by decide +kernel
theorem d_Mo_together_70 : decode prog_12_method_8_code 70 = .ok (.iload 5, 2) := by decide +kernel
theorem d_Mo_together_72 : decode prog_12_method_8_code 72 = .ok (.if_icmp .ge 23, 3) := by decide +kernel
theorem d_Mo_together_75 : decode prog_12_method_8_code 75 = .ok (.aload_n 0, 1) := by decide +kernel
theorem d_Mo_together_76 : decode prog_12_method_8_code 76 = .ok (.getfield 78, 3) := by decide +kernel
theorem d_Mo_together_79 : decode prog_12_method_8_code 79 = .ok (.iload 6, 2) := by decide +kernel
theorem d_Mo_together_81 : decode prog_12_method_8_code 81 = .ok (.iload 8, 2) := by decide +kernel
theorem d_Mo_together_83 : decode prog_12_method_8_code 83 = .ok (.imul, 1) := by decide +kernel
theorem d_Mo_together_84 : decode prog_12_method_8_code 84 = .ok (.iload 7, 2) := by decide +kernel
theorem d_Mo_together_86 : decode prog_12_method_8_code 86 = .ok (.iadd, 1) := by decide +kernel
theorem d_Mo_together_87 : decode prog_12_method_8_code 87 = .ok (.aload_n 0, 1) := by decide +kernel
theorem d_Mo_together_88 : decode prog_12_method_8_code 88 = .ok (.getfield 81, 3) := by decide +kernel
theorem d_Mo_together_91 : decode prog_12_method_8_code 91 = .ok (.iload 8, 2) := by decide +kernel
theorem d_Mo_together_93 : decode prog_12_method_8_code 93 = .ok (.iaload, 1) := by decide +kernel
theorem d_Mo_together_94 : decode prog_12_method_8_code 94 = .ok (.iastore, 1) := by decide +kernel
theorem d_Mo_together_95 : decode prog_12_method_8_code 95 = .ok (.iinc 8 1, 3) := by decide +kernel
theorem d_Mo_together_98 : decode prog_12_method_8_code 98 = .ok (.goto (-42), 3) := by decide +kernel
theorem d_Mo_together_101 : decode prog_12_method_8_code 101 = .ok (.iinc 7 1, 3) := by decide +kernel
theorem d_Mo_together_104 : decode prog_12_method_8_code 104 = .ok (.goto (-87), 3) := by decide +kernel
theorem d_Mo_together_107 : decode prog_12_method_8_code 107 = .ok (.iload 5, 2) := by decide +kernel
theorem d_Mo_together_109 : decode prog_12_method_8_code 109 = .ok (.ireturn, 1) := by decide +kernel
theorem d_Mo_solve_0 : decode prog_12_method_7_code 0 = .ok (.aload_n 0, 1) := by decide +kernel
theorem d_Mo_solve_1 : decode prog_12_method_7_code 1 = .ok (.getfield 81, 3) := by decide +kernel
theorem d_Mo_solve_4 : decode prog_12_method_7_code 4 = .ok (.iconst 0, 1) := by decide +kernel
theorem d_Mo_solve_5 : decode prog_12_method_7_code 5 = .ok (.iconst 0, 1) := by decide +kernel
theorem d_Mo_solve_6 : decode prog_12_method_7_code 6 = .ok (.iastore, 1) := by decide +kernel
theorem d_Mo_solve_7 : decode prog_12_method_7_code 7 = .ok (.aload_n 0, 1) := by decide +kernel
theorem d_Mo_solve_8 : decode prog_12_method_7_code 8 = .ok (.getfield 81, 3) := by decide +kernel
theorem d_Mo_solve_11 : decode prog_12_method_7_code 11 = .ok (.iconst 1, 1) := by decide +kernel
theorem d_Mo_solve_12 : decode prog_12_method_7_code 12 = .ok (.iconst 0, 1) := by decide +kernel
theorem d_Mo_solve_13 : decode prog_12_method_7_code 13 = .ok (.iastore, 1) := by decide +kernel
theorem d_Mo_solve_14 : decode prog_12_method_7_code 14 = .ok (.aload_n 0, 1) := by decide +kernel
theorem d_Mo_solve_15 : decode prog_12_method_7_code 15 = .ok (.getfield 81, 3) := by decide +kernel
theorem d_Mo_solve_18 : decode prog_12_method_7_code 18 = .ok (.iconst 2, 1) := by decide +kernel
theorem d_Mo_solve_19 : decode prog_12_method_7_code 19 = .ok (.iconst 0, 1) := by decide +kernel
theorem d_Mo_solve_20 : decode prog_12_method_7_code 20 = .ok (.iastore, 1) := by decide +kernel
theorem d_Mo_solve_21 : decode prog_12_method_7_code 21 = .ok (.iconst 0, 1) := by decide +kernel
theorem d_Mo_solve_22 : decode prog_12_method_7_code 22 = .ok (.istore 4, 2) := by decide +kernel
theorem d_Mo_solve_24 : decode prog_12_method_7_code 24 = .ok (.iload 4, 2) := by decide +kernel
theorem d_Mo_solve_26 : decode prog_12_method_7_code 26 = .ok (.iconst 3, 1) := by decide +kernel
theorem d_Mo_solve_27 : decode prog_12_method_7_code 27 = .ok (.if_icmp .ge 164, 3) := by decide +kernel
theorem d_Mo_solve_30 : decode prog_12_method_7_code 30 = .ok (.aload_n 0, 1) := by decide +kernel
theorem d_Mo_solve_31 : decode prog_12_method_7_code 31 = .ok (.getfield 75, 3) := by decide +kernel
theorem d_Mo_solve_34 : decode prog_12_method_7_code 34 = .ok (.iload 4, 2) := by decide +kernel
theorem d_Mo_solve_36 : decode prog_12_method_7_code 36 = .ok (.iaload, 1) := by decide +kernel
theorem d_Mo_solve_37 : decode prog_12_method_7_code 37 = .ok (.iconst 1, 1) := by decide +kernel
theorem d_Mo_solve_38 : decode prog_12_method_7_code 38 = .ok (.iadd, 1) := by decide +kernel
theorem d_Mo_solve_39 : decode prog_12_method_7_code 39 = .ok (.istore 5, 2) := by decide +kernel
theorem d_Mo_solve_41 : decode prog_12_method_7_code 41 = .ok (.aload_n 0, 1) := by decide +kernel
theorem d_Mo_solve_42 : decode prog_12_method_7_code 42 = .ok (.getfield 75, 3) := by decide +kernel
theorem d_Mo_solve_45 : decode prog_12_method_7_code 45 = .ok (.iload 4, 2) := by decide +kernel
theorem d_Mo_solve_47 : decode prog_12_method_7_code 47 = .ok (.iconst 1, 1) := by decide +kernel
theorem d_Mo_solve_48 : decode prog_12_method_7_code 48 = .ok (.iadd, 1) := by decide +kernel
theorem d_Mo_solve_49 : decode prog_12_method_7_code 49 = .ok (.iconst 3, 1) := by decide +kernel
theorem d_Mo_solve_50 : decode prog_12_method_7_code 50 = .ok (.irem, 1) := by decide +kernel
theorem d_Mo_solve_51 : decode prog_12_method_7_code 51 = .ok (.iaload, 1) := by decide +kernel
theorem d_Mo_solve_52 : decode prog_12_method_7_code 52 = .ok (.iconst 1, 1) := by decide +kernel
theorem d_Mo_solve_53 : decode prog_12_method_7_code 53 = .ok (.iadd, 1) := by decide +kernel
theorem d_Mo_solve_54 : decode prog_12_method_7_code 54 = .ok (.istore 6, 2) := by decide +kernel
theorem d_Mo_solve_56 : decode prog_12_method_7_code 56 = .ok (.aload_n 0, 1) := by decide +kernel
theorem d_Mo_solve_57 : decode prog_12_method_7_code 57 = .ok (.getfield 75, 3) := by decide +kernel
theorem d_Mo_solve_60 : decode prog_12_method_7_code 60 = .ok (.iload 4, 2) := by decide +kernel
theorem d_Mo_solve_62 : decode prog_12_method_7_code 62 = .ok (.iconst 2, 1) := by decide +kernel
theorem d_Mo_solve_63 : decode prog_12_method_7_code 63 = .ok (.iadd, 1) := by decide +kernel
theorem d_Mo_solve_64 : decode prog_12_method_7_code 64 = .ok (.iconst 3, 1) := by decide +kernel
theorem d_Mo_solve_65 : decode prog_12_method_7_code 65 = .ok (.irem, 1) := by decide +kernel
theorem d_Mo_solve_66 : decode prog_12_method_7_code 66 = .ok (.iaload, 1) := by decide +kernel
theorem d_Mo_solve_67 : decode prog_12_method_7_code 67 = .ok (.iconst 1, 1) := by decide +kernel
theorem d_Mo_solve_68 : decode prog_12_method_7_code 68 = .ok (.iadd, 1) := by decide +kernel
theorem d_Mo_solve_69 : decode prog_12_method_7_code 69 = .ok (.istore 7, 2) := by decide +kernel
theorem d_Mo_solve_71 : decode prog_12_method_7_code 71 = .ok (.aload_n 0, 1) := by decide +kernel
theorem d_Mo_solve_72 : decode prog_12_method_7_code 72 = .ok (.iload 5, 2) := by decide +kernel
theorem d_Mo_solve_74 : decode prog_12_method_7_code 74 = .ok (.iload 6, 2) := by decide +kernel
theorem d_Mo_solve_76 : decode prog_12_method_7_code 76 = .ok (.ixor, 1) := by decide +kernel
theorem d_Mo_solve_77 : decode prog_12_method_7_code 77 = .ok (.iload 5, 2) := by decide +kernel
theorem d_Mo_solve_79 : decode prog_12_method_7_code 79 = .ok (.iload 7, 2) := by decide +kernel
theorem d_Mo_solve_81 : decode prog_12_method_7_code 81 = .ok (.ixor, 1) := by decide +kernel
theorem d_Mo_solve_82 : decode prog_12_method_7_code 82 = .ok (.invokevirtual 104, 3) := by decide +kernel
theorem d_Mo_solve_85 : decode prog_12_method_7_code 85 = .ok (.istore 8, 2) := by decide +kernel
theorem d_Mo_solve_87 : decode prog_12_method_7_code 87 = .ok (.aload_n 0, 1) := by decide +kernel
theorem d_Mo_solve_88 : decode prog_12_method_7_code 88 = .ok (.iload 4, 2) := by decide +kernel
theorem d_Mo_solve_90 : decode prog_12_method_7_code 90 = .ok (.ifCond .ne 7, 3) := by decide +kernel
theorem d_Mo_solve_93 : decode prog_12_method_7_code 93 = .ok (.iload_n 1, 1) := by decide +kernel
theorem d_Mo_solve_94 : decode prog_12_method_7_code 94 = .ok (.goto 14, 3) := by decide +kernel
theorem d_Mo_solve_97 : decode prog_12_method_7_code 97 = .ok (.iload 4, 2) := by decide +kernel
theorem d_Mo_solve_99 : decode prog_12_method_7_code 99 = .ok (.iconst 1, 1) := by decide +kernel
theorem d_Mo_solve_100 : decode prog_12_method_7_code 100 = .ok (.if_icmp .ne 7, 3) := by decide +kernel
theorem d_Mo_solve_103 : decode prog_12_method_7_code 103 = .ok (.iload_n 2, 1) := by decide +kernel
theorem d_Mo_solve_104 : decode prog_12_method_7_code 104 = .ok (.goto 4, 3) := by decide +kernel
theorem d_Mo_solve_107 : decode prog_12_method_7_code 107 = .ok (.iload_n 3, 1) := by decide +kernel
theorem d_Mo_solve_108 : decode prog_12_method_7_code 108 = .ok (.aload_n 0, 1) := by decide +kernel
theorem d_Mo_solve_109 : decode prog_12_method_7_code 109 = .ok (.iload 8, 2) := by decide +kernel
theorem d_Mo_solve_111 : decode prog_12_method_7_code 111 = .ok (.invokevirtual 107, 3) := by decide +kernel
theorem d_Mo_solve_114 : decode prog_12_method_7_code 114 = .ok (.invokevirtual 104, 3) := by decide +kernel
theorem d_Mo_solve_117 : decode prog_12_method_7_code 117 = .ok (.istore 9, 2) := by decide +kernel
theorem d_Mo_solve_119 : decode prog_12_method_7_code 119 = .ok (.aload_n 0, 1) := by decide +kernel
theorem d_Mo_solve_120 : decode prog_12_method_7_code 120 = .ok (.getfield 81, 3) := by decide +kernel
theorem d_Mo_solve_123 : decode prog_12_method_7_code 123 = .ok (.iconst 0, 1) := by decide +kernel
theorem d_Mo_solve_124 : decode prog_12_method_7_code 124 = .ok (.aload_n 0, 1) := by decide +kernel
theorem d_Mo_solve_125 : decode prog_12_method_7_code 125 = .ok (.getfield 81, 3) := by decide +kernel
theorem d_Mo_solve_128 : decode prog_12_method_7_code 128 = .ok (.iconst 0, 1) := by decide +kernel
theorem d_Mo_solve_129 : decode prog_12_method_7_code 129 = .ok (.iaload, 1) := by decide +kernel
theorem d_Mo_solve_130 : decode prog_12_method_7_code 130 = .ok (.aload_n 0, 1) := by decide +kernel
theorem d_Mo_solve_131 : decode prog_12_method_7_code 131 = .ok (.iload 9, 2) := by decide +kernel
theorem d_Mo_solve_133 : decode prog_12_method_7_code 133 = .ok (.aload_n 0, 1) := by decide +kernel
theorem d_Mo_solve_134 : decode prog_12_method_7_code 134 = .ok (.iload 6, 2) := by decide +kernel
theorem d_Mo_solve_136 : decode prog_12_method_7_code 136 = .ok (.iload 7, 2) := by decide +kernel
theorem d_Mo_solve_138 : decode prog_12_method_7_code 138 = .ok (.invokevirtual 104, 3) := by decide +kernel
theorem d_Mo_solve_141 : decode prog_12_method_7_code 141 = .ok (.invokevirtual 104, 3) := by decide +kernel
theorem d_Mo_solve_144 : decode prog_12_method_7_code 144 = .ok (.ixor, 1) := by decide +kernel
theorem d_Mo_solve_145 : decode prog_12_method_7_code 145 = .ok (.iastore, 1) := by decide +kernel
theorem d_Mo_solve_146 : decode prog_12_method_7_code 146 = .ok (.aload_n 0, 1) := by decide +kernel
theorem d_Mo_solve_147 : decode prog_12_method_7_code 147 = .ok (.getfield 81, 3) := by decide +kernel
theorem d_Mo_solve_150 : decode prog_12_method_7_code 150 = .ok (.iconst 1, 1) := by decide +kernel
theorem d_Mo_solve_151 : decode prog_12_method_7_code 151 = .ok (.aload_n 0, 1) := by decide +kernel
theorem d_Mo_solve_152 : decode prog_12_method_7_code 152 = .ok (.getfield 81, 3) := by decide +kernel
theorem d_Mo_solve_155 : decode prog_12_method_7_code 155 = .ok (.iconst 1, 1) := by decide +kernel
theorem d_Mo_solve_156 : decode prog_12_method_7_code 156 = .ok (.iaload, 1) := by decide +kernel
theorem d_Mo_solve_157 : decode prog_12_method_7_code 157 = .ok (.aload_n 0, 1) := by decide +kernel
theorem d_Mo_solve_158 : decode prog_12_method_7_code 158 = .ok (.iload 9, 2) := by decide +kernel
theorem d_Mo_solve_160 : decode prog_12_method_7_code 160 = .ok (.iload 6, 2) := by decide +kernel
theorem d_Mo_solve_162 : decode prog_12_method_7_code 162 = .ok (.iload 7, 2) := by decide +kernel
theorem d_Mo_solve_164 : decode prog_12_method_7_code 164 = .ok (.ixor, 1) := by decide +kernel
theorem d_Mo_solve_165 : decode prog_12_method_7_code 165 = .ok (.invokevirtual 104, 3) := by decide +kernel
theorem d_Mo_solve_168 : decode prog_12_method_7_code 168 = .ok (.ixor, 1) := by decide +kernel
theorem d_Mo_solve_169 : decode prog_12_method_7_code 169 = .ok (.iastore, 1) := by decide +kernel
theorem d_Mo_solve_170 : decode prog_12_method_7_code 170 = .ok (.aload_n 0, 1) := by decide +kernel
theorem d_Mo_solve_171 : decode prog_12_method_7_code 171 = .ok (.getfield 81, 3) := by decide +kernel
theorem d_Mo_solve_174 : decode prog_12_method_7_code 174 = .ok (.iconst 2, 1) := by decide +kernel
theorem d_Mo_solve_175 : decode prog_12_method_7_code 175 = .ok (.aload_n 0, 1) := by decide +kernel
theorem d_Mo_solve_176 : decode prog_12_method_7_code 176 = .ok (.getfield 81, 3) := by decide +kernel
theorem d_Mo_solve_179 : decode prog_12_method_7_code 179 = .ok (.iconst 2, 1) := by decide +kernel
theorem d_Mo_solve_180 : decode prog_12_method_7_code 180 = .ok (.iaload, 1) := by decide +kernel
theorem d_Mo_solve_181 : decode prog_12_method_7_code 181 = .ok (.iload 9, 2) := by decide +kernel
theorem d_Mo_solve_183 : decode prog_12_method_7_code 183 = .ok (.ixor, 1) := by decide +kernel
theorem d_Mo_solve_184 : decode prog_12_method_7_code 184 = .ok (.iastore, 1) := by decide +kernel
theorem d_Mo_solve_185 : decode prog_12_method_7_code 185 = .ok (.iinc 4 1, 3) := by decide +kernel
theorem d_Mo_solve_188 : decode prog_12_method_7_code 188 = .ok (.goto (-164), 3) := by decide +kernel
theorem d_Mo_solve_191 : decode prog_12_method_7_code 191 = .ok (.return_, 1) := by decide +kernel
theorem d_Mo_inverse_0 : decode prog_12_method_6_code 0 = .ok (.iconst 1, 1) := by decide +kernel
theorem d_Mo_inverse_1 : decode prog_12_method_6_code 1 = .ok (.istore_n 2, 1) := by decide +kernel
theorem d_Mo_inverse_2 : decode prog_12_method_6_code 2 = .ok (.aload_n 0, 1) := by decide +kernel
theorem d_Mo_inverse_3 : decode prog_12_method_6_code 3 = .ok (.iload_n 1, 1) := by decide +kernel
theorem d_Mo_inverse_4 : decode prog_12_method_6_code 4 = .ok (.iload_n 2, 1) := by decide +kernel
theorem d_Mo_inverse_5 : decode prog_12_method_6_code 5 = .ok (.invokevirtual 104, 3) := by decide +kernel
theorem d_Mo_inverse_8 : decode prog_12_method_6_code 8 = .ok (.iconst 1, 1) := by decide +kernel
theorem d_Mo_inverse_9 : decode prog_12_method_6_code 9 = .ok (.if_icmp .eq 9, 3) := by decide +kernel
theorem d_Mo_inverse_12 : decode prog_12_method_6_code 12 = .ok (.iinc 2 1, 3) := by decide +kernel
theorem d_Mo_inverse_15 : decode prog_12_method_6_code 15 = .ok (.goto (-13), 3) := by decide +kernel
theorem d_Mo_inverse_18 : decode prog_12_method_6_code 18 = .ok (.iload_n 2, 1) := by decide +kernel
theorem d_Mo_inverse_19 : decode prog_12_method_6_code 19 = .ok (.ireturn, 1) := by decide +kernel
theorem d_Mo_acceptedComes_0 : decode prog_12_method_20_code 0 = .ok (.bipush 8, 2) := by decide +kernel
theorem d_Mo_acceptedComes_2 : decode prog_12_method_20_code 2 = .ok (.iload_n 2, 1) := by decide +kernel
theorem d_Mo_acceptedComes_3 : decode prog_12_method_20_code 3 = .ok (.imul, 1) := by decide +kernel
theorem d_Mo_acceptedComes_4 : decode prog_12_method_20_code 4 = .ok (.aload_n 0, 1) := by decide +kernel
theorem d_Mo_acceptedComes_5 : decode prog_12_method_20_code 5 = .ok (.getfield 90, 3) := by decide +kernel
theorem d_Mo_acceptedComes_8 : decode prog_12_method_20_code 8 = .ok (.iconst 4, 1) := by decide +kernel
theorem d_Mo_acceptedComes_9 : decode prog_12_method_20_code 9 = .ok (.iaload, 1) := by decide +kernel
theorem d_Mo_acceptedComes_10 : decode prog_12_method_20_code 10 = .ok (.bipush 7, 2) := by decide +kernel
theorem d_Mo_acceptedComes_12 : decode prog_12_method_20_code 12 = .ok (.iand, 1) := by decide +kernel
theorem d_Mo_acceptedComes_13 : decode prog_12_method_20_code 13 = .ok (.iadd, 1) := by decide +kernel
theorem d_Mo_acceptedComes_14 : decode prog_12_method_20_code 14 = .ok (.istore_n 3, 1) := by decide +kernel
theorem d_Mo_acceptedComes_15 : decode prog_12_method_20_code 15 = .ok (.aload_n 0, 1) := by decide +kernel
theorem d_Mo_acceptedComes_16 : decode prog_12_method_20_code 16 = .ok (.getfield 36, 3) := by decide +kernel
theorem d_Mo_acceptedComes_19 : decode prog_12_method_20_code 19 = .ok (.iload_n 2, 1) := by decide +kernel
theorem d_Mo_acceptedComes_20 : decode prog_12_method_20_code 20 = .ok (.iaload, 1) := by decide +kernel
theorem d_Mo_acceptedComes_21 : decode prog_12_method_20_code 21 = .ok (.iconst 2, 1) := by decide +kernel
theorem d_Mo_acceptedComes_22 : decode prog_12_method_20_code 22 = .ok (.if_icmp .ne 42, 3) := by decide +kernel
theorem d_Mo_acceptedComes_25 : decode prog_12_method_20_code 25 = .ok (.aload_n 0, 1) := by decide +kernel
theorem d_Mo_acceptedComes_26 : decode prog_12_method_20_code 26 = .ok (.getfield 90, 3) := by decide +kernel
theorem d_Mo_acceptedComes_29 : decode prog_12_method_20_code 29 = .ok (.iconst 3, 1) := by decide +kernel
theorem d_Mo_acceptedComes_30 : decode prog_12_method_20_code 30 = .ok (.iaload, 1) := by decide +kernel
theorem d_Mo_acceptedComes_31 : decode prog_12_method_20_code 31 = .ok (.aload_n 0, 1) := by decide +kernel
theorem d_Mo_acceptedComes_32 : decode prog_12_method_20_code 32 = .ok (.getfield 39, 3) := by decide +kernel
theorem d_Mo_acceptedComes_35 : decode prog_12_method_20_code 35 = .ok (.iload_n 2, 1) := by decide +kernel
theorem d_Mo_acceptedComes_36 : decode prog_12_method_20_code 36 = .ok (.iaload, 1) := by decide +kernel
theorem d_Mo_acceptedComes_37 : decode prog_12_method_20_code 37 = .ok (.if_icmp .ne 27, 3) := by decide +kernel
theorem d_Mo_acceptedComes_40 : decode prog_12_method_20_code 40 = .ok (.aload_n 0, 1) := by decide +kernel
theorem d_Mo_acceptedComes_41 : decode prog_12_method_20_code 41 = .ok (.getfield 57, 3) := by decide +kernel
theorem d_Mo_acceptedComes_44 : decode prog_12_method_20_code 44 = .ok (.iload_n 3, 1) := by decide +kernel
theorem d_Mo_acceptedComes_45 : decode prog_12_method_20_code 45 = .ok (.iaload, 1) := by decide +kernel
theorem d_Mo_acceptedComes_46 : decode prog_12_method_20_code 46 = .ok (.ifCond .eq 18, 3) := by decide +kernel
theorem d_Mo_acceptedComes_49 : decode prog_12_method_20_code 49 = .ok (.aload_n 0, 1) := by decide +kernel
theorem d_Mo_acceptedComes_50 : decode prog_12_method_20_code 50 = .ok (.getfield 57, 3) := by decide +kernel
theorem d_Mo_acceptedComes_53 : decode prog_12_method_20_code 53 = .ok (.iload_n 3, 1) := by decide +kernel
theorem d_Mo_acceptedComes_54 : decode prog_12_method_20_code 54 = .ok (.iaload, 1) := by decide +kernel
theorem d_Mo_acceptedComes_55 : decode prog_12_method_20_code 55 = .ok (.aload_n 0, 1) := by decide +kernel
theorem d_Mo_acceptedComes_56 : decode prog_12_method_20_code 56 = .ok (.getfield 90, 3) := by decide +kernel
theorem d_Mo_acceptedComes_59 : decode prog_12_method_20_code 59 = .ok (.iconst 5, 1) := by decide +kernel
theorem d_Mo_acceptedComes_60 : decode prog_12_method_20_code 60 = .ok (.iaload, 1) := by decide +kernel
theorem d_Mo_acceptedComes_61 : decode prog_12_method_20_code 61 = .ok (.if_icmp .eq 4, 3) := by decide +kernel
theorem d_Mo_acceptedComes_64 : decode prog_12_method_20_code 64 = .ok (.return_, 1) := by decide +kernel
theorem d_Mo_acceptedComes_65 : decode prog_12_method_20_code 65 = .ok (.aload_n 0, 1) := by decide +kernel
theorem d_Mo_acceptedComes_66 : decode prog_12_method_20_code 66 = .ok (.getfield 63, 3) := by decide +kernel
theorem d_Mo_acceptedComes_69 : decode prog_12_method_20_code 69 = .ok (.iload_n 3, 1) := by decide +kernel
theorem d_Mo_acceptedComes_70 : decode prog_12_method_20_code 70 = .ok (.aload_n 0, 1) := by decide +kernel
theorem d_Mo_acceptedComes_71 : decode prog_12_method_20_code 71 = .ok (.getfield 63, 3) := by decide +kernel
theorem d_Mo_acceptedComes_74 : decode prog_12_method_20_code 74 = .ok (.iload_n 3, 1) := by decide +kernel
theorem d_Mo_acceptedComes_75 : decode prog_12_method_20_code 75 = .ok (.iaload, 1) := by decide +kernel
theorem d_Mo_acceptedComes_76 : decode prog_12_method_20_code 76 = .ok (.iconst 1, 1) := by decide +kernel
theorem d_Mo_acceptedComes_77 : decode prog_12_method_20_code 77 = .ok (.iload_n 1, 1) := by decide +kernel
theorem d_Mo_acceptedComes_78 : decode prog_12_method_20_code 78 = .ok (.ishl, 1) := by decide +kernel
theorem d_Mo_acceptedComes_79 : decode prog_12_method_20_code 79 = .ok (.ior, 1) := by decide +kernel
theorem d_Mo_acceptedComes_80 : decode prog_12_method_20_code 80 = .ok (.iastore, 1) := by decide +kernel
theorem d_Mo_acceptedComes_81 : decode prog_12_method_20_code 81 = .ok (.aload_n 0, 1) := by decide +kernel
theorem d_Mo_acceptedComes_82 : decode prog_12_method_20_code 82 = .ok (.getfield 63, 3) := by decide +kernel
theorem d_Mo_acceptedComes_85 : decode prog_12_method_20_code 85 = .ok (.iload_n 3, 1) := by decide +kernel
theorem d_Mo_acceptedComes_86 : decode prog_12_method_20_code 86 = .ok (.iaload, 1) := by decide +kernel
theorem d_Mo_acceptedComes_87 : decode prog_12_method_20_code 87 = .ok (.invokestatic 133, 3) := by decide +kernel
theorem d_Mo_acceptedComes_90 : decode prog_12_method_20_code 90 = .ok (.iconst 5, 1) := by decide +kernel
theorem d_Mo_acceptedComes_91 : decode prog_12_method_20_code 91 = .ok (.if_icmp .ge 4, 3) := by decide +kernel
theorem d_Mo_acceptedComes_94 : decode prog_12_method_20_code 94 = .ok (.return_, 1) := by decide +kernel
theorem d_Mo_acceptedComes_95 : decode prog_12_method_20_code 95 = .ok (.aload_n 0, 1) := by decide +kernel
theorem d_Mo_acceptedComes_96 : decode prog_12_method_20_code 96 = .ok (.getfield 54, 3) := by decide +kernel
theorem d_Mo_acceptedComes_99 : decode prog_12_method_20_code 99 = .ok (.iload_n 3, 1) := by decide +kernel
theorem d_Mo_acceptedComes_100 : decode prog_12_method_20_code 100 = .ok (.aload_n 0, 1) := by decide +kernel
theorem d_Mo_acceptedComes_101 : decode prog_12_method_20_code 101 = .ok (.getfield 57, 3) := by decide +kernel
theorem d_Mo_acceptedComes_104 : decode prog_12_method_20_code 104 = .ok (.iload_n 3, 1) := by decide +kernel
theorem d_Mo_acceptedComes_105 : decode prog_12_method_20_code 105 = .ok (.iaload, 1) := by decide +kernel
theorem d_Mo_acceptedComes_106 : decode prog_12_method_20_code 106 = .ok (.iastore, 1) := by decide +kernel
theorem d_Mo_acceptedComes_107 : decode prog_12_method_20_code 107 = .ok (.aload_n 0, 1) := by decide +kernel
theorem d_Mo_acceptedComes_108 : decode prog_12_method_20_code 108 = .ok (.getfield 57, 3) := by decide +kernel
theorem d_Mo_acceptedComes_111 : decode prog_12_method_20_code 111 = .ok (.iload_n 3, 1) := by decide +kernel
theorem d_Mo_acceptedComes_112 : decode prog_12_method_20_code 112 = .ok (.iconst 0, 1) := by decide +kernel
theorem d_Mo_acceptedComes_113 : decode prog_12_method_20_code 113 = .ok (.iastore, 1) := by decide +kernel
theorem d_Mo_acceptedComes_114 : decode prog_12_method_20_code 114 = .ok (.return_, 1) := by decide +kernel
theorem d_Mo_drop_0 : decode prog_12_method_34_code 0 = .ok (.aload_n 0, 1) := by decide +kernel
theorem d_Mo_drop_1 : decode prog_12_method_34_code 1 = .ok (.aload_n 0, 1) := by decide +kernel
theorem d_Mo_drop_2 : decode prog_12_method_34_code 2 = .ok (.iload_n 1, 1) := by decide +kernel
theorem d_Mo_drop_3 : decode prog_12_method_34_code 3 = .ok (.invokevirtual 168, 3) := by decide +kernel
theorem d_Mo_drop_6 : decode prog_12_method_34_code 6 = .ok (.ifCond .eq 7, 3) := by decide +kernel
theorem d_Mo_drop_9 : decode prog_12_method_34_code 9 = .ok (.iconst 1, 1) := by decide +kernel
theorem d_Mo_drop_10 : decode prog_12_method_34_code 10 = .ok (.goto 4, 3) := by decide +kernel
theorem d_Mo_drop_13 : decode prog_12_method_34_code 13 = .ok (.iconst 0, 1) := by decide +kernel
theorem d_Mo_drop_14 : decode prog_12_method_34_code 14 = .ok (.putfield 7, 3) := by decide +kernel
theorem d_Mo_drop_17 : decode prog_12_method_34_code 17 = .ok (.aload_n 0, 1) := by decide +kernel
theorem d_Mo_drop_18 : decode prog_12_method_34_code 18 = .ok (.getfield 7, 3) := by decide +kernel
theorem d_Mo_drop_21 : decode prog_12_method_34_code 21 = .ok (.ifCond .ne 8, 3) := by decide +kernel
theorem d_Mo_drop_24 : decode prog_12_method_34_code 24 = .ok (.aload_n 0, 1) := by decide +kernel
theorem d_Mo_drop_25 : decode prog_12_method_34_code 25 = .ok (.iload_n 1, 1) := by decide +kernel
theorem d_Mo_drop_26 : decode prog_12_method_34_code 26 = .ok (.invokevirtual 171, 3) := by decide +kernel
theorem d_Mo_drop_29 : decode prog_12_method_34_code 29 = .ok (.return_, 1) := by decide +kernel
theorem d_Mo_twin_0 : decode prog_12_method_35_code 0 = .ok (.aload_n 0, 1) := by decide +kernel
theorem d_Mo_twin_1 : decode prog_12_method_35_code 1 = .ok (.aload_n 0, 1) := by decide +kernel
theorem d_Mo_twin_2 : decode prog_12_method_35_code 2 = .ok (.iload_n 1, 1) := by decide +kernel
theorem d_Mo_twin_3 : decode prog_12_method_35_code 3 = .ok (.invokevirtual 168, 3) := by decide +kernel
theorem d_Mo_twin_6 : decode prog_12_method_35_code 6 = .ok (.ifCond .eq 7, 3) := by decide +kernel
theorem d_Mo_twin_9 : decode prog_12_method_35_code 9 = .ok (.iconst 1, 1) := by decide +kernel
theorem d_Mo_twin_10 : decode prog_12_method_35_code 10 = .ok (.goto 17, 3) := by decide +kernel
theorem d_Mo_twin_13 : decode prog_12_method_35_code 13 = .ok (.aload_n 0, 1) := by decide +kernel
theorem d_Mo_twin_14 : decode prog_12_method_35_code 14 = .ok (.getfield 27, 3) := by decide +kernel
theorem d_Mo_twin_17 : decode prog_12_method_35_code 17 = .ok (.bipush 60, 2) := by decide +kernel
theorem d_Mo_twin_19 : decode prog_12_method_35_code 19 = .ok (.if_icmp .ne 7, 3) := by decide +kernel
theorem d_Mo_twin_22 : decode prog_12_method_35_code 22 = .ok (.iconst 2, 1) := by decide +kernel
theorem d_Mo_twin_23 : decode prog_12_method_35_code 23 = .ok (.goto 4, 3) := by decide +kernel
theorem d_Mo_twin_26 : decode prog_12_method_35_code 26 = .ok (.iconst 0, 1) := by decide +kernel
theorem d_Mo_twin_27 : decode prog_12_method_35_code 27 = .ok (.putfield 7, 3) := by decide +kernel
theorem d_Mo_twin_30 : decode prog_12_method_35_code 30 = .ok (.aload_n 0, 1) := by decide +kernel
theorem d_Mo_twin_31 : decode prog_12_method_35_code 31 = .ok (.getfield 7, 3) := by decide +kernel
theorem d_Mo_twin_34 : decode prog_12_method_35_code 34 = .ok (.ifCond .eq 4, 3) := by decide +kernel
theorem d_Mo_twin_37 : decode prog_12_method_35_code 37 = .ok (.return_, 1) := by decide +kernel
theorem d_Mo_twin_38 : decode prog_12_method_35_code 38 = .ok (.iconst 0, 1) := by decide +kernel
theorem d_Mo_twin_39 : decode prog_12_method_35_code 39 = .ok (.istore_n 2, 1) := by decide +kernel
theorem d_Mo_twin_40 : decode prog_12_method_35_code 40 = .ok (.iload_n 2, 1) := by decide +kernel
theorem d_Mo_twin_41 : decode prog_12_method_35_code 41 = .ok (.bipush 7, 2) := by decide +kernel
theorem d_Mo_twin_43 : decode prog_12_method_35_code 43 = .ok (.if_icmp .ge 34, 3) := by decide +kernel
theorem d_Mo_twin_46 : decode prog_12_method_35_code 46 = .ok (.aload_n 0, 1) := by decide +kernel
theorem d_Mo_twin_47 : decode prog_12_method_35_code 47 = .ok (.getfield 30, 3) := by decide +kernel
theorem d_Mo_twin_50 : decode prog_12_method_35_code 50 = .ok (.bipush 7, 2) := by decide +kernel
theorem d_Mo_twin_52 : decode prog_12_method_35_code 52 = .ok (.aload_n 0, 1) := by decide +kernel
theorem d_Mo_twin_53 : decode prog_12_method_35_code 53 = .ok (.getfield 27, 3) := by decide +kernel
theorem d_Mo_twin_56 : decode prog_12_method_35_code 56 = .ok (.imul, 1) := by decide +kernel
theorem d_Mo_twin_57 : decode prog_12_method_35_code 57 = .ok (.iload_n 2, 1) := by decide +kernel
theorem d_Mo_twin_58 : decode prog_12_method_35_code 58 = .ok (.iadd, 1) := by decide +kernel
theorem d_Mo_twin_59 : decode prog_12_method_35_code 59 = .ok (.aload_n 0, 1) := by decide +kernel
theorem d_Mo_twin_60 : decode prog_12_method_35_code 60 = .ok (.getfield 30, 3) := by decide +kernel
theorem d_Mo_twin_63 : decode prog_12_method_35_code 63 = .ok (.bipush 7, 2) := by decide +kernel
theorem d_Mo_twin_65 : decode prog_12_method_35_code 65 = .ok (.iload_n 1, 1) := by decide +kernel
theorem d_Mo_twin_66 : decode prog_12_method_35_code 66 = .ok (.imul, 1) := by decide +kernel
theorem d_Mo_twin_67 : decode prog_12_method_35_code 67 = .ok (.iload_n 2, 1) := by decide +kernel
theorem d_Mo_twin_68 : decode prog_12_method_35_code 68 = .ok (.iadd, 1) := by decide +kernel
theorem d_Mo_twin_69 : decode prog_12_method_35_code 69 = .ok (.iaload, 1) := by decide +kernel
theorem d_Mo_twin_70 : decode prog_12_method_35_code 70 = .ok (.iastore, 1) := by decide +kernel
theorem d_Mo_twin_71 : decode prog_12_method_35_code 71 = .ok (.iinc 2 1, 3) := by decide +kernel
theorem d_Mo_twin_74 : decode prog_12_method_35_code 74 = .ok (.goto (-34), 3) := by decide +kernel
theorem d_Mo_twin_77 : decode prog_12_method_35_code 77 = .ok (.iconst 0, 1) := by decide +kernel
theorem d_Mo_twin_78 : decode prog_12_method_35_code 78 = .ok (.istore_n 2, 1) := by decide +kernel
theorem d_Mo_twin_79 : decode prog_12_method_35_code 79 = .ok (.iload_n 2, 1) := by decide +kernel
theorem d_Mo_twin_80 : decode prog_12_method_35_code 80 = .ok (.bipush 88, 2) := by decide +kernel
theorem d_Mo_twin_82 : decode prog_12_method_35_code 82 = .ok (.if_icmp .ge 34, 3) := by decide +kernel
theorem d_Mo_twin_85 : decode prog_12_method_35_code 85 = .ok (.aload_n 0, 1) := by decide +kernel
theorem d_Mo_twin_86 : decode prog_12_method_35_code 86 = .ok (.getfield 33, 3) := by decide +kernel
theorem d_Mo_twin_89 : decode prog_12_method_35_code 89 = .ok (.bipush 88, 2) := by decide +kernel
theorem d_Mo_twin_91 : decode prog_12_method_35_code 91 = .ok (.aload_n 0, 1) := by decide +kernel
theorem d_Mo_twin_92 : decode prog_12_method_35_code 92 = .ok (.getfield 27, 3) := by decide +kernel
theorem d_Mo_twin_95 : decode prog_12_method_35_code 95 = .ok (.imul, 1) := by decide +kernel
theorem d_Mo_twin_96 : decode prog_12_method_35_code 96 = .ok (.iload_n 2, 1) := by decide +kernel
theorem d_Mo_twin_97 : decode prog_12_method_35_code 97 = .ok (.iadd, 1) := by decide +kernel
theorem d_Mo_twin_98 : decode prog_12_method_35_code 98 = .ok (.aload_n 0, 1) := by decide +kernel
theorem d_Mo_twin_99 : decode prog_12_method_35_code 99 = .ok (.getfield 33, 3) := by decide +kernel
theorem d_Mo_twin_102 : decode prog_12_method_35_code 102 = .ok (.bipush 88, 2) := by decide +kernel
theorem d_Mo_twin_104 : decode prog_12_method_35_code 104 = .ok (.iload_n 1, 1) := by decide +kernel
theorem d_Mo_twin_105 : decode prog_12_method_35_code 105 = .ok (.imul, 1) := by decide +kernel
theorem d_Mo_twin_106 : decode prog_12_method_35_code 106 = .ok (.iload_n 2, 1) := by decide +kernel
theorem d_Mo_twin_107 : decode prog_12_method_35_code 107 = .ok (.iadd, 1) := by decide +kernel
theorem d_Mo_twin_108 : decode prog_12_method_35_code 108 = .ok (.iaload, 1) := by decide +kernel
theorem d_Mo_twin_109 : decode prog_12_method_35_code 109 = .ok (.iastore, 1) := by decide +kernel
theorem d_Mo_twin_110 : decode prog_12_method_35_code 110 = .ok (.iinc 2 1, 3) := by decide +kernel
theorem d_Mo_twin_113 : decode prog_12_method_35_code 113 = .ok (.goto (-34), 3) := by decide +kernel
theorem d_Mo_twin_116 : decode prog_12_method_35_code 116 = .ok (.aload_n 0, 1) := by decide +kernel
theorem d_Mo_twin_117 : decode prog_12_method_35_code 117 = .ok (.dup, 1) := by decide +kernel
theorem d_Mo_twin_118 : decode prog_12_method_35_code 118 = .ok (.getfield 27, 3) := by decide +kernel
theorem d_Mo_twin_121 : decode prog_12_method_35_code 121 = .ok (.iconst 1, 1) := by decide +kernel
theorem d_Mo_twin_122 : decode prog_12_method_35_code 122 = .ok (.iadd, 1) := by decide +kernel
theorem d_Mo_twin_123 : decode prog_12_method_35_code 123 = .ok (.putfield 27, 3) := by decide +kernel
theorem d_Mo_twin_126 : decode prog_12_method_35_code 126 = .ok (.return_, 1) := by decide +kernel
theorem d_Mo_letters_0 : decode prog_12_method_36_code 0 = .ok (.aload_n 0, 1) := by decide +kernel
theorem d_Mo_letters_1 : decode prog_12_method_36_code 1 = .ok (.iconst 0, 1) := by decide +kernel
theorem d_Mo_letters_2 : decode prog_12_method_36_code 2 = .ok (.putfield 7, 3) := by decide +kernel
theorem d_Mo_letters_5 : decode prog_12_method_36_code 5 = .ok (.aload_n 0, 1) := by decide +kernel
theorem d_Mo_letters_6 : decode prog_12_method_36_code 6 = .ok (.getfield 27, 3) := by decide +kernel
theorem d_Mo_letters_9 : decode prog_12_method_36_code 9 = .ok (.ireturn, 1) := by decide +kernel
theorem d_Mo_letter_0 : decode prog_12_method_37_code 0 = .ok (.aload_n 0, 1) := by decide +kernel
theorem d_Mo_letter_1 : decode prog_12_method_37_code 1 = .ok (.aload_n 0, 1) := by decide +kernel
theorem d_Mo_letter_2 : decode prog_12_method_37_code 2 = .ok (.iload_n 1, 1) := by decide +kernel
theorem d_Mo_letter_3 : decode prog_12_method_37_code 3 = .ok (.invokevirtual 168, 3) := by decide +kernel
theorem d_Mo_letter_6 : decode prog_12_method_37_code 6 = .ok (.ifCond .eq 7, 3) := by decide +kernel
theorem d_Mo_letter_9 : decode prog_12_method_37_code 9 = .ok (.iconst 1, 1) := by decide +kernel
theorem d_Mo_letter_10 : decode prog_12_method_37_code 10 = .ok (.goto 17, 3) := by decide +kernel
theorem d_Mo_letter_13 : decode prog_12_method_37_code 13 = .ok (.iload_n 2, 1) := by decide +kernel
theorem d_Mo_letter_14 : decode prog_12_method_37_code 14 = .ok (.ifCond .lt 8, 3) := by decide +kernel
theorem d_Mo_letter_17 : decode prog_12_method_37_code 17 = .ok (.iload_n 2, 1) := by decide +kernel
theorem d_Mo_letter_18 : decode prog_12_method_37_code 18 = .ok (.iconst 5, 1) := by decide +kernel
theorem d_Mo_letter_19 : decode prog_12_method_37_code 19 = .ok (.if_icmp .le 7, 3) := by decide +kernel
theorem d_Mo_letter_22 : decode prog_12_method_37_code 22 = .ok (.iconst 2, 1) := by decide +kernel
theorem d_Mo_letter_23 : decode prog_12_method_37_code 23 = .ok (.goto 4, 3) := by decide +kernel
theorem d_Mo_letter_26 : decode prog_12_method_37_code 26 = .ok (.iconst 0, 1) := by decide +kernel
theorem d_Mo_letter_27 : decode prog_12_method_37_code 27 = .ok (.putfield 7, 3) := by decide +kernel
theorem d_Mo_letter_30 : decode prog_12_method_37_code 30 = .ok (.aload_n 0, 1) := by decide +kernel
theorem d_Mo_letter_31 : decode prog_12_method_37_code 31 = .ok (.getfield 7, 3) := by decide +kernel
theorem d_Mo_letter_34 : decode prog_12_method_37_code 34 = .ok (.ifCond .eq 7, 3) := by decide +kernel
theorem d_Mo_letter_37 : decode prog_12_method_37_code 37 = .ok (.iconst 0, 1) := by decide +kernel
theorem d_Mo_letter_38 : decode prog_12_method_37_code 38 = .ok (.goto 14, 3) := by decide +kernel
theorem d_Mo_letter_41 : decode prog_12_method_37_code 41 = .ok (.aload_n 0, 1) := by decide +kernel
theorem d_Mo_letter_42 : decode prog_12_method_37_code 42 = .ok (.getfield 30, 3) := by decide +kernel
theorem d_Mo_letter_45 : decode prog_12_method_37_code 45 = .ok (.bipush 7, 2) := by decide +kernel
theorem d_Mo_letter_47 : decode prog_12_method_37_code 47 = .ok (.iload_n 1, 1) := by decide +kernel
theorem d_Mo_letter_48 : decode prog_12_method_37_code 48 = .ok (.imul, 1) := by decide +kernel
theorem d_Mo_letter_49 : decode prog_12_method_37_code 49 = .ok (.iload_n 2, 1) := by decide +kernel
theorem d_Mo_letter_50 : decode prog_12_method_37_code 50 = .ok (.iadd, 1) := by decide +kernel
theorem d_Mo_letter_51 : decode prog_12_method_37_code 51 = .ok (.iaload, 1) := by decide +kernel
theorem d_Mo_letter_52 : decode prog_12_method_37_code 52 = .ok (.ireturn, 1) := by decide +kernel
theorem d_Mo_up_0 : decode prog_12_method_38_code 0 = .ok (.aload_n 0, 1) := by decide +kernel
theorem d_Mo_up_1 : decode prog_12_method_38_code 1 = .ok (.iload_n 1, 1) := by decide +kernel
theorem d_Mo_up_2 : decode prog_12_method_38_code 2 = .ok (.invokestatic 179, 3) := by decide +kernel
theorem d_Mo_up_5 : decode prog_12_method_38_code 5 = .ok (.ifCond .eq 7, 3) := by decide +kernel
theorem d_Mo_up_8 : decode prog_12_method_38_code 8 = .ok (.iconst 1, 1) := by decide +kernel
theorem d_Mo_up_9 : decode prog_12_method_38_code 9 = .ok (.goto 4, 3) := by decide +kernel
theorem d_Mo_up_12 : decode prog_12_method_38_code 12 = .ok (.iconst 0, 1) := by decide +kernel
theorem d_Mo_up_13 : decode prog_12_method_38_code 13 = .ok (.putfield 7, 3) := by decide +kernel
theorem d_Mo_up_16 : decode prog_12_method_38_code 16 = .ok (.aload_n 0, 1) := by decide +kernel
theorem d_Mo_up_17 : decode prog_12_method_38_code 17 = .ok (.getfield 7, 3) := by decide +kernel
theorem d_Mo_up_20 : decode prog_12_method_38_code 20 = .ok (.ifCond .eq 5, 3) := by decide +kernel
theorem d_Mo_up_23 : decode prog_12_method_38_code 23 = .ok (.iconst 0, 1) := by decide +kernel
theorem d_Mo_up_24 : decode prog_12_method_38_code 24 = .ok (.ireturn, 1) := by decide +kernel
theorem d_Mo_up_25 : decode prog_12_method_38_code 25 = .ok (.aload_n 0, 1) := by decide +kernel
theorem d_Mo_up_26 : decode prog_12_method_38_code 26 = .ok (.getfield 17, 3) := by decide +kernel
theorem d_Mo_up_29 : decode prog_12_method_38_code 29 = .ok (.iload_n 1, 1) := by decide +kernel
theorem d_Mo_up_30 : decode prog_12_method_38_code 30 = .ok (.baload, 1) := by decide +kernel
theorem d_Mo_up_31 : decode prog_12_method_38_code 31 = .ok (.iload_n 2, 1) := by decide +kernel
theorem d_Mo_up_32 : decode prog_12_method_38_code 32 = .ok (.if_icmp .ne 7, 3) := by decide +kernel
theorem d_Mo_up_35 : decode prog_12_method_38_code 35 = .ok (.iconst 1, 1) := by decide +kernel
theorem d_Mo_up_36 : decode prog_12_method_38_code 36 = .ok (.goto 4, 3) := by decide +kernel
theorem d_Mo_up_39 : decode prog_12_method_38_code 39 = .ok (.iconst 0, 1) := by decide +kernel
theorem d_Mo_up_40 : decode prog_12_method_38_code 40 = .ok (.istore_n 3, 1) := by decide +kernel
theorem d_Mo_up_41 : decode prog_12_method_38_code 41 = .ok (.aload_n 0, 1) := by decide +kernel
theorem d_Mo_up_42 : decode prog_12_method_38_code 42 = .ok (.getfield 17, 3) := by decide +kernel
theorem d_Mo_up_45 : decode prog_12_method_38_code 45 = .ok (.iload_n 1, 1) := by decide +kernel
theorem d_Mo_up_46 : decode prog_12_method_38_code 46 = .ok (.iload_n 2, 1) := by decide +kernel
theorem d_Mo_up_47 : decode prog_12_method_38_code 47 = .ok (.ifCond .ne 7, 3) := by decide +kernel
theorem d_Mo_up_50 : decode prog_12_method_38_code 50 = .ok (.iconst 1, 1) := by decide +kernel
theorem d_Mo_up_51 : decode prog_12_method_38_code 51 = .ok (.goto 4, 3) := by decide +kernel
theorem d_Mo_up_54 : decode prog_12_method_38_code 54 = .ok (.iconst 0, 1) := by decide +kernel
theorem d_Mo_up_55 : decode prog_12_method_38_code 55 = .ok (.bastore, 1) := by decide +kernel
theorem d_Mo_up_56 : decode prog_12_method_38_code 56 = .ok (.iload_n 3, 1) := by decide +kernel
theorem d_Mo_up_57 : decode prog_12_method_38_code 57 = .ok (.ireturn, 1) := by decide +kernel
theorem d_Mo_noStation_0 : decode prog_12_method_27_code 0 = .ok (.iload_n 0, 1) := by decide +kernel
theorem d_Mo_noStation_1 : decode prog_12_method_27_code 1 = .ok (.ifCond .lt 9, 3) := by decide +kernel
theorem d_Mo_noStation_4 : decode prog_12_method_27_code 4 = .ok (.iload_n 0, 1) := by decide +kernel
theorem d_Mo_noStation_5 : decode prog_12_method_27_code 5 = .ok (.bipush 6, 2) := by decide +kernel
theorem d_Mo_noStation_7 : decode prog_12_method_27_code 7 = .ok (.if_icmp .le 7, 3) := by decide +kernel
theorem d_Mo_noStation_10 : decode prog_12_method_27_code 10 = .ok (.iconst 1, 1) := by decide +kernel
theorem d_Mo_noStation_11 : decode prog_12_method_27_code 11 = .ok (.goto 4, 3) := by decide +kernel
theorem d_Mo_noStation_14 : decode prog_12_method_27_code 14 = .ok (.iconst 0, 1) := by decide +kernel
theorem d_Mo_noStation_15 : decode prog_12_method_27_code 15 = .ok (.ireturn, 1) := by decide +kernel
theorem d_Mo_wipe_0 : decode prog_12_method_39_code 0 = .ok (.aload_n 0, 1) := by decide +kernel
theorem d_Mo_wipe_1 : decode prog_12_method_39_code 1 = .ok (.iload_n 1, 1) := by decide +kernel
theorem d_Mo_wipe_2 : decode prog_12_method_39_code 2 = .ok (.invokestatic 179, 3) := by decide +kernel
theorem d_Mo_wipe_5 : decode prog_12_method_39_code 5 = .ok (.ifCond .eq 7, 3) := by decide +kernel
theorem d_Mo_wipe_8 : decode prog_12_method_39_code 8 = .ok (.iconst 1, 1) := by decide +kernel
theorem d_Mo_wipe_9 : decode prog_12_method_39_code 9 = .ok (.goto 4, 3) := by decide +kernel
theorem d_Mo_wipe_12 : decode prog_12_method_39_code 12 = .ok (.iconst 0, 1) := by decide +kernel
theorem d_Mo_wipe_13 : decode prog_12_method_39_code 13 = .ok (.putfield 7, 3) := by decide +kernel
theorem d_Mo_wipe_16 : decode prog_12_method_39_code 16 = .ok (.aload_n 0, 1) := by decide +kernel
theorem d_Mo_wipe_17 : decode prog_12_method_39_code 17 = .ok (.getfield 7, 3) := by decide +kernel
theorem d_Mo_wipe_20 : decode prog_12_method_39_code 20 = .ok (.ifCond .eq 4, 3) := by decide +kernel
theorem d_Mo_wipe_23 : decode prog_12_method_39_code 23 = .ok (.return_, 1) := by decide +kernel
theorem d_Mo_wipe_24 : decode prog_12_method_39_code 24 = .ok (.aload_n 0, 1) := by decide +kernel
theorem d_Mo_wipe_25 : decode prog_12_method_39_code 25 = .ok (.getfield 21, 3) := by decide +kernel
theorem d_Mo_wipe_28 : decode prog_12_method_39_code 28 = .ok (.iload_n 1, 1) := by decide +kernel
theorem d_Mo_wipe_29 : decode prog_12_method_39_code 29 = .ok (.iconst 1, 1) := by decide +kernel
theorem d_Mo_wipe_30 : decode prog_12_method_39_code 30 = .ok (.bastore, 1) := by decide +kernel
theorem d_Mo_wipe_31 : decode prog_12_method_39_code 31 = .ok (.aload_n 0, 1) := by decide +kernel
theorem d_Mo_wipe_32 : decode prog_12_method_39_code 32 = .ok (.getfield 13, 3) := by decide +kernel
theorem d_Mo_wipe_35 : decode prog_12_method_39_code 35 = .ok (.iload_n 1, 1) := by decide +kernel
theorem d_Mo_wipe_36 : decode prog_12_method_39_code 36 = .ok (.iconst 0, 1) := by decide +kernel
theorem d_Mo_wipe_37 : decode prog_12_method_39_code 37 = .ok (.iastore, 1) := by decide +kernel
theorem d_Mo_wipe_38 : decode prog_12_method_39_code 38 = .ok (.iconst 0, 1) := by decide +kernel
theorem d_Mo_wipe_39 : decode prog_12_method_39_code 39 = .ok (.istore_n 2, 1) := by decide +kernel
theorem d_Mo_wipe_40 : decode prog_12_method_39_code 40 = .ok (.iload_n 2, 1) := by decide +kernel
theorem d_Mo_wipe_41 : decode prog_12_method_39_code 41 = .ok (.bipush 88, 2) := by decide +kernel
theorem d_Mo_wipe_43 : decode prog_12_method_39_code 43 = .ok (.if_icmp .ge 21, 3) := by decide +kernel
theorem d_Mo_wipe_46 : decode prog_12_method_39_code 46 = .ok (.aload_n 0, 1) := by decide +kernel
theorem d_Mo_wipe_47 : decode prog_12_method_39_code 47 = .ok (.getfield 24, 3) := by decide +kernel
theorem d_Mo_wipe_50 : decode prog_12_method_39_code 50 = .ok (.bipush 88, 2) := by decide +kernel
theorem d_Mo_wipe_52 : decode prog_12_method_39_code 52 = .ok (.iload_n 1, 1) := by decide +kernel
theorem d_Mo_wipe_53 : decode prog_12_method_39_code 53 = .ok (.imul, 1) := by decide +kernel
theorem d_Mo_wipe_54 : decode prog_12_method_39_code 54 = .ok (.iload_n 2, 1) := by decide +kernel
theorem d_Mo_wipe_55 : decode prog_12_method_39_code 55 = .ok (.iadd, 1) := by decide +kernel
theorem d_Mo_wipe_56 : decode prog_12_method_39_code 56 = .ok (.iconst 0, 1) := by decide +kernel
theorem d_Mo_wipe_57 : decode prog_12_method_39_code 57 = .ok (.iastore, 1) := by decide +kernel
theorem d_Mo_wipe_58 : decode prog_12_method_39_code 58 = .ok (.iinc 2 1, 3) := by decide +kernel
theorem d_Mo_wipe_61 : decode prog_12_method_39_code 61 = .ok (.goto (-21), 3) := by decide +kernel
theorem d_Mo_wipe_64 : decode prog_12_method_39_code 64 = .ok (.return_, 1) := by decide +kernel
theorem d_Mo_catchUp_0 : decode prog_12_method_40_code 0 = .ok (.aload_n 0, 1) := by decide +kernel
theorem d_Mo_catchUp_1 : decode prog_12_method_40_code 1 = .ok (.iload_n 1, 1) := by decide +kernel
theorem d_Mo_catchUp_2 : decode prog_12_method_40_code 2 = .ok (.invokestatic 179, 3) := by decide +kernel
theorem d_Mo_catchUp_5 : decode prog_12_method_40_code 5 = .ok (.ifCond .ne 10, 3) := by decide +kernel
theorem d_Mo_catchUp_8 : decode prog_12_method_40_code 8 = .ok (.iload_n 2, 1) := by decide +kernel
theorem d_Mo_catchUp_9 : decode prog_12_method_40_code 9 = .ok (.invokestatic 158, 3) := by decide +kernel
theorem d_Mo_catchUp_12 : decode prog_12_method_40_code 12 = .ok (.ifCond .eq 7, 3) := by decide +kernel
theorem d_Mo_catchUp_15 : decode prog_12_method_40_code 15 = .ok (.iconst 1, 1) := by decide +kernel
theorem d_Mo_catchUp_16 : decode prog_12_method_40_code 16 = .ok (.goto 4, 3) := by decide +kernel
theorem d_Mo_catchUp_19 : decode prog_12_method_40_code 19 = .ok (.iconst 0, 1) := by decide +kernel
theorem d_Mo_catchUp_20 : decode prog_12_method_40_code 20 = .ok (.putfield 7, 3) := by decide +kernel
theorem d_Mo_catchUp_23 : decode prog_12_method_40_code 23 = .ok (.aload_n 0, 1) := by decide +kernel
theorem d_Mo_catchUp_24 : decode prog_12_method_40_code 24 = .ok (.getfield 7, 3) := by decide +kernel
theorem d_Mo_catchUp_27 : decode prog_12_method_40_code 27 = .ok (.ifCond .ne 26, 3) := by decide +kernel
theorem d_Mo_catchUp_30 : decode prog_12_method_40_code 30 = .ok (.aload_n 0, 1) := by decide +kernel
theorem d_Mo_catchUp_31 : decode prog_12_method_40_code 31 = .ok (.getfield 21, 3) := by decide +kernel
theorem d_Mo_catchUp_34 : decode prog_12_method_40_code 34 = .ok (.iload_n 1, 1) := by decide +kernel
theorem d_Mo_catchUp_35 : decode prog_12_method_40_code 35 = .ok (.baload, 1) := by decide +kernel
theorem d_Mo_catchUp_36 : decode prog_12_method_40_code 36 = .ok (.ifCond .eq 12, 3) := by decide +kernel
theorem d_Mo_catchUp_39 : decode prog_12_method_40_code 39 = .ok (.aload_n 0, 1) := by decide +kernel
theorem d_Mo_catchUp_40 : decode prog_12_method_40_code 40 = .ok (.getfield 17, 3) := by decide +kernel
theorem d_Mo_catchUp_43 : decode prog_12_method_40_code 43 = .ok (.iload_n 1, 1) := by decide +kernel
theorem d_Mo_catchUp_44 : decode prog_12_method_40_code 44 = .ok (.baload, 1) := by decide +kernel
theorem d_Mo_catchUp_45 : decode prog_12_method_40_code 45 = .ok (.ifCond .eq 8, 3) := by decide +kernel
theorem d_Mo_catchUp_48 : decode prog_12_method_40_code 48 = .ok (.aload_n 0, 1) := by decide +kernel
theorem d_Mo_catchUp_49 : decode prog_12_method_40_code 49 = .ok (.iconst 2, 1) := by decide +kernel
theorem d_Mo_catchUp_50 : decode prog_12_method_40_code 50 = .ok (.putfield 7, 3) := by decide +kernel
theorem d_Mo_catchUp_53 : decode prog_12_method_40_code 53 = .ok (.aload_n 0, 1) := by decide +kernel
theorem d_Mo_catchUp_54 : decode prog_12_method_40_code 54 = .ok (.getfield 7, 3) := by decide +kernel
theorem d_Mo_catchUp_57 : decode prog_12_method_40_code 57 = .ok (.ifCond .eq 5, 3) := by decide +kernel
theorem d_Mo_catchUp_60 : decode prog_12_method_40_code 60 = .ok (.iconst 0, 1) := by decide +kernel
theorem d_Mo_catchUp_61 : decode prog_12_method_40_code 61 = .ok (.ireturn, 1) := by decide +kernel
theorem d_Mo_catchUp_62 : decode prog_12_method_40_code 62 = .ok (.iconst 0, 1) := by decide +kernel
theorem d_Mo_catchUp_63 : decode prog_12_method_40_code 63 = .ok (.istore_n 3, 1) := by decide +kernel
theorem d_Mo_catchUp_64 : decode prog_12_method_40_code 64 = .ok (.iconst 0, 1) := by decide +kernel
theorem d_Mo_catchUp_65 : decode prog_12_method_40_code 65 = .ok (.istore 4, 2) := by decide +kernel
theorem d_Mo_catchUp_67 : decode prog_12_method_40_code 67 = .ok (.iload 4, 2) := by decide +kernel
theorem d_Mo_catchUp_69 : decode prog_12_method_40_code 69 = .ok (.bipush 8, 2) := by decide +kernel
theorem d_Mo_catchUp_71 : decode prog_12_method_40_code 71 = .ok (.if_icmp .ge 150, 3) := by decide +kernel
theorem d_Mo_catchUp_74 : decode prog_12_method_40_code 74 = .ok (.aload_n 0, 1) := by decide +kernel
theorem d_Mo_catchUp_75 : decode prog_12_method_40_code 75 = .ok (.getfield 54, 3) := by decide +kernel
theorem d_Mo_catchUp_78 : decode prog_12_method_40_code 78 = .ok (.bipush 8, 2) := by decide +kernel
theorem d_Mo_catchUp_80 : decode prog_12_method_40_code 80 = .ok (.iload_n 2, 1) := by decide +kernel
theorem d_Mo_catchUp_81 : decode prog_12_method_40_code 81 = .ok (.imul, 1) := by decide +kernel
theorem d_Mo_catchUp_82 : decode prog_12_method_40_code 82 = .ok (.iload 4, 2) := by decide +kernel
theorem d_Mo_catchUp_84 : decode prog_12_method_40_code 84 = .ok (.iadd, 1) := by decide +kernel
theorem d_Mo_catchUp_85 : decode prog_12_method_40_code 85 = .ok (.iaload, 1) := by decide +kernel
theorem d_Mo_catchUp_86 : decode prog_12_method_40_code 86 = .ok (.istore 5, 2) := by decide +kernel
theorem d_Mo_catchUp_88 : decode prog_12_method_40_code 88 = .ok (.bipush 88, 2) := by decide +kernel
theorem d_Mo_catchUp_90 : decode prog_12_method_40_code 90 = .ok (.iload_n 1, 1) := by decide +kernel
theorem d_Mo_catchUp_91 : decode prog_12_method_40_code 91 = .ok (.imul, 1) := by decide +kernel
theorem d_Mo_catchUp_92 : decode prog_12_method_40_code 92 = .ok (.bipush 11, 2) := by decide +kernel
theorem d_Mo_catchUp_94 : decode prog_12_method_40_code 94 = .ok (.iload 4, 2) := by decide +kernel
theorem d_Mo_catchUp_96 : decode prog_12_method_40_code 96 = .ok (.imul, 1) := by decide +kernel
theorem d_Mo_catchUp_97 : decode prog_12_method_40_code 97 = .ok (.iadd, 1) := by decide +kernel
theorem d_Mo_catchUp_98 : decode prog_12_method_40_code 98 = .ok (.istore 6, 2) := by decide +kernel
theorem d_Mo_catchUp_100 : decode prog_12_method_40_code 100 = .ok (.iload 5, 2) := by decide +kernel
theorem d_Mo_catchUp_102 : decode prog_12_method_40_code 102 = .ok (.ifCond .eq 113, 3) := by decide +kernel
theorem d_Mo_catchUp_105 : decode prog_12_method_40_code 105 = .ok (.aload_n 0, 1) := by decide +kernel
theorem d_Mo_catchUp_106 : decode prog_12_method_40_code 106 = .ok (.getfield 24, 3) := by decide +kernel
theorem d_Mo_catchUp_109 : decode prog_12_method_40_code 109 = .ok (.iload 6, 2) := by decide +kernel
theorem d_Mo_catchUp_111 : decode prog_12_method_40_code 111 = .ok (.iconst 2, 1) := by decide +kernel
theorem d_Mo_catchUp_112 : decode prog_12_method_40_code 112 = .ok (.iadd, 1) := by decide +kernel
theorem d_Mo_catchUp_113 : decode prog_12_method_40_code 113 = .ok (.iaload, 1) := by decide +kernel
theorem d_Mo_catchUp_114 : decode prog_12_method_40_code 114 = .ok (.ifCond .ne 101, 3) := by decide +kernel
theorem d_Mo_catchUp_117 : decode prog_12_method_40_code 117 = .ok (.aload_n 0, 1) := by decide +kernel
theorem d_Mo_catchUp_118 : decode prog_12_method_40_code 118 = .ok (.iload_n 1, 1) := by decide +kernel
theorem d_Mo_catchUp_119 : decode prog_12_method_40_code 119 = .ok (.iload 4, 2) := by decide +kernel
theorem d_Mo_catchUp_121 : decode prog_12_method_40_code 121 = .ok (.iload 5, 2) := by decide +kernel
theorem d_Mo_catchUp_123 : decode prog_12_method_40_code 123 = .ok (.invokevirtual 182, 3) := by decide +kernel
theorem d_Mo_catchUp_126 : decode prog_12_method_40_code 126 = .ok (.ifCond .eq 89, 3) := by decide +kernel
theorem d_Mo_catchUp_129 : decode prog_12_method_40_code 129 = .ok (.aload_n 0, 1) := by decide +kernel
theorem d_Mo_catchUp_130 : decode prog_12_method_40_code 130 = .ok (.iload 4, 2) := by decide +kernel
theorem d_Mo_catchUp_132 : decode prog_12_method_40_code 132 = .ok (.invokevirtual 185, 3) := by decide +kernel
theorem d_Mo_catchUp_135 : decode prog_12_method_40_code 135 = .ok (.istore 7, 2) := by decide +kernel
theorem d_Mo_catchUp_137 : decode prog_12_method_40_code 137 = .ok (.aload_n 0, 1) := by decide +kernel
theorem d_Mo_catchUp_138 : decode prog_12_method_40_code 138 = .ok (.getfield 24, 3) := by decide +kernel
theorem d_Mo_catchUp_141 : decode prog_12_method_40_code 141 = .ok (.iload 6, 2) := by decide +kernel
theorem d_Mo_catchUp_143 : decode prog_12_method_40_code 143 = .ok (.iconst 0, 1) := by decide +kernel
theorem d_Mo_catchUp_144 : decode prog_12_method_40_code 144 = .ok (.iastore, 1) := by decide +kernel
theorem d_Mo_catchUp_145 : decode prog_12_method_40_code 145 = .ok (.aload_n 0, 1) := by decide +kernel
theorem d_Mo_catchUp_146 : decode prog_12_method_40_code 146 = .ok (.getfield 24, 3) := by decide +kernel
theorem d_Mo_catchUp_149 : decode prog_12_method_40_code 149 = .ok (.iload 6, 2) := by decide +kernel
theorem d_Mo_catchUp_151 : decode prog_12_method_40_code 151 = .ok (.iconst 1, 1) := by decide +kernel
theorem d_Mo_catchUp_152 : decode prog_12_method_40_code 152 = .ok (.iadd, 1) := by decide +kernel
theorem d_Mo_catchUp_153 : decode prog_12_method_40_code 153 = .ok (.iload 5, 2) := by decide +kernel
theorem d_Mo_catchUp_155 : decode prog_12_method_40_code 155 = .ok (.iastore, 1) := by decide +kernel
theorem d_Mo_catchUp_156 : decode prog_12_method_40_code 156 = .ok (.aload_n 0, 1) := by decide +kernel
theorem d_Mo_catchUp_157 : decode prog_12_method_40_code 157 = .ok (.getfield 24, 3) := by decide +kernel
theorem d_Mo_catchUp_160 : decode prog_12_method_40_code 160 = .ok (.iload 6, 2) := by decide +kernel
theorem d_Mo_catchUp_162 : decode prog_12_method_40_code 162 = .ok (.iconst 2, 1) := by decide +kernel
theorem d_Mo_catchUp_163 : decode prog_12_method_40_code 163 = .ok (.iadd, 1) := by decide +kernel
theorem d_Mo_catchUp_164 : decode prog_12_method_40_code 164 = .ok (.iload 7, 2) := by decide +kernel
theorem d_Mo_catchUp_166 : decode prog_12_method_40_code 166 = .ok (.iastore, 1) := by decide +kernel
theorem d_Mo_catchUp_167 : decode prog_12_method_40_code 167 = .ok (.iconst 0, 1) := by decide +kernel
theorem d_Mo_catchUp_168 : decode prog_12_method_40_code 168 = .ok (.istore 8, 2) := by decide +kernel
theorem d_Mo_catchUp_170 : decode prog_12_method_40_code 170 = .ok (.iload 8, 2) := by decide +kernel
theorem d_Mo_catchUp_172 : decode prog_12_method_40_code 172 = .ok (.iload 7, 2) := by decide +kernel
theorem d_Mo_catchUp_174 : decode prog_12_method_40_code 174 = .ok (.invokestatic 100, 3) := by decide +kernel
theorem d_Mo_catchUp_177 : decode prog_12_method_40_code 177 = .ok (.if_icmp .ge 35, 3) := by decide +kernel
theorem d_Mo_catchUp_180 : decode prog_12_method_40_code 180 = .ok (.aload_n 0, 1) := by decide +kernel
theorem d_Mo_catchUp_181 : decode prog_12_method_40_code 181 = .ok (.getfield 24, 3) := by decide +kernel
theorem d_Mo_catchUp_184 : decode prog_12_method_40_code 184 = .ok (.iload 6, 2) := by decide +kernel
theorem d_Mo_catchUp_186 : decode prog_12_method_40_code 186 = .ok (.iconst 3, 1) := by decide +kernel
theorem d_Mo_catchUp_187 : decode prog_12_method_40_code 187 = .ok (.iadd, 1) := by decide +kernel
theorem d_Mo_catchUp_188 : decode prog_12_method_40_code 188 = .ok (.iload 8, 2) := by decide +kernel
theorem d_Mo_catchUp_190 : decode prog_12_method_40_code 190 = .ok (.iadd, 1) := by decide +kernel
theorem d_Mo_catchUp_191 : decode prog_12_method_40_code 191 = .ok (.aload_n 0, 1) := by decide +kernel
theorem d_Mo_catchUp_192 : decode prog_12_method_40_code 192 = .ok (.aload_n 0, 1) := by decide +kernel
theorem d_Mo_catchUp_193 : decode prog_12_method_40_code 193 = .ok (.getfield 78, 3) := by decide +kernel
theorem d_Mo_catchUp_196 : decode prog_12_method_40_code 196 = .ok (.iconst 0, 1) := by decide +kernel
theorem d_Mo_catchUp_197 : decode prog_12_method_40_code 197 = .ok (.iload 7, 2) := by decide +kernel
theorem d_Mo_catchUp_199 : decode prog_12_method_40_code 199 = .ok (.iload_n 1, 1) := by decide +kernel
theorem d_Mo_catchUp_200 : decode prog_12_method_40_code 200 = .ok (.iload 8, 2) := by decide +kernel
theorem d_Mo_catchUp_202 : decode prog_12_method_40_code 202 = .ok (.invokevirtual 118, 3) := by decide +kernel
theorem d_Mo_catchUp_205 : decode prog_12_method_40_code 205 = .ok (.iastore, 1) := by decide +kernel
theorem d_Mo_catchUp_206 : decode prog_12_method_40_code 206 = .ok (.iinc 8 1, 3) := by decide +kernel
theorem d_Mo_catchUp_209 : decode prog_12_method_40_code 209 = .ok (.goto (-39), 3) := by decide +kernel
theorem d_Mo_catchUp_212 : decode prog_12_method_40_code 212 = .ok (.iinc 3 1, 3) := by decide +kernel
theorem d_Mo_catchUp_215 : decode prog_12_method_40_code 215 = .ok (.iinc 4 1, 3) := by decide +kernel
theorem d_Mo_catchUp_218 : decode prog_12_method_40_code 218 = .ok (.goto (-151), 3) := by decide +kernel
theorem d_Mo_catchUp_221 : decode prog_12_method_40_code 221 = .ok (.iload_n 3, 1) := by decide +kernel
theorem d_Mo_catchUp_222 : decode prog_12_method_40_code 222 = .ok (.ireturn, 1) := by decide +kernel
theorem d_Mo_findThree_0 : decode prog_12_method_22_code 0 = .ok (.iconst 0, 1) := by decide +kernel
theorem d_Mo_findThree_1 : decode prog_12_method_22_code 1 = .ok (.istore 4, 2) := by decide +kernel
theorem d_Mo_findThree_3 : decode prog_12_method_22_code 3 = .ok (.iconst 0, 1) := by decide +kernel
theorem d_Mo_findThree_4 : decode prog_12_method_22_code 4 = .ok (.istore 5, 2) := by decide +kernel
theorem d_Mo_findThree_6 : decode prog_12_method_22_code 6 = .ok (.iload 5, 2) := by decide +kernel
theorem d_Mo_findThree_8 : decode prog_12_method_22_code 8 = .ok (.bipush 7, 2) := by decide +kernel
theorem d_Mo_findThree_10 : decode prog_12_method_22_code 10 = .ok (.if_icmp .ge 54, 3) := by decide +kernel
theorem d_Mo_findThree_13 : decode prog_12_method_22_code 13 = .ok (.iload 4, 2) := by decide +kernel
theorem d_Mo_findThree_15 : decode prog_12_method_22_code 15 = .ok (.iconst 3, 1) := by decide +kernel
theorem d_Mo_findThree_16 : decode prog_12_method_22_code 16 = .ok (.if_icmp .ge 48, 3) := by decide +kernel
theorem d_Mo_findThree_19 : decode prog_12_method_22_code 19 = .ok (.iload 5, 2) := by decide +kernel
theorem d_Mo_findThree_21 : decode prog_12_method_22_code 21 = .ok (.iload_n 1, 1) := by decide +kernel
theorem d_Mo_findThree_22 : decode prog_12_method_22_code 22 = .ok (.if_icmp .eq 36, 3) := by decide +kernel
theorem d_Mo_findThree_25 : decode prog_12_method_22_code 25 = .ok (.aload_n 0, 1) := by decide +kernel
theorem d_Mo_findThree_26 : decode prog_12_method_22_code 26 = .ok (.getfield 17, 3) := by decide +kernel
theorem d_Mo_findThree_29 : decode prog_12_method_22_code 29 = .ok (.iload 5, 2) := by decide +kernel
theorem d_Mo_findThree_31 : decode prog_12_method_22_code 31 = .ok (.baload, 1) := by decide +kernel
theorem d_Mo_findThree_32 : decode prog_12_method_22_code 32 = .ok (.ifCond .ne 26, 3) := by decide +kernel
theorem d_Mo_findThree_35 : decode prog_12_method_22_code 35 = .ok (.aload_n 0, 1) := by decide +kernel
theorem d_Mo_findThree_36 : decode prog_12_method_22_code 36 = .ok (.iload 5, 2) := by decide +kernel
theorem d_Mo_findThree_38 : decode prog_12_method_22_code 38 = .ok (.iload_n 2, 1) := by decide +kernel
theorem d_Mo_findThree_39 : decode prog_12_method_22_code 39 = .ok (.iload_n 3, 1) := by decide +kernel
theorem d_Mo_findThree_40 : decode prog_12_method_22_code 40 = .ok (.invokevirtual 154, 3) := by decide +kernel
theorem d_Mo_findThree_43 : decode prog_12_method_22_code 43 = .ok (.ifCond .eq 15, 3) := by decide +kernel
theorem d_Mo_findThree_46 : decode prog_12_method_22_code 46 = .ok (.aload_n 0, 1) := by decide +kernel
theorem d_Mo_findThree_47 : decode prog_12_method_22_code 47 = .ok (.getfield 75, 3) := by decide +kernel
theorem d_Mo_findThree_50 : decode prog_12_method_22_code 50 = .ok (.iload 4, 2) := by decide +kernel
theorem d_Mo_findThree_52 : decode prog_12_method_22_code 52 = .ok (.iload 5, 2) := by decide +kernel
theorem d_Mo_findThree_54 : decode prog_12_method_22_code 54 = .ok (.iastore, 1) := by decide +kernel
theorem d_Mo_findThree_55 : decode prog_12_method_22_code 55 = .ok (.iinc 4 1, 3) := by decide +kernel
theorem d_Mo_findThree_58 : decode prog_12_method_22_code 58 = .ok (.iinc 5 1, 3) := by decide +kernel
theorem d_Mo_findThree_61 : decode prog_12_method_22_code 61 = .ok (.goto (-55), 3) := by decide +kernel
theorem d_Mo_findThree_64 : decode prog_12_method_22_code 64 = .ok (.iload 4, 2) := by decide +kernel
theorem d_Mo_findThree_66 : decode prog_12_method_22_code 66 = .ok (.iconst 3, 1) := by decide +kernel
theorem d_Mo_findThree_67 : decode prog_12_method_22_code 67 = .ok (.if_icmp .ne 7, 3) := by decide +kernel
theorem d_Mo_findThree_70 : decode prog_12_method_22_code 70 = .ok (.iconst 1, 1) := by decide +kernel
theorem d_Mo_findThree_71 : decode prog_12_method_22_code 71 = .ok (.goto 4, 3) := by decide +kernel
theorem d_Mo_findThree_74 : decode prog_12_method_22_code 74 = .ok (.iconst 0, 1) := by decide +kernel
theorem d_Mo_findThree_75 : decode prog_12_method_22_code 75 = .ok (.ireturn, 1) := by decide +kernel
theorem d_Mo_hasOf_0 : decode prog_12_method_21_code 0 = .ok (.bipush 88, 2) := by decide +kernel
theorem d_Mo_hasOf_2 : decode prog_12_method_21_code 2 = .ok (.iload_n 1, 1) := by decide +kernel
theorem d_Mo_hasOf_3 : decode prog_12_method_21_code 3 = .ok (.imul, 1) := by decide +kernel
theorem d_Mo_hasOf_4 : decode prog_12_method_21_code 4 = .ok (.bipush 11, 2) := by decide +kernel
theorem d_Mo_hasOf_6 : decode prog_12_method_21_code 6 = .ok (.iload_n 2, 1) := by decide +kernel
theorem d_Mo_hasOf_7 : decode prog_12_method_21_code 7 = .ok (.imul, 1) := by decide +kernel
theorem d_Mo_hasOf_8 : decode prog_12_method_21_code 8 = .ok (.iadd, 1) := by decide +kernel
theorem d_Mo_hasOf_9 : decode prog_12_method_21_code 9 = .ok (.istore 4, 2) := by decide +kernel
theorem d_Mo_hasOf_11 : decode prog_12_method_21_code 11 = .ok (.aload_n 0, 1) := by decide +kernel
theorem d_Mo_hasOf_12 : decode prog_12_method_21_code 12 = .ok (.getfield 24, 3) := by decide +kernel
theorem d_Mo_hasOf_15 : decode prog_12_method_21_code 15 = .ok (.iload 4, 2) := by decide +kernel
theorem d_Mo_hasOf_17 : decode prog_12_method_21_code 17 = .ok (.iconst 2, 1) := by decide +kernel
theorem d_Mo_hasOf_18 : decode prog_12_method_21_code 18 = .ok (.iadd, 1) := by decide +kernel
theorem d_Mo_hasOf_19 : decode prog_12_method_21_code 19 = .ok (.iaload, 1) := by decide +kernel
theorem d_Mo_hasOf_20 : decode prog_12_method_21_code 20 = .ok (.ifCond .le 20, 3) := by decide +kernel
theorem d_Mo_hasOf_23 : decode prog_12_method_21_code 23 = .ok (.aload_n 0, 1) := by decide +kernel
theorem d_Mo_hasOf_24 : decode prog_12_method_21_code 24 = .ok (.getfield 24, 3) := by decide +kernel
theorem d_Mo_hasOf_27 : decode prog_12_method_21_code 27 = .ok (.iload 4, 2) := by decide +kernel
theorem d_Mo_hasOf_29 : decode prog_12_method_21_code 29 = .ok (.iconst 1, 1) := by decide +kernel
theorem d_Mo_hasOf_30 : decode prog_12_method_21_code 30 = .ok (.iadd, 1) := by decide +kernel
theorem d_Mo_hasOf_31 : decode prog_12_method_21_code 31 = .ok (.iaload, 1) := by decide +kernel
theorem d_Mo_hasOf_32 : decode prog_12_method_21_code 32 = .ok (.iload_n 3, 1) := by decide +kernel
theorem d_Mo_hasOf_33 : decode prog_12_method_21_code 33 = .ok (.if_icmp .ne 7, 3) := by decide +kernel
theorem d_Mo_hasOf_36 : decode prog_12_method_21_code 36 = .ok (.iconst 1, 1) := by decide +kernel
theorem d_Mo_hasOf_37 : decode prog_12_method_21_code 37 = .ok (.goto 4, 3) := by decide +kernel
theorem d_Mo_hasOf_40 : decode prog_12_method_21_code 40 = .ok (.iconst 0, 1) := by decide +kernel
theorem d_Mo_hasOf_41 : decode prog_12_method_21_code 41 = .ok (.ireturn, 1) := by decide +kernel
theorem d_Mo_fromThree_0 : decode prog_12_method_23_code 0 = .ok (.aload_n 0, 1) := by decide +kernel
theorem d_Mo_fromThree_1 : decode prog_12_method_23_code 1 = .ok (.aload_n 0, 1) := by decide +kernel
theorem d_Mo_fromThree_2 : decode prog_12_method_23_code 2 = .ok (.getfield 24, 3) := by decide +kernel
theorem d_Mo_fromThree_5 : decode prog_12_method_23_code 5 = .ok (.bipush 88, 2) := by decide +kernel
theorem d_Mo_fromThree_7 : decode prog_12_method_23_code 7 = .ok (.aload_n 0, 1) := by decide +kernel
theorem d_Mo_fromThree_8 : decode prog_12_method_23_code 8 = .ok (.getfield 75, 3) := by decide +kernel
theorem d_Mo_fromThree_11 : decode prog_12_method_23_code 11 = .ok (.iconst 0, 1) := by decide +kernel
theorem d_Mo_fromThree_12 : decode prog_12_method_23_code 12 = .ok (.iaload, 1) := by decide +kernel
theorem d_Mo_fromThree_13 : decode prog_12_method_23_code 13 = .ok (.imul, 1) := by decide +kernel
theorem d_Mo_fromThree_14 : decode prog_12_method_23_code 14 = .ok (.bipush 11, 2) := by decide +kernel
theorem d_Mo_fromThree_16 : decode prog_12_method_23_code 16 = .ok (.iload_n 1, 1) := by decide +kernel
theorem d_Mo_fromThree_17 : decode prog_12_method_23_code 17 = .ok (.imul, 1) := by decide +kernel
theorem d_Mo_fromThree_18 : decode prog_12_method_23_code 18 = .ok (.iadd, 1) := by decide +kernel
theorem d_Mo_fromThree_19 : decode prog_12_method_23_code 19 = .ok (.bipush 88, 2) := by decide +kernel
theorem d_Mo_fromThree_21 : decode prog_12_method_23_code 21 = .ok (.aload_n 0, 1) := by decide +kernel
theorem d_Mo_fromThree_22 : decode prog_12_method_23_code 22 = .ok (.getfield 75, 3) := by decide +kernel
theorem d_Mo_fromThree_25 : decode prog_12_method_23_code 25 = .ok (.iconst 1, 1) := by decide +kernel
theorem d_Mo_fromThree_26 : decode prog_12_method_23_code 26 = .ok (.iaload, 1) := by decide +kernel
theorem d_Mo_fromThree_27 : decode prog_12_method_23_code 27 = .ok (.imul, 1) := by decide +kernel
theorem d_Mo_fromThree_28 : decode prog_12_method_23_code 28 = .ok (.bipush 11, 2) := by decide +kernel
theorem d_Mo_fromThree_30 : decode prog_12_method_23_code 30 = .ok (.iload_n 1, 1) := by decide +kernel
theorem d_Mo_fromThree_31 : decode prog_12_method_23_code 31 = .ok (.imul, 1) := by decide +kernel
theorem d_Mo_fromThree_32 : decode prog_12_method_23_code 32 = .ok (.iadd, 1) := by decide +kernel
theorem d_Mo_fromThree_33 : decode prog_12_method_23_code 33 = .ok (.bipush 88, 2) := by decide +kernel
theorem d_Mo_fromThree_35 : decode prog_12_method_23_code 35 = .ok (.aload_n 0, 1) := by decide +kernel
theorem d_Mo_fromThree_36 : decode prog_12_method_23_code 36 = .ok (.getfield 75, 3) := by decide +kernel
theorem d_Mo_fromThree_39 : decode prog_12_method_23_code 39 = .ok (.iconst 2, 1) := by decide +kernel
theorem d_Mo_fromThree_40 : decode prog_12_method_23_code 40 = .ok (.iaload, 1) := by decide +kernel
theorem d_Mo_fromThree_41 : decode prog_12_method_23_code 41 = .ok (.imul, 1) := by decide +kernel
theorem d_Mo_fromThree_42 : decode prog_12_method_23_code 42 = .ok (.bipush 11, 2) := by decide +kernel
theorem d_Mo_fromThree_44 : decode prog_12_method_23_code 44 = .ok (.iload_n 1, 1) := by decide +kernel
theorem d_Mo_fromThree_45 : decode prog_12_method_23_code 45 = .ok (.imul, 1) := by decide +kernel
theorem d_Mo_fromThree_46 : decode prog_12_method_23_code 46 = .ok (.iadd, 1) := by decide +kernel
theorem d_Mo_fromThree_47 : decode prog_12_method_23_code 47 = .ok (.invokevirtual 146, 3) := by decide +kernel
theorem d_Mo_fromThree_50 : decode prog_12_method_23_code 50 = .ok (.ireturn, 1) := by decide +kernel
theorem d_Mo_decided_0 : decode prog_12_method_41_code 0 = .ok (.aload_n 0, 1) := by decide +kernel
theorem d_Mo_decided_1 : decode prog_12_method_41_code 1 = .ok (.iload_n 1, 1) := by decide +kernel
theorem d_Mo_decided_2 : decode prog_12_method_41_code 2 = .ok (.invokestatic 158, 3) := by decide +kernel
theorem d_Mo_decided_5 : decode prog_12_method_41_code 5 = .ok (.ifCond .ne 13, 3) := by decide +kernel
theorem d_Mo_decided_8 : decode prog_12_method_41_code 8 = .ok (.iload_n 2, 1) := by decide +kernel
theorem d_Mo_decided_9 : decode prog_12_method_41_code 9 = .ok (.ifCond .lt 9, 3) := by decide +kernel
theorem d_Mo_decided_12 : decode prog_12_method_41_code 12 = .ok (.iload_n 2, 1) := by decide +kernel
theorem d_Mo_decided_13 : decode prog_12_method_41_code 13 = .ok (.bipush 7, 2) := by decide +kernel
theorem d_Mo_decided_15 : decode prog_12_method_41_code 15 = .ok (.if_icmp .le 7, 3) := by decide +kernel
theorem d_Mo_decided_18 : decode prog_12_method_41_code 18 = .ok (.iconst 1, 1) := by decide +kernel
theorem d_Mo_decided_19 : decode prog_12_method_41_code 19 = .ok (.goto 4, 3) := by decide +kernel
theorem d_Mo_decided_22 : decode prog_12_method_41_code 22 = .ok (.iconst 0, 1) := by decide +kernel
theorem d_Mo_decided_23 : decode prog_12_method_41_code 23 = .ok (.putfield 7, 3) := by decide +kernel
theorem d_Mo_decided_26 : decode prog_12_method_41_code 26 = .ok (.aload_n 0, 1) := by decide +kernel
theorem d_Mo_decided_27 : decode prog_12_method_41_code 27 = .ok (.getfield 7, 3) := by decide +kernel
theorem d_Mo_decided_30 : decode prog_12_method_41_code 30 = .ok (.ifCond .eq 7, 3) := by decide +kernel
theorem d_Mo_decided_33 : decode prog_12_method_41_code 33 = .ok (.iconst 0, 1) := by decide +kernel
theorem d_Mo_decided_34 : decode prog_12_method_41_code 34 = .ok (.goto 14, 3) := by decide +kernel
theorem d_Mo_decided_37 : decode prog_12_method_41_code 37 = .ok (.aload_n 0, 1) := by decide +kernel
theorem d_Mo_decided_38 : decode prog_12_method_41_code 38 = .ok (.getfield 54, 3) := by decide +kernel
theorem d_Mo_decided_41 : decode prog_12_method_41_code 41 = .ok (.bipush 8, 2) := by decide +kernel
theorem d_Mo_decided_43 : decode prog_12_method_41_code 43 = .ok (.iload_n 1, 1) := by decide +kernel
theorem d_Mo_decided_44 : decode prog_12_method_41_code 44 = .ok (.imul, 1) := by decide +kernel
theorem d_Mo_decided_45 : decode prog_12_method_41_code 45 = .ok (.iload_n 2, 1) := by decide +kernel
theorem d_Mo_decided_46 : decode prog_12_method_41_code 46 = .ok (.iadd, 1) := by decide +kernel
theorem d_Mo_decided_47 : decode prog_12_method_41_code 47 = .ok (.iaload, 1) := by decide +kernel
theorem d_Mo_decided_48 : decode prog_12_method_41_code 48 = .ok (.ireturn, 1) := by decide +kernel
theorem d_Mo_read_0 : decode prog_12_method_42_code 0 = .ok (.aload_n 0, 1) := by decide +kernel
theorem d_Mo_read_1 : decode prog_12_method_42_code 1 = .ok (.iload_n 1, 1) := by decide +kernel
theorem d_Mo_read_2 : decode prog_12_method_42_code 2 = .ok (.invokestatic 158, 3) := by decide +kernel
theorem d_Mo_read_5 : decode prog_12_method_42_code 5 = .ok (.ifCond .ne 13, 3) := by decide +kernel
theorem d_Mo_read_8 : decode prog_12_method_42_code 8 = .ok (.iload_n 2, 1) := by decide +kernel
theorem d_Mo_read_9 : decode prog_12_method_42_code 9 = .ok (.ifCond .lt 9, 3) := by decide +kernel
theorem d_Mo_read_12 : decode prog_12_method_42_code 12 = .ok (.iload_n 2, 1) := by decide +kernel
theorem d_Mo_read_13 : decode prog_12_method_42_code 13 = .ok (.bipush 7, 2) := by decide +kernel
theorem d_Mo_read_15 : decode prog_12_method_42_code 15 = .ok (.if_icmp .le 7, 3) := by decide +kernel
theorem d_Mo_read_18 : decode prog_12_method_42_code 18 = .ok (.iconst 1, 1) := by decide +kernel
theorem d_Mo_read_19 : decode prog_12_method_42_code 19 = .ok (.goto 4, 3) := by decide +kernel
theorem d_Mo_read_22 : decode prog_12_method_42_code 22 = .ok (.iconst 0, 1) := by decide +kernel
theorem d_Mo_read_23 : decode prog_12_method_42_code 23 = .ok (.putfield 7, 3) := by decide +kernel
theorem d_Mo_read_26 : decode prog_12_method_42_code 26 = .ok (.aload_n 0, 1) := by decide +kernel
theorem d_Mo_read_27 : decode prog_12_method_42_code 27 = .ok (.getfield 7, 3) := by decide +kernel
theorem d_Mo_read_30 : decode prog_12_method_42_code 30 = .ok (.ifCond .eq 5, 3) := by decide +kernel
theorem d_Mo_read_33 : decode prog_12_method_42_code 33 = .ok (.iconst 0, 1) := by decide +kernel
theorem d_Mo_read_34 : decode prog_12_method_42_code 34 = .ok (.ireturn, 1) := by decide +kernel
theorem d_Mo_read_35 : decode prog_12_method_42_code 35 = .ok (.aload_n 0, 1) := by decide +kernel
theorem d_Mo_read_36 : decode prog_12_method_42_code 36 = .ok (.getfield 54, 3) := by decide +kernel
theorem d_Mo_read_39 : decode prog_12_method_42_code 39 = .ok (.bipush 8, 2) := by decide +kernel
theorem d_Mo_read_41 : decode prog_12_method_42_code 41 = .ok (.iload_n 1, 1) := by decide +kernel
theorem d_Mo_read_42 : decode prog_12_method_42_code 42 = .ok (.imul, 1) := by decide +kernel
theorem d_Mo_read_43 : decode prog_12_method_42_code 43 = .ok (.iload_n 2, 1) := by decide +kernel
theorem d_Mo_read_44 : decode prog_12_method_42_code 44 = .ok (.iadd, 1) := by decide +kernel
theorem d_Mo_read_45 : decode prog_12_method_42_code 45 = .ok (.iaload, 1) := by decide +kernel
theorem d_Mo_read_46 : decode prog_12_method_42_code 46 = .ok (.istore_n 3, 1) := by decide +kernel
theorem d_Mo_read_47 : decode prog_12_method_42_code 47 = .ok (.aload_n 0, 1) := by decide +kernel
theorem d_Mo_read_48 : decode prog_12_method_42_code 48 = .ok (.iload_n 3, 1) := by decide +kernel
theorem d_Mo_read_49 : decode prog_12_method_42_code 49 = .ok (.ifCond .ne 7, 3) := by decide +kernel
theorem d_Mo_read_52 : decode prog_12_method_42_code 52 = .ok (.iconst 2, 1) := by decide +kernel
theorem d_Mo_read_53 : decode prog_12_method_42_code 53 = .ok (.goto 18, 3) := by decide +kernel
theorem d_Mo_read_56 : decode prog_12_method_42_code 56 = .ok (.aload_n 0, 1) := by decide +kernel
theorem d_Mo_read_57 : decode prog_12_method_42_code 57 = .ok (.iconst (-1), 1) := by decide +kernel
theorem d_Mo_read_58 : decode prog_12_method_42_code 58 = .ok (.iload_n 2, 1) := by decide +kernel
theorem d_Mo_read_59 : decode prog_12_method_42_code 59 = .ok (.iload_n 3, 1) := by decide +kernel
theorem d_Mo_read_60 : decode prog_12_method_42_code 60 = .ok (.invokevirtual 182, 3) := by decide +kernel
theorem d_Mo_read_63 : decode prog_12_method_42_code 63 = .ok (.ifCond .ne 7, 3) := by decide +kernel
theorem d_Mo_read_66 : decode prog_12_method_42_code 66 = .ok (.iconst 3, 1) := by decide +kernel
theorem d_Mo_read_67 : decode prog_12_method_42_code 67 = .ok (.goto 4, 3) := by decide +kernel
theorem d_Mo_read_70 : decode prog_12_method_42_code 70 = .ok (.iconst 0, 1) := by decide +kernel
theorem d_Mo_read_71 : decode prog_12_method_42_code 71 = .ok (.putfield 7, 3) := by decide +kernel
theorem d_Mo_read_74 : decode prog_12_method_42_code 74 = .ok (.aload_n 0, 1) := by decide +kernel
theorem d_Mo_read_75 : decode prog_12_method_42_code 75 = .ok (.getfield 7, 3) := by decide +kernel
theorem d_Mo_read_78 : decode prog_12_method_42_code 78 = .ok (.ifCond .eq 5, 3) := by decide +kernel
theorem d_Mo_read_81 : decode prog_12_method_42_code 81 = .ok (.iconst 0, 1) := by decide +kernel
theorem d_Mo_read_82 : decode prog_12_method_42_code 82 = .ok (.ireturn, 1) := by decide +kernel
theorem d_Mo_read_83 : decode prog_12_method_42_code 83 = .ok (.aload_n 0, 1) := by decide +kernel
theorem d_Mo_read_84 : decode prog_12_method_42_code 84 = .ok (.aload_n 0, 1) := by decide +kernel
theorem d_Mo_read_85 : decode prog_12_method_42_code 85 = .ok (.iload_n 2, 1) := by decide +kernel
theorem d_Mo_read_86 : decode prog_12_method_42_code 86 = .ok (.invokevirtual 185, 3) := by decide +kernel
theorem d_Mo_read_89 : decode prog_12_method_42_code 89 = .ok (.putfield 87, 3) := by decide +kernel
theorem d_Mo_read_92 : decode prog_12_method_42_code 92 = .ok (.iconst 0, 1) := by decide +kernel
theorem d_Mo_read_93 : decode prog_12_method_42_code 93 = .ok (.istore 4, 2) := by decide +kernel
theorem d_Mo_read_95 : decode prog_12_method_42_code 95 = .ok (.iload 4, 2) := by decide +kernel
theorem d_Mo_read_97 : decode prog_12_method_42_code 97 = .ok (.aload_n 0, 1) := by decide +kernel
theorem d_Mo_read_98 : decode prog_12_method_42_code 98 = .ok (.getfield 87, 3) := by decide +kernel
theorem d_Mo_read_101 : decode prog_12_method_42_code 101 = .ok (.if_icmp .ge 23, 3) := by decide +kernel
theorem d_Mo_read_104 : decode prog_12_method_42_code 104 = .ok (.aload_n 0, 1) := by decide +kernel
theorem d_Mo_read_105 : decode prog_12_method_42_code 105 = .ok (.getfield 84, 3) := by decide +kernel
theorem d_Mo_read_108 : decode prog_12_method_42_code 108 = .ok (.iload 4, 2) := by decide +kernel
theorem d_Mo_read_110 : decode prog_12_method_42_code 110 = .ok (.aload_n 0, 1) := by decide +kernel
theorem d_Mo_read_111 : decode prog_12_method_42_code 111 = .ok (.getfield 78, 3) := by decide +kernel
theorem d_Mo_read_114 : decode prog_12_method_42_code 114 = .ok (.iload 4, 2) := by decide +kernel
theorem d_Mo_read_116 : decode prog_12_method_42_code 116 = .ok (.iaload, 1) := by decide +kernel
theorem d_Mo_read_117 : decode prog_12_method_42_code 117 = .ok (.iastore, 1) := by decide +kernel
theorem d_Mo_read_118 : decode prog_12_method_42_code 118 = .ok (.iinc 4 1, 3) := by decide +kernel
theorem d_Mo_read_121 : decode prog_12_method_42_code 121 = .ok (.goto (-26), 3) := by decide +kernel
theorem d_Mo_read_124 : decode prog_12_method_42_code 124 = .ok (.aload_n 0, 1) := by decide +kernel
theorem d_Mo_read_125 : decode prog_12_method_42_code 125 = .ok (.getfield 87, 3) := by decide +kernel
theorem d_Mo_read_128 : decode prog_12_method_42_code 128 = .ok (.ireturn, 1) := by decide +kernel
theorem d_Mo_readByte_0 : decode prog_12_method_43_code 0 = .ok (.aload_n 0, 1) := by decide +kernel
theorem d_Mo_readByte_1 : decode prog_12_method_43_code 1 = .ok (.iload_n 1, 1) := by decide +kernel
theorem d_Mo_readByte_2 : decode prog_12_method_43_code 2 = .ok (.ifCond .lt 11, 3) := by decide +kernel
theorem d_Mo_readByte_5 : decode prog_12_method_43_code 5 = .ok (.iload_n 1, 1) := by decide +kernel
theorem d_Mo_readByte_6 : decode prog_12_method_43_code 6 = .ok (.aload_n 0, 1) := by decide +kernel
theorem d_Mo_readByte_7 : decode prog_12_method_43_code 7 = .ok (.getfield 87, 3) := by decide +kernel
theorem d_Mo_readByte_10 : decode prog_12_method_43_code 10 = .ok (.if_icmp .lt 7, 3) := by decide +kernel
theorem d_Mo_readByte_13 : decode prog_12_method_43_code 13 = .ok (.iconst 1, 1) := by decide +kernel
theorem d_Mo_readByte_14 : decode prog_12_method_43_code 14 = .ok (.goto 4, 3) := by decide +kernel
theorem d_Mo_readByte_17 : decode prog_12_method_43_code 17 = .ok (.iconst 0, 1) := by decide +kernel
theorem d_Mo_readByte_18 : decode prog_12_method_43_code 18 = .ok (.putfield 7, 3) := by decide +kernel
theorem d_Mo_readByte_21 : decode prog_12_method_43_code 21 = .ok (.aload_n 0, 1) := by decide +kernel
theorem d_Mo_readByte_22 : decode prog_12_method_43_code 22 = .ok (.getfield 7, 3) := by decide +kernel
theorem d_Mo_readByte_25 : decode prog_12_method_43_code 25 = .ok (.ifCond .eq 7, 3) := by decide +kernel
theorem d_Mo_readByte_28 : decode prog_12_method_43_code 28 = .ok (.iconst 0, 1) := by decide +kernel
theorem d_Mo_readByte_29 : decode prog_12_method_43_code 29 = .ok (.goto 9, 3) := by decide +kernel
theorem d_Mo_readByte_32 : decode prog_12_method_43_code 32 = .ok (.aload_n 0, 1) := by decide +kernel
theorem d_Mo_readByte_33 : decode prog_12_method_43_code 33 = .ok (.getfield 84, 3) := by decide +kernel
theorem d_Mo_readByte_36 : decode prog_12_method_43_code 36 = .ok (.iload_n 1, 1) := by decide +kernel
theorem d_Mo_readByte_37 : decode prog_12_method_43_code 37 = .ok (.iaload, 1) := by decide +kernel
theorem d_Mo_readByte_38 : decode prog_12_method_43_code 38 = .ok (.ireturn, 1) := by decide +kernel
theorem d_Mo_state_0 : decode prog_12_method_44_code 0 = .ok (.aload_n 0, 1) := by decide +kernel
theorem d_Mo_state_1 : decode prog_12_method_44_code 1 = .ok (.iload_n 1, 1) := by decide +kernel
theorem d_Mo_state_2 : decode prog_12_method_44_code 2 = .ok (.invokestatic 158, 3) := by decide +kernel
theorem d_Mo_state_5 : decode prog_12_method_44_code 5 = .ok (.ifCond .ne 12, 3) := by decide +kernel
theorem d_Mo_state_8 : decode prog_12_method_44_code 8 = .ok (.iload_n 2, 1) := by decide +kernel
theorem d_Mo_state_9 : decode prog_12_method_44_code 9 = .ok (.ifCond .lt 8, 3) := by decide +kernel
theorem d_Mo_state_12 : decode prog_12_method_44_code 12 = .ok (.iload_n 2, 1) := by decide +kernel
theorem d_Mo_state_13 : decode prog_12_method_44_code 13 = .ok (.iconst 3, 1) := by decide +kernel
theorem d_Mo_state_14 : decode prog_12_method_44_code 14 = .ok (.if_icmp .le 7, 3) := by decide +kernel
theorem d_Mo_state_17 : decode prog_12_method_44_code 17 = .ok (.iconst 1, 1) := by decide +kernel
theorem d_Mo_state_18 : decode prog_12_method_44_code 18 = .ok (.goto 4, 3) := by decide +kernel
theorem d_Mo_state_21 : decode prog_12_method_44_code 21 = .ok (.iconst 0, 1) := by decide +kernel
theorem d_Mo_state_22 : decode prog_12_method_44_code 22 = .ok (.putfield 7, 3) := by decide +kernel
theorem d_Mo_state_25 : decode prog_12_method_44_code 25 = .ok (.aload_n 0, 1) := by decide +kernel
theorem d_Mo_state_26 : decode prog_12_method_44_code 26 = .ok (.getfield 7, 3) := by decide +kernel
theorem d_Mo_state_29 : decode prog_12_method_44_code 29 = .ok (.ifCond .eq 5, 3) := by decide +kernel
theorem d_Mo_state_32 : decode prog_12_method_44_code 32 = .ok (.iconst 0, 1) := by decide +kernel
theorem d_Mo_state_33 : decode prog_12_method_44_code 33 = .ok (.ireturn, 1) := by decide +kernel
theorem d_Mo_state_34 : decode prog_12_method_44_code 34 = .ok (.iload_n 2, 1) := by decide +kernel
theorem d_Mo_state_35 : decode prog_12_method_44_code 35 = .ok (.ifCond .ne 12, 3) := by decide +kernel
theorem d_Mo_state_38 : decode prog_12_method_44_code 38 = .ok (.aload_n 0, 1) := by decide +kernel
theorem d_Mo_state_39 : decode prog_12_method_44_code 39 = .ok (.getfield 36, 3) := by decide +kernel
theorem d_Mo_state_42 : decode prog_12_method_44_code 42 = .ok (.iload_n 1, 1) := by decide +kernel
theorem d_Mo_state_43 : decode prog_12_method_44_code 43 = .ok (.iaload, 1) := by decide +kernel
theorem d_Mo_state_44 : decode prog_12_method_44_code 44 = .ok (.goto 39, 3) := by decide +kernel
theorem d_Mo_state_47 : decode prog_12_method_44_code 47 = .ok (.iload_n 2, 1) := by decide +kernel
theorem d_Mo_state_48 : decode prog_12_method_44_code 48 = .ok (.iconst 1, 1) := by decide +kernel
theorem d_Mo_state_49 : decode prog_12_method_44_code 49 = .ok (.if_icmp .ne 12, 3) := by decide +kernel
theorem d_Mo_state_52 : decode prog_12_method_44_code 52 = .ok (.aload_n 0, 1) := by decide +kernel
theorem d_Mo_state_53 : decode prog_12_method_44_code 53 = .ok (.getfield 39, 3) := by decide +kernel
theorem d_Mo_state_56 : decode prog_12_method_44_code 56 = .ok (.iload_n 1, 1) := by decide +kernel
theorem d_Mo_state_57 : decode prog_12_method_44_code 57 = .ok (.iaload, 1) := by decide +kernel
theorem d_Mo_state_58 : decode prog_12_method_44_code 58 = .ok (.goto 25, 3) := by decide +kernel
theorem d_Mo_state_61 : decode prog_12_method_44_code 61 = .ok (.iload_n 2, 1) := by decide +kernel
theorem d_Mo_state_62 : decode prog_12_method_44_code 62 = .ok (.iconst 2, 1) := by decide +kernel
theorem d_Mo_state_63 : decode prog_12_method_44_code 63 = .ok (.if_icmp .ne 11, 3) := by decide +kernel
theorem d_Mo_state_66 : decode prog_12_method_44_code 66 = .ok (.aload_n 0, 1) := by decide +kernel
theorem d_Mo_state_67 : decode prog_12_method_44_code 67 = .ok (.iload_n 1, 1) := by decide +kernel
theorem d_Mo_state_68 : decode prog_12_method_44_code 68 = .ok (.invokevirtual 165, 3) := by decide +kernel
theorem d_Mo_state_71 : decode prog_12_method_44_code 71 = .ok (.goto 12, 3) := by decide +kernel
theorem d_Mo_state_74 : decode prog_12_method_44_code 74 = .ok (.aload_n 0, 1) := by decide +kernel
theorem d_Mo_state_75 : decode prog_12_method_44_code 75 = .ok (.getfield 42, 3) := by decide +kernel
theorem d_Mo_state_78 : decode prog_12_method_44_code 78 = .ok (.iload_n 1, 1) := by decide +kernel
theorem d_Mo_state_79 : decode prog_12_method_44_code 79 = .ok (.iaload, 1) := by decide +kernel
theorem d_Mo_state_80 : decode prog_12_method_44_code 80 = .ok (.invokestatic 133, 3) := by decide +kernel
theorem d_Mo_state_83 : decode prog_12_method_44_code 83 = .ok (.ireturn, 1) := by decide +kernel
theorem d_Mo_station_0 : decode prog_12_method_45_code 0 = .ok (.aload_n 0, 1) := by decide +kernel
theorem d_Mo_station_1 : decode prog_12_method_45_code 1 = .ok (.iload_n 1, 1) := by decide +kernel
theorem d_Mo_station_2 : decode prog_12_method_45_code 2 = .ok (.invokestatic 179, 3) := by decide +kernel
theorem d_Mo_station_5 : decode prog_12_method_45_code 5 = .ok (.ifCond .ne 12, 3) := by decide +kernel
theorem d_Mo_station_8 : decode prog_12_method_45_code 8 = .ok (.iload_n 2, 1) := by decide +kernel
theorem d_Mo_station_9 : decode prog_12_method_45_code 9 = .ok (.ifCond .lt 8, 3) := by decide +kernel
theorem d_Mo_station_12 : decode prog_12_method_45_code 12 = .ok (.iload_n 2, 1) := by decide +kernel
theorem d_Mo_station_13 : decode prog_12_method_45_code 13 = .ok (.iconst 3, 1) := by decide +kernel
theorem d_Mo_station_14 : decode prog_12_method_45_code 14 = .ok (.if_icmp .le 7, 3) := by decide +kernel
theorem d_Mo_station_17 : decode prog_12_method_45_code 17 = .ok (.iconst 1, 1) := by decide +kernel
theorem d_Mo_station_18 : decode prog_12_method_45_code 18 = .ok (.goto 4, 3) := by decide +kernel
theorem d_Mo_station_21 : decode prog_12_method_45_code 21 = .ok (.iconst 0, 1) := by decide +kernel
theorem d_Mo_station_22 : decode prog_12_method_45_code 22 = .ok (.putfield 7, 3) := by decide +kernel
theorem d_Mo_station_25 : decode prog_12_method_45_code 25 = .ok (.aload_n 0, 1) := by decide +kernel
theorem d_Mo_station_26 : decode prog_12_method_45_code 26 = .ok (.getfield 7, 3) := by decide +kernel
theorem d_Mo_station_29 : decode prog_12_method_45_code 29 = .ok (.ifCond .eq 5, 3) := by decide +kernel
theorem d_Mo_station_32 : decode prog_12_method_45_code 32 = .ok (.iconst 0, 1) := by decide +kernel
theorem d_Mo_station_33 : decode prog_12_method_45_code 33 = .ok (.ireturn, 1) := by decide +kernel
theorem d_Mo_station_34 : decode prog_12_method_45_code 34 = .ok (.iload_n 2, 1) := by decide +kernel
theorem d_Mo_station_35 : decode prog_12_method_45_code 35 = .ok (.ifCond .ne 10, 3) := by decide +kernel
theorem d_Mo_station_38 : decode prog_12_method_45_code 38 = .ok (.aload_n 0, 1) := by decide +kernel
theorem d_Mo_station_39 : decode prog_12_method_45_code 39 = .ok (.getfield 13, 3) := by decide +kernel
theorem d_Mo_station_42 : decode prog_12_method_45_code 42 = .ok (.iload_n 1, 1) := by decide +kernel
theorem d_Mo_station_43 : decode prog_12_method_45_code 43 = .ok (.iaload, 1) := by decide +kernel
theorem d_Mo_station_44 : decode prog_12_method_45_code 44 = .ok (.ireturn, 1) := by decide +kernel
theorem d_Mo_station_45 : decode prog_12_method_45_code 45 = .ok (.iload_n 2, 1) := by decide +kernel
theorem d_Mo_station_46 : decode prog_12_method_45_code 46 = .ok (.iconst 2, 1) := by decide +kernel
theorem d_Mo_station_47 : decode prog_12_method_45_code 47 = .ok (.if_icmp .ne 18, 3) := by decide +kernel
theorem d_Mo_station_50 : decode prog_12_method_45_code 50 = .ok (.aload_n 0, 1) := by decide +kernel
theorem d_Mo_station_51 : decode prog_12_method_45_code 51 = .ok (.getfield 17, 3) := by decide +kernel
theorem d_Mo_station_54 : decode prog_12_method_45_code 54 = .ok (.iload_n 1, 1) := by decide +kernel
theorem d_Mo_station_55 : decode prog_12_method_45_code 55 = .ok (.baload, 1) := by decide +kernel
theorem d_Mo_station_56 : decode prog_12_method_45_code 56 = .ok (.ifCond .eq 7, 3) := by decide +kernel
theorem d_Mo_station_59 : decode prog_12_method_45_code 59 = .ok (.iconst 0, 1) := by decide +kernel
theorem d_Mo_station_60 : decode prog_12_method_45_code 60 = .ok (.goto 4, 3) := by decide +kernel
theorem d_Mo_station_63 : decode prog_12_method_45_code 63 = .ok (.iconst 1, 1) := by decide +kernel
theorem d_Mo_station_64 : decode prog_12_method_45_code 64 = .ok (.ireturn, 1) := by decide +kernel
theorem d_Mo_station_65 : decode prog_12_method_45_code 65 = .ok (.iload_n 2, 1) := by decide +kernel
theorem d_Mo_station_66 : decode prog_12_method_45_code 66 = .ok (.iconst 3, 1) := by decide +kernel
theorem d_Mo_station_67 : decode prog_12_method_45_code 67 = .ok (.if_icmp .ne 18, 3) := by decide +kernel
theorem d_Mo_station_70 : decode prog_12_method_45_code 70 = .ok (.aload_n 0, 1) := by decide +kernel
theorem d_Mo_station_71 : decode prog_12_method_45_code 71 = .ok (.getfield 21, 3) := by decide +kernel
theorem d_Mo_station_74 : decode prog_12_method_45_code 74 = .ok (.iload_n 1, 1) := by decide +kernel
theorem d_Mo_station_75 : decode prog_12_method_45_code 75 = .ok (.baload, 1) := by decide +kernel
theorem d_Mo_station_76 : decode prog_12_method_45_code 76 = .ok (.ifCond .eq 7, 3) := by decide +kernel
theorem d_Mo_station_79 : decode prog_12_method_45_code 79 = .ok (.iconst 1, 1) := by decide +kernel
theorem d_Mo_station_80 : decode prog_12_method_45_code 80 = .ok (.goto 4, 3) := by decide +kernel
theorem d_Mo_station_83 : decode prog_12_method_45_code 83 = .ok (.iconst 0, 1) := by decide +kernel
theorem d_Mo_station_84 : decode prog_12_method_45_code 84 = .ok (.ireturn, 1) := by decide +kernel
theorem d_Mo_station_85 : decode prog_12_method_45_code 85 = .ok (.iconst 0, 1) := by decide +kernel
theorem d_Mo_station_86 : decode prog_12_method_45_code 86 = .ok (.istore_n 3, 1) := by decide +kernel
theorem d_Mo_station_87 : decode prog_12_method_45_code 87 = .ok (.iconst 0, 1) := by decide +kernel
theorem d_Mo_station_88 : decode prog_12_method_45_code 88 = .ok (.istore 4, 2) := by decide +kernel
theorem d_Mo_station_90 : decode prog_12_method_45_code 90 = .ok (.iload 4, 2) := by decide +kernel
theorem d_Mo_station_92 : decode prog_12_method_45_code 92 = .ok (.bipush 8, 2) := by decide +kernel
theorem d_Mo_station_94 : decode prog_12_method_45_code 94 = .ok (.if_icmp .ge 32, 3) := by decide +kernel
theorem d_Mo_station_97 : decode prog_12_method_45_code 97 = .ok (.iload_n 3, 1) := by decide +kernel
theorem d_Mo_station_98 : decode prog_12_method_45_code 98 = .ok (.aload_n 0, 1) := by decide +kernel
theorem d_Mo_station_99 : decode prog_12_method_45_code 99 = .ok (.getfield 24, 3) := by decide +kernel
theorem d_Mo_station_102 : decode prog_12_method_45_code 102 = .ok (.bipush 88, 2) := by decide +kernel
theorem d_Mo_station_104 : decode prog_12_method_45_code 104 = .ok (.iload_n 1, 1) := by decide +kernel
theorem d_Mo_station_105 : decode prog_12_method_45_code 105 = .ok (.imul, 1) := by decide +kernel
theorem d_Mo_station_106 : decode prog_12_method_45_code 106 = .ok (.bipush 11, 2) := by decide +kernel
theorem d_Mo_station_108 : decode prog_12_method_45_code 108 = .ok (.iload 4, 2) := by decide +kernel
theorem d_Mo_station_110 : decode prog_12_method_45_code 110 = .ok (.imul, 1) := by decide +kernel
theorem d_Mo_station_111 : decode prog_12_method_45_code 111 = .ok (.iadd, 1) := by decide +kernel
theorem d_Mo_station_112 : decode prog_12_method_45_code 112 = .ok (.iconst 2, 1) := by decide +kernel
theorem d_Mo_station_113 : decode prog_12_method_45_code 113 = .ok (.iadd, 1) := by decide +kernel
theorem d_Mo_station_114 : decode prog_12_method_45_code 114 = .ok (.iaload, 1) := by decide +kernel
theorem d_Mo_station_115 : decode prog_12_method_45_code 115 = .ok (.invokestatic 100, 3) := by decide +kernel
theorem d_Mo_station_118 : decode prog_12_method_45_code 118 = .ok (.iadd, 1) := by decide +kernel
theorem d_Mo_station_119 : decode prog_12_method_45_code 119 = .ok (.istore_n 3, 1) := by decide +kernel
theorem d_Mo_station_120 : decode prog_12_method_45_code 120 = .ok (.iinc 4 1, 3) := by decide +kernel
theorem d_Mo_station_123 : decode prog_12_method_45_code 123 = .ok (.goto (-33), 3) := by decide +kernel
theorem d_Mo_station_126 : decode prog_12_method_45_code 126 = .ok (.iload_n 3, 1) := by decide +kernel
theorem d_Mo_station_127 : decode prog_12_method_45_code 127 = .ok (.ireturn, 1) := by decide +kernel
theorem d_Mo_share_0 : decode prog_12_method_46_code 0 = .ok (.aload_n 0, 1) := by decide +kernel
theorem d_Mo_share_1 : decode prog_12_method_46_code 1 = .ok (.iload_n 1, 1) := by decide +kernel
theorem d_Mo_share_2 : decode prog_12_method_46_code 2 = .ok (.invokestatic 179, 3) := by decide +kernel
theorem d_Mo_share_5 : decode prog_12_method_46_code 5 = .ok (.ifCond .ne 17, 3) := by decide +kernel
theorem d_Mo_share_8 : decode prog_12_method_46_code 8 = .ok (.iload_n 2, 1) := by decide +kernel
theorem d_Mo_share_9 : decode prog_12_method_46_code 9 = .ok (.ifCond .lt 13, 3) := by decide +kernel
theorem d_Mo_share_12 : decode prog_12_method_46_code 12 = .ok (.iload_n 2, 1) := by decide +kernel
theorem d_Mo_share_13 : decode prog_12_method_46_code 13 = .ok (.bipush 7, 2) := by decide +kernel
theorem d_Mo_share_15 : decode prog_12_method_46_code 15 = .ok (.if_icmp .gt 7, 3) := by decide +kernel
theorem d_Mo_share_18 : decode prog_12_method_46_code 18 = .ok (.iload_n 3, 1) := by decide +kernel
theorem d_Mo_share_19 : decode prog_12_method_46_code 19 = .ok (.ifCond .ge 7, 3) := by decide +kernel
theorem d_Mo_share_22 : decode prog_12_method_46_code 22 = .ok (.iconst 1, 1) := by decide +kernel
theorem d_Mo_share_23 : decode prog_12_method_46_code 23 = .ok (.goto 4, 3) := by decide +kernel
theorem d_Mo_share_26 : decode prog_12_method_46_code 26 = .ok (.iconst 0, 1) := by decide +kernel
theorem d_Mo_share_27 : decode prog_12_method_46_code 27 = .ok (.putfield 7, 3) := by decide +kernel
theorem d_Mo_share_30 : decode prog_12_method_46_code 30 = .ok (.aload_n 0, 1) := by decide +kernel
theorem d_Mo_share_31 : decode prog_12_method_46_code 31 = .ok (.getfield 7, 3) := by decide +kernel
theorem d_Mo_share_34 : decode prog_12_method_46_code 34 = .ok (.ifCond .eq 5, 3) := by decide +kernel
theorem d_Mo_share_37 : decode prog_12_method_46_code 37 = .ok (.iconst 0, 1) := by decide +kernel
theorem d_Mo_share_38 : decode prog_12_method_46_code 38 = .ok (.ireturn, 1) := by decide +kernel
theorem d_Mo_share_39 : decode prog_12_method_46_code 39 = .ok (.bipush 88, 2) := by decide +kernel
theorem d_Mo_share_41 : decode prog_12_method_46_code 41 = .ok (.iload_n 1, 1) := by decide +kernel
theorem d_Mo_share_42 : decode prog_12_method_46_code 42 = .ok (.imul, 1) := by decide +kernel
theorem d_Mo_share_43 : decode prog_12_method_46_code 43 = .ok (.bipush 11, 2) := by decide +kernel
theorem d_Mo_share_45 : decode prog_12_method_46_code 45 = .ok (.iload_n 2, 1) := by decide +kernel
theorem d_Mo_share_46 : decode prog_12_method_46_code 46 = .ok (.imul, 1) := by decide +kernel
theorem d_Mo_share_47 : decode prog_12_method_46_code 47 = .ok (.iadd, 1) := by decide +kernel
theorem d_Mo_share_48 : decode prog_12_method_46_code 48 = .ok (.istore 4, 2) := by decide +kernel
theorem d_Mo_share_50 : decode prog_12_method_46_code 50 = .ok (.aload_n 0, 1) := by decide +kernel
theorem d_Mo_share_51 : decode prog_12_method_46_code 51 = .ok (.getfield 24, 3) := by decide +kernel
theorem d_Mo_share_54 : decode prog_12_method_46_code 54 = .ok (.iload 4, 2) := by decide +kernel
theorem d_Mo_share_56 : decode prog_12_method_46_code 56 = .ok (.iconst 2, 1) := by decide +kernel
theorem d_Mo_share_57 : decode prog_12_method_46_code 57 = .ok (.iadd, 1) := by decide +kernel
theorem d_Mo_share_58 : decode prog_12_method_46_code 58 = .ok (.iaload, 1) := by decide +kernel
theorem d_Mo_share_59 : decode prog_12_method_46_code 59 = .ok (.istore 5, 2) := by decide +kernel
theorem d_Mo_share_61 : decode prog_12_method_46_code 61 = .ok (.iload 5, 2) := by decide +kernel
theorem d_Mo_share_63 : decode prog_12_method_46_code 63 = .ok (.ifCond .eq 14, 3) := by decide +kernel
theorem d_Mo_share_66 : decode prog_12_method_46_code 66 = .ok (.iload_n 3, 1) := by decide +kernel
theorem d_Mo_share_67 : decode prog_12_method_46_code 67 = .ok (.iconst 3, 1) := by decide +kernel
theorem d_Mo_share_68 : decode prog_12_method_46_code 68 = .ok (.iload 5, 2) := by decide +kernel
theorem d_Mo_share_70 : decode prog_12_method_46_code 70 = .ok (.invokestatic 100, 3) := by decide +kernel
theorem d_Mo_share_73 : decode prog_12_method_46_code 73 = .ok (.iadd, 1) := by decide +kernel
theorem d_Mo_share_74 : decode prog_12_method_46_code 74 = .ok (.if_icmp .lt 5, 3) := by decide +kernel
theorem d_Mo_share_77 : decode prog_12_method_46_code 77 = .ok (.iconst (-1), 1) := by decide +kernel
theorem d_Mo_share_78 : decode prog_12_method_46_code 78 = .ok (.ireturn, 1) := by decide +kernel
theorem d_Mo_share_79 : decode prog_12_method_46_code 79 = .ok (.aload_n 0, 1) := by decide +kernel
theorem d_Mo_share_80 : decode prog_12_method_46_code 80 = .ok (.getfield 24, 3) := by decide +kernel
theorem d_Mo_share_83 : decode prog_12_method_46_code 83 = .ok (.iload 4, 2) := by decide +kernel
theorem d_Mo_share_85 : decode prog_12_method_46_code 85 = .ok (.iload_n 3, 1) := by decide +kernel
theorem d_Mo_share_86 : decode prog_12_method_46_code 86 = .ok (.iadd, 1) := by decide +kernel
theorem d_Mo_share_87 : decode prog_12_method_46_code 87 = .ok (.iaload, 1) := by decide +kernel
theorem d_Mo_share_88 : decode prog_12_method_46_code 88 = .ok (.ireturn, 1) := by decide +kernel
