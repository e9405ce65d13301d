theorem dL_pigment_0 : decode cL_pigment 0 = .ok (.aload 4, 2) := by decide +kernel
theorem dL_pigment_2 : decode cL_pigment 2 = .ok (.iconst 0, 1) := by decide +kernel
theorem dL_pigment_3 : decode cL_pigment 3 = .ok (.aload_n 0, 1) := by decide +kernel
theorem dL_pigment_4 : decode cL_pigment 4 = .ok (.iload_n 1, 1) := by decide +kernel
theorem dL_pigment_5 : decode cL_pigment 5 = .ok (.iload_n 2, 1) := by decide +kernel
theorem dL_pigment_6 : decode cL_pigment 6 = .ok (.iload_n 3, 1) := by decide +kernel
theorem dL_pigment_7 : decode cL_pigment 7 = .ok (.invokevirtual 7, 3) := by decide +kernel
theorem dL_pigment_10 : decode cL_pigment 10 = .ok (.i2l, 1) := by decide +kernel
theorem dL_pigment_11 : decode cL_pigment 11 = .ok (.lastore, 1) := by decide +kernel
theorem dL_pigment_12 : decode cL_pigment 12 = .ok (.goto 11, 3) := by decide +kernel
theorem dL_pigment_15 : decode cL_pigment 15 = .ok (.astore 5, 2) := by decide +kernel
theorem dL_pigment_17 : decode cL_pigment 17 = .ok (.iconst 1, 1) := by decide +kernel
theorem dL_pigment_18 : decode cL_pigment 18 = .ok (.ireturn, 1) := by decide +kernel
theorem dL_pigment_19 : decode cL_pigment 19 = .ok (.astore 5, 2) := by decide +kernel
theorem dL_pigment_21 : decode cL_pigment 21 = .ok (.iconst 2, 1) := by decide +kernel
theorem dL_pigment_22 : decode cL_pigment 22 = .ok (.ireturn, 1) := by decide +kernel
theorem dL_pigment_23 : decode cL_pigment 23 = .ok (.iconst 0, 1) := by decide +kernel
theorem dL_pigment_24 : decode cL_pigment 24 = .ok (.ireturn, 1) := by decide +kernel
theorem dL_tube_0 : decode cL_tube 0 = .ok (.aload_n 3, 1) := by decide +kernel
theorem dL_tube_1 : decode cL_tube 1 = .ok (.iconst 0, 1) := by decide +kernel
theorem dL_tube_2 : decode cL_tube 2 = .ok (.aload_n 0, 1) := by decide +kernel
theorem dL_tube_3 : decode cL_tube 3 = .ok (.iload_n 1, 1) := by decide +kernel
theorem dL_tube_4 : decode cL_tube 4 = .ok (.iload_n 2, 1) := by decide +kernel
theorem dL_tube_5 : decode cL_tube 5 = .ok (.invokevirtual 17, 3) := by decide +kernel
theorem dL_tube_8 : decode cL_tube 8 = .ok (.i2l, 1) := by decide +kernel
theorem dL_tube_9 : decode cL_tube 9 = .ok (.lastore, 1) := by decide +kernel
theorem dL_tube_10 : decode cL_tube 10 = .ok (.goto 15, 3) := by decide +kernel
theorem dL_tube_13 : decode cL_tube 13 = .ok (.astore 4, 2) := by decide +kernel
theorem dL_tube_15 : decode cL_tube 15 = .ok (.iconst 1, 1) := by decide +kernel
theorem dL_tube_16 : decode cL_tube 16 = .ok (.ireturn, 1) := by decide +kernel
theorem dL_tube_17 : decode cL_tube 17 = .ok (.astore 4, 2) := by decide +kernel
theorem dL_tube_19 : decode cL_tube 19 = .ok (.iconst 2, 1) := by decide +kernel
theorem dL_tube_20 : decode cL_tube 20 = .ok (.ireturn, 1) := by decide +kernel
theorem dL_tube_21 : decode cL_tube 21 = .ok (.astore 4, 2) := by decide +kernel
theorem dL_tube_23 : decode cL_tube 23 = .ok (.iconst 3, 1) := by decide +kernel
theorem dL_tube_24 : decode cL_tube 24 = .ok (.ireturn, 1) := by decide +kernel
theorem dL_tube_25 : decode cL_tube 25 = .ok (.iconst 0, 1) := by decide +kernel
theorem dL_tube_26 : decode cL_tube 26 = .ok (.ireturn, 1) := by decide +kernel
theorem dL_pot_0 : decode cL_pot 0 = .ok (.aload_n 1, 1) := by decide +kernel
theorem dL_pot_1 : decode cL_pot 1 = .ok (.iconst 0, 1) := by decide +kernel
theorem dL_pot_2 : decode cL_pot 2 = .ok (.aload_n 0, 1) := by decide +kernel
theorem dL_pot_3 : decode cL_pot 3 = .ok (.invokevirtual 23, 3) := by decide +kernel
theorem dL_pot_6 : decode cL_pot 6 = .ok (.i2l, 1) := by decide +kernel
theorem dL_pot_7 : decode cL_pot 7 = .ok (.lastore, 1) := by decide +kernel
theorem dL_pot_8 : decode cL_pot 8 = .ok (.goto 6, 3) := by decide +kernel
theorem dL_pot_11 : decode cL_pot 11 = .ok (.astore_n 2, 1) := by decide +kernel
theorem dL_pot_12 : decode cL_pot 12 = .ok (.iconst 1, 1) := by decide +kernel
theorem dL_pot_13 : decode cL_pot 13 = .ok (.ireturn, 1) := by decide +kernel
theorem dL_pot_14 : decode cL_pot 14 = .ok (.iconst 0, 1) := by decide +kernel
theorem dL_pot_15 : decode cL_pot 15 = .ok (.ireturn, 1) := by decide +kernel
theorem dL_squeeze_0 : decode cL_squeeze 0 = .ok (.aload 4, 2) := by decide +kernel
theorem dL_squeeze_2 : decode cL_squeeze 2 = .ok (.iconst 0, 1) := by decide +kernel
theorem dL_squeeze_3 : decode cL_squeeze 3 = .ok (.aload_n 0, 1) := by decide +kernel
theorem dL_squeeze_4 : decode cL_squeeze 4 = .ok (.iload_n 1, 1) := by decide +kernel
theorem dL_squeeze_5 : decode cL_squeeze 5 = .ok (.iload_n 2, 1) := by decide +kernel
theorem dL_squeeze_6 : decode cL_squeeze 6 = .ok (.iload_n 3, 1) := by decide +kernel
theorem dL_squeeze_7 : decode cL_squeeze 7 = .ok (.invokevirtual 27, 3) := by decide +kernel
theorem dL_squeeze_10 : decode cL_squeeze 10 = .ok (.i2l, 1) := by decide +kernel
theorem dL_squeeze_11 : decode cL_squeeze 11 = .ok (.lastore, 1) := by decide +kernel
theorem dL_squeeze_12 : decode cL_squeeze 12 = .ok (.goto 15, 3) := by decide +kernel
theorem dL_squeeze_15 : decode cL_squeeze 15 = .ok (.astore 5, 2) := by decide +kernel
theorem dL_squeeze_17 : decode cL_squeeze 17 = .ok (.iconst 1, 1) := by decide +kernel
theorem dL_squeeze_18 : decode cL_squeeze 18 = .ok (.ireturn, 1) := by decide +kernel
theorem dL_squeeze_19 : decode cL_squeeze 19 = .ok (.astore 5, 2) := by decide +kernel
theorem dL_squeeze_21 : decode cL_squeeze 21 = .ok (.iconst 2, 1) := by decide +kernel
theorem dL_squeeze_22 : decode cL_squeeze 22 = .ok (.ireturn, 1) := by decide +kernel
theorem dL_squeeze_23 : decode cL_squeeze 23 = .ok (.astore 5, 2) := by decide +kernel
theorem dL_squeeze_25 : decode cL_squeeze 25 = .ok (.iconst 3, 1) := by decide +kernel
theorem dL_squeeze_26 : decode cL_squeeze 26 = .ok (.ireturn, 1) := by decide +kernel
theorem dL_squeeze_27 : decode cL_squeeze 27 = .ok (.iconst 0, 1) := by decide +kernel
theorem dL_squeeze_28 : decode cL_squeeze 28 = .ok (.ireturn, 1) := by decide +kernel
theorem dL_pour_0 : decode cL_pour 0 = .ok (.aload 4, 2) := by decide +kernel
theorem dL_pour_2 : decode cL_pour 2 = .ok (.iconst 0, 1) := by decide +kernel
theorem dL_pour_3 : decode cL_pour 3 = .ok (.aload_n 0, 1) := by decide +kernel
theorem dL_pour_4 : decode cL_pour 4 = .ok (.iload_n 1, 1) := by decide +kernel
theorem dL_pour_5 : decode cL_pour 5 = .ok (.iload_n 2, 1) := by decide +kernel
theorem dL_pour_6 : decode cL_pour 6 = .ok (.iload_n 3, 1) := by decide +kernel
theorem dL_pour_7 : decode cL_pour 7 = .ok (.invokevirtual 30, 3) := by decide +kernel
theorem dL_pour_10 : decode cL_pour 10 = .ok (.i2l, 1) := by decide +kernel
theorem dL_pour_11 : decode cL_pour 11 = .ok (.lastore, 1) := by decide +kernel
theorem dL_pour_12 : decode cL_pour 12 = .ok (.goto 15, 3) := by decide +kernel
theorem dL_pour_15 : decode cL_pour 15 = .ok (.astore 5, 2) := by decide +kernel
theorem dL_pour_17 : decode cL_pour 17 = .ok (.iconst 1, 1) := by decide +kernel
theorem dL_pour_18 : decode cL_pour 18 = .ok (.ireturn, 1) := by decide +kernel
theorem dL_pour_19 : decode cL_pour 19 = .ok (.astore 5, 2) := by decide +kernel
theorem dL_pour_21 : decode cL_pour 21 = .ok (.iconst 2, 1) := by decide +kernel
theorem dL_pour_22 : decode cL_pour 22 = .ok (.ireturn, 1) := by decide +kernel
theorem dL_pour_23 : decode cL_pour 23 = .ok (.astore 5, 2) := by decide +kernel
theorem dL_pour_25 : decode cL_pour 25 = .ok (.iconst 3, 1) := by decide +kernel
theorem dL_pour_26 : decode cL_pour 26 = .ok (.ireturn, 1) := by decide +kernel
theorem dL_pour_27 : decode cL_pour 27 = .ok (.iconst 0, 1) := by decide +kernel
theorem dL_pour_28 : decode cL_pour 28 = .ok (.ireturn, 1) := by decide +kernel
theorem dL_scrape_0 : decode cL_scrape 0 = .ok (.aload_n 2, 1) := by decide +kernel
theorem dL_scrape_1 : decode cL_scrape 1 = .ok (.iconst 0, 1) := by decide +kernel
theorem dL_scrape_2 : decode cL_scrape 2 = .ok (.aload_n 0, 1) := by decide +kernel
theorem dL_scrape_3 : decode cL_scrape 3 = .ok (.iload_n 1, 1) := by decide +kernel
theorem dL_scrape_4 : decode cL_scrape 4 = .ok (.invokevirtual 33, 3) := by decide +kernel
theorem dL_scrape_7 : decode cL_scrape 7 = .ok (.i2l, 1) := by decide +kernel
theorem dL_scrape_8 : decode cL_scrape 8 = .ok (.lastore, 1) := by decide +kernel
theorem dL_scrape_9 : decode cL_scrape 9 = .ok (.goto 6, 3) := by decide +kernel
theorem dL_scrape_12 : decode cL_scrape 12 = .ok (.astore_n 3, 1) := by decide +kernel
theorem dL_scrape_13 : decode cL_scrape 13 = .ok (.iconst 1, 1) := by decide +kernel
theorem dL_scrape_14 : decode cL_scrape 14 = .ok (.ireturn, 1) := by decide +kernel
theorem dL_scrape_15 : decode cL_scrape 15 = .ok (.iconst 0, 1) := by decide +kernel
theorem dL_scrape_16 : decode cL_scrape 16 = .ok (.ireturn, 1) := by decide +kernel
theorem dL_picture_0 : decode cL_picture 0 = .ok (.aload_n 1, 1) := by decide +kernel
theorem dL_picture_1 : decode cL_picture 1 = .ok (.iconst 0, 1) := by decide +kernel
theorem dL_picture_2 : decode cL_picture 2 = .ok (.aload_n 0, 1) := by decide +kernel
theorem dL_picture_3 : decode cL_picture 3 = .ok (.invokevirtual 37, 3) := by decide +kernel
theorem dL_picture_6 : decode cL_picture 6 = .ok (.i2l, 1) := by decide +kernel
theorem dL_picture_7 : decode cL_picture 7 = .ok (.lastore, 1) := by decide +kernel
theorem dL_picture_8 : decode cL_picture 8 = .ok (.goto 6, 3) := by decide +kernel
theorem dL_picture_11 : decode cL_picture 11 = .ok (.astore_n 2, 1) := by decide +kernel
theorem dL_picture_12 : decode cL_picture 12 = .ok (.iconst 1, 1) := by decide +kernel
theorem dL_picture_13 : decode cL_picture 13 = .ok (.ireturn, 1) := by decide +kernel
theorem dL_picture_14 : decode cL_picture 14 = .ok (.iconst 0, 1) := by decide +kernel
theorem dL_picture_15 : decode cL_picture 15 = .ok (.ireturn, 1) := by decide +kernel
theorem dL_paint_0 : decode cL_paint 0 = .ok (.aload 4, 2) := by decide +kernel
theorem dL_paint_2 : decode cL_paint 2 = .ok (.iconst 0, 1) := by decide +kernel
theorem dL_paint_3 : decode cL_paint 3 = .ok (.aload_n 0, 1) := by decide +kernel
theorem dL_paint_4 : decode cL_paint 4 = .ok (.iload_n 1, 1) := by decide +kernel
theorem dL_paint_5 : decode cL_paint 5 = .ok (.iload_n 2, 1) := by decide +kernel
theorem dL_paint_6 : decode cL_paint 6 = .ok (.iload_n 3, 1) := by decide +kernel
theorem dL_paint_7 : decode cL_paint 7 = .ok (.invokevirtual 40, 3) := by decide +kernel
theorem dL_paint_10 : decode cL_paint 10 = .ok (.i2l, 1) := by decide +kernel
theorem dL_paint_11 : decode cL_paint 11 = .ok (.lastore, 1) := by decide +kernel
theorem dL_paint_12 : decode cL_paint 12 = .ok (.goto 15, 3) := by decide +kernel
theorem dL_paint_15 : decode cL_paint 15 = .ok (.astore 5, 2) := by decide +kernel
theorem dL_paint_17 : decode cL_paint 17 = .ok (.iconst 1, 1) := by decide +kernel
theorem dL_paint_18 : decode cL_paint 18 = .ok (.ireturn, 1) := by decide +kernel
theorem dL_paint_19 : decode cL_paint 19 = .ok (.astore 5, 2) := by decide +kernel
theorem dL_paint_21 : decode cL_paint 21 = .ok (.iconst 2, 1) := by decide +kernel
theorem dL_paint_22 : decode cL_paint 22 = .ok (.ireturn, 1) := by decide +kernel
theorem dL_paint_23 : decode cL_paint 23 = .ok (.astore 5, 2) := by decide +kernel
theorem dL_paint_25 : decode cL_paint 25 = .ok (.iconst 3, 1) := by decide +kernel
theorem dL_paint_26 : decode cL_paint 26 = .ok (.ireturn, 1) := by decide +kernel
theorem dL_paint_27 : decode cL_paint 27 = .ok (.iconst 0, 1) := by decide +kernel
theorem dL_paint_28 : decode cL_paint 28 = .ok (.ireturn, 1) := by decide +kernel
theorem dL_clean_0 : decode cL_clean 0 = .ok (.aload_n 3, 1) := by decide +kernel
theorem dL_clean_1 : decode cL_clean 1 = .ok (.iconst 0, 1) := by decide +kernel
theorem dL_clean_2 : decode cL_clean 2 = .ok (.aload_n 0, 1) := by decide +kernel
theorem dL_clean_3 : decode cL_clean 3 = .ok (.iload_n 1, 1) := by decide +kernel
theorem dL_clean_4 : decode cL_clean 4 = .ok (.iload_n 2, 1) := by decide +kernel
theorem dL_clean_5 : decode cL_clean 5 = .ok (.invokevirtual 43, 3) := by decide +kernel
theorem dL_clean_8 : decode cL_clean 8 = .ok (.i2l, 1) := by decide +kernel
theorem dL_clean_9 : decode cL_clean 9 = .ok (.lastore, 1) := by decide +kernel
theorem dL_clean_10 : decode cL_clean 10 = .ok (.goto 15, 3) := by decide +kernel
theorem dL_clean_13 : decode cL_clean 13 = .ok (.astore 4, 2) := by decide +kernel
theorem dL_clean_15 : decode cL_clean 15 = .ok (.iconst 1, 1) := by decide +kernel
theorem dL_clean_16 : decode cL_clean 16 = .ok (.ireturn, 1) := by decide +kernel
theorem dL_clean_17 : decode cL_clean 17 = .ok (.astore 4, 2) := by decide +kernel
theorem dL_clean_19 : decode cL_clean 19 = .ok (.iconst 2, 1) := by decide +kernel
theorem dL_clean_20 : decode cL_clean 20 = .ok (.ireturn, 1) := by decide +kernel
theorem dL_clean_21 : decode cL_clean 21 = .ok (.astore 4, 2) := by decide +kernel
theorem dL_clean_23 : decode cL_clean 23 = .ok (.iconst 3, 1) := by decide +kernel
theorem dL_clean_24 : decode cL_clean 24 = .ok (.ireturn, 1) := by decide +kernel
theorem dL_clean_25 : decode cL_clean 25 = .ok (.iconst 0, 1) := by decide +kernel
theorem dL_clean_26 : decode cL_clean 26 = .ok (.ireturn, 1) := by decide +kernel
theorem dL_damp_0 : decode cL_damp 0 = .ok (.aload_n 3, 1) := by decide +kernel
theorem dL_damp_1 : decode cL_damp 1 = .ok (.iconst 0, 1) := by decide +kernel
theorem dL_damp_2 : decode cL_damp 2 = .ok (.aload_n 0, 1) := by decide +kernel
theorem dL_damp_3 : decode cL_damp 3 = .ok (.iload_n 1, 1) := by decide +kernel
theorem dL_damp_4 : decode cL_damp 4 = .ok (.iload_n 2, 1) := by decide +kernel
theorem dL_damp_5 : decode cL_damp 5 = .ok (.invokevirtual 46, 3) := by decide +kernel
theorem dL_damp_8 : decode cL_damp 8 = .ok (.i2l, 1) := by decide +kernel
theorem dL_damp_9 : decode cL_damp 9 = .ok (.lastore, 1) := by decide +kernel
theorem dL_damp_10 : decode cL_damp 10 = .ok (.goto 11, 3) := by decide +kernel
theorem dL_damp_13 : decode cL_damp 13 = .ok (.astore 4, 2) := by decide +kernel
theorem dL_damp_15 : decode cL_damp 15 = .ok (.iconst 1, 1) := by decide +kernel
theorem dL_damp_16 : decode cL_damp 16 = .ok (.ireturn, 1) := by decide +kernel
theorem dL_damp_17 : decode cL_damp 17 = .ok (.astore 4, 2) := by decide +kernel
theorem dL_damp_19 : decode cL_damp 19 = .ok (.iconst 2, 1) := by decide +kernel
theorem dL_damp_20 : decode cL_damp 20 = .ok (.ireturn, 1) := by decide +kernel
theorem dL_damp_21 : decode cL_damp 21 = .ok (.iconst 0, 1) := by decide +kernel
theorem dL_damp_22 : decode cL_damp 22 = .ok (.ireturn, 1) := by decide +kernel
theorem dL_lend_0 : decode cL_lend 0 = .ok (.aload 4, 2) := by decide +kernel
theorem dL_lend_2 : decode cL_lend 2 = .ok (.iconst 0, 1) := by decide +kernel
theorem dL_lend_3 : decode cL_lend 3 = .ok (.aload_n 0, 1) := by decide +kernel
theorem dL_lend_4 : decode cL_lend 4 = .ok (.iload_n 1, 1) := by decide +kernel
theorem dL_lend_5 : decode cL_lend 5 = .ok (.iload_n 2, 1) := by decide +kernel
theorem dL_lend_6 : decode cL_lend 6 = .ok (.iload_n 3, 1) := by decide +kernel
theorem dL_lend_7 : decode cL_lend 7 = .ok (.invokevirtual 49, 3) := by decide +kernel
theorem dL_lend_10 : decode cL_lend 10 = .ok (.i2l, 1) := by decide +kernel
theorem dL_lend_11 : decode cL_lend 11 = .ok (.lastore, 1) := by decide +kernel
theorem dL_lend_12 : decode cL_lend 12 = .ok (.goto 15, 3) := by decide +kernel
theorem dL_lend_15 : decode cL_lend 15 = .ok (.astore 5, 2) := by decide +kernel
theorem dL_lend_17 : decode cL_lend 17 = .ok (.iconst 1, 1) := by decide +kernel
theorem dL_lend_18 : decode cL_lend 18 = .ok (.ireturn, 1) := by decide +kernel
theorem dL_lend_19 : decode cL_lend 19 = .ok (.astore 5, 2) := by decide +kernel
theorem dL_lend_21 : decode cL_lend 21 = .ok (.iconst 2, 1) := by decide +kernel
theorem dL_lend_22 : decode cL_lend 22 = .ok (.ireturn, 1) := by decide +kernel
theorem dL_lend_23 : decode cL_lend 23 = .ok (.astore 5, 2) := by decide +kernel
theorem dL_lend_25 : decode cL_lend 25 = .ok (.iconst 3, 1) := by decide +kernel
theorem dL_lend_26 : decode cL_lend 26 = .ok (.ireturn, 1) := by decide +kernel
theorem dL_lend_27 : decode cL_lend 27 = .ok (.iconst 0, 1) := by decide +kernel
theorem dL_lend_28 : decode cL_lend 28 = .ok (.ireturn, 1) := by decide +kernel
theorem dL_sell_0 : decode cL_sell 0 = .ok (.aload_n 3, 1) := by decide +kernel
theorem dL_sell_1 : decode cL_sell 1 = .ok (.iconst 0, 1) := by decide +kernel
theorem dL_sell_2 : decode cL_sell 2 = .ok (.aload_n 0, 1) := by decide +kernel
theorem dL_sell_3 : decode cL_sell 3 = .ok (.iload_n 1, 1) := by decide +kernel
theorem dL_sell_4 : decode cL_sell 4 = .ok (.iload_n 2, 1) := by decide +kernel
theorem dL_sell_5 : decode cL_sell 5 = .ok (.invokevirtual 52, 3) := by decide +kernel
theorem dL_sell_8 : decode cL_sell 8 = .ok (.i2l, 1) := by decide +kernel
theorem dL_sell_9 : decode cL_sell 9 = .ok (.lastore, 1) := by decide +kernel
theorem dL_sell_10 : decode cL_sell 10 = .ok (.goto 15, 3) := by decide +kernel
theorem dL_sell_13 : decode cL_sell 13 = .ok (.astore 4, 2) := by decide +kernel
theorem dL_sell_15 : decode cL_sell 15 = .ok (.iconst 1, 1) := by decide +kernel
theorem dL_sell_16 : decode cL_sell 16 = .ok (.ireturn, 1) := by decide +kernel
theorem dL_sell_17 : decode cL_sell 17 = .ok (.astore 4, 2) := by decide +kernel
theorem dL_sell_19 : decode cL_sell 19 = .ok (.iconst 2, 1) := by decide +kernel
theorem dL_sell_20 : decode cL_sell 20 = .ok (.ireturn, 1) := by decide +kernel
theorem dL_sell_21 : decode cL_sell 21 = .ok (.astore 4, 2) := by decide +kernel
theorem dL_sell_23 : decode cL_sell 23 = .ok (.iconst 3, 1) := by decide +kernel
theorem dL_sell_24 : decode cL_sell 24 = .ok (.ireturn, 1) := by decide +kernel
theorem dL_sell_25 : decode cL_sell 25 = .ok (.iconst 0, 1) := by decide +kernel
theorem dL_sell_26 : decode cL_sell 26 = .ok (.ireturn, 1) := by decide +kernel
theorem dL_pass_0 : decode cL_pass 0 = .ok (.aload_n 2, 1) := by decide +kernel
theorem dL_pass_1 : decode cL_pass 1 = .ok (.iconst 0, 1) := by decide +kernel
theorem dL_pass_2 : decode cL_pass 2 = .ok (.aload_n 0, 1) := by decide +kernel
theorem dL_pass_3 : decode cL_pass 3 = .ok (.iload_n 1, 1) := by decide +kernel
theorem dL_pass_4 : decode cL_pass 4 = .ok (.invokevirtual 55, 3) := by decide +kernel
theorem dL_pass_7 : decode cL_pass 7 = .ok (.i2l, 1) := by decide +kernel
theorem dL_pass_8 : decode cL_pass 8 = .ok (.lastore, 1) := by decide +kernel
theorem dL_pass_9 : decode cL_pass 9 = .ok (.goto 9, 3) := by decide +kernel
theorem dL_pass_12 : decode cL_pass 12 = .ok (.astore_n 3, 1) := by decide +kernel
theorem dL_pass_13 : decode cL_pass 13 = .ok (.iconst 1, 1) := by decide +kernel
theorem dL_pass_14 : decode cL_pass 14 = .ok (.ireturn, 1) := by decide +kernel
theorem dL_pass_15 : decode cL_pass 15 = .ok (.astore_n 3, 1) := by decide +kernel
theorem dL_pass_16 : decode cL_pass 16 = .ok (.iconst 2, 1) := by decide +kernel
theorem dL_pass_17 : decode cL_pass 17 = .ok (.ireturn, 1) := by decide +kernel
theorem dL_pass_18 : decode cL_pass 18 = .ok (.iconst 0, 1) := by decide +kernel
theorem dL_pass_19 : decode cL_pass 19 = .ok (.ireturn, 1) := by decide +kernel
theorem dL_left_0 : decode cL_left 0 = .ok (.aload_n 2, 1) := by decide +kernel
theorem dL_left_1 : decode cL_left 1 = .ok (.iconst 0, 1) := by decide +kernel
theorem dL_left_2 : decode cL_left 2 = .ok (.aload_n 0, 1) := by decide +kernel
theorem dL_left_3 : decode cL_left 3 = .ok (.iload_n 1, 1) := by decide +kernel
theorem dL_left_4 : decode cL_left 4 = .ok (.invokevirtual 58, 3) := by decide +kernel
theorem dL_left_7 : decode cL_left 7 = .ok (.i2l, 1) := by decide +kernel
theorem dL_left_8 : decode cL_left 8 = .ok (.lastore, 1) := by decide +kernel
theorem dL_left_9 : decode cL_left 9 = .ok (.goto 6, 3) := by decide +kernel
theorem dL_left_12 : decode cL_left 12 = .ok (.astore_n 3, 1) := by decide +kernel
theorem dL_left_13 : decode cL_left 13 = .ok (.iconst 1, 1) := by decide +kernel
theorem dL_left_14 : decode cL_left 14 = .ok (.ireturn, 1) := by decide +kernel
theorem dL_left_15 : decode cL_left 15 = .ok (.iconst 0, 1) := by decide +kernel
theorem dL_left_16 : decode cL_left 16 = .ok (.ireturn, 1) := by decide +kernel
theorem dL_has_0 : decode cL_has 0 = .ok (.aload_n 3, 1) := by decide +kernel
theorem dL_has_1 : decode cL_has 1 = .ok (.iconst 0, 1) := by decide +kernel
theorem dL_has_2 : decode cL_has 2 = .ok (.aload_n 0, 1) := by decide +kernel
theorem dL_has_3 : decode cL_has 3 = .ok (.iload_n 1, 1) := by decide +kernel
theorem dL_has_4 : decode cL_has 4 = .ok (.iload_n 2, 1) := by decide +kernel
theorem dL_has_5 : decode cL_has 5 = .ok (.invokevirtual 61, 3) := by decide +kernel
theorem dL_has_8 : decode cL_has 8 = .ok (.i2l, 1) := by decide +kernel
theorem dL_has_9 : decode cL_has 9 = .ok (.lastore, 1) := by decide +kernel
theorem dL_has_10 : decode cL_has 10 = .ok (.goto 7, 3) := by decide +kernel
theorem dL_has_13 : decode cL_has 13 = .ok (.astore 4, 2) := by decide +kernel
theorem dL_has_15 : decode cL_has 15 = .ok (.iconst 1, 1) := by decide +kernel
theorem dL_has_16 : decode cL_has 16 = .ok (.ireturn, 1) := by decide +kernel
theorem dL_has_17 : decode cL_has 17 = .ok (.iconst 0, 1) := by decide +kernel
theorem dL_has_18 : decode cL_has 18 = .ok (.ireturn, 1) := by decide +kernel
theorem dL_colour_0 : decode cL_colour 0 = .ok (.aload_n 3, 1) := by decide +kernel
theorem dL_colour_1 : decode cL_colour 1 = .ok (.iconst 0, 1) := by decide +kernel
theorem dL_colour_2 : decode cL_colour 2 = .ok (.aload_n 0, 1) := by decide +kernel
theorem dL_colour_3 : decode cL_colour 3 = .ok (.iload_n 1, 1) := by decide +kernel
theorem dL_colour_4 : decode cL_colour 4 = .ok (.iload_n 2, 1) := by decide +kernel
theorem dL_colour_5 : decode cL_colour 5 = .ok (.invokevirtual 64, 3) := by decide +kernel
theorem dL_colour_8 : decode cL_colour 8 = .ok (.i2l, 1) := by decide +kernel
theorem dL_colour_9 : decode cL_colour 9 = .ok (.lastore, 1) := by decide +kernel
theorem dL_colour_10 : decode cL_colour 10 = .ok (.goto 11, 3) := by decide +kernel
theorem dL_colour_13 : decode cL_colour 13 = .ok (.astore 4, 2) := by decide +kernel
theorem dL_colour_15 : decode cL_colour 15 = .ok (.iconst 1, 1) := by decide +kernel
theorem dL_colour_16 : decode cL_colour 16 = .ok (.ireturn, 1) := by decide +kernel
theorem dL_colour_17 : decode cL_colour 17 = .ok (.astore 4, 2) := by decide +kernel
theorem dL_colour_19 : decode cL_colour 19 = .ok (.iconst 2, 1) := by decide +kernel
theorem dL_colour_20 : decode cL_colour 20 = .ok (.ireturn, 1) := by decide +kernel
theorem dL_colour_21 : decode cL_colour 21 = .ok (.iconst 0, 1) := by decide +kernel
theorem dL_colour_22 : decode cL_colour 22 = .ok (.ireturn, 1) := by decide +kernel
theorem dL_of_0 : decode cL_of 0 = .ok (.aload_n 3, 1) := by decide +kernel
theorem dL_of_1 : decode cL_of 1 = .ok (.iconst 0, 1) := by decide +kernel
theorem dL_of_2 : decode cL_of 2 = .ok (.aload_n 0, 1) := by decide +kernel
theorem dL_of_3 : decode cL_of 3 = .ok (.iload_n 1, 1) := by decide +kernel
theorem dL_of_4 : decode cL_of 4 = .ok (.iload_n 2, 1) := by decide +kernel
theorem dL_of_5 : decode cL_of 5 = .ok (.invokevirtual 67, 3) := by decide +kernel
theorem dL_of_8 : decode cL_of 8 = .ok (.i2l, 1) := by decide +kernel
theorem dL_of_9 : decode cL_of 9 = .ok (.lastore, 1) := by decide +kernel
theorem dL_of_10 : decode cL_of 10 = .ok (.goto 11, 3) := by decide +kernel
theorem dL_of_13 : decode cL_of 13 = .ok (.astore 4, 2) := by decide +kernel
theorem dL_of_15 : decode cL_of 15 = .ok (.iconst 1, 1) := by decide +kernel
theorem dL_of_16 : decode cL_of 16 = .ok (.ireturn, 1) := by decide +kernel
theorem dL_of_17 : decode cL_of 17 = .ok (.astore 4, 2) := by decide +kernel
theorem dL_of_19 : decode cL_of 19 = .ok (.iconst 2, 1) := by decide +kernel
theorem dL_of_20 : decode cL_of 20 = .ok (.ireturn, 1) := by decide +kernel
theorem dL_of_21 : decode cL_of 21 = .ok (.iconst 0, 1) := by decide +kernel
theorem dL_of_22 : decode cL_of 22 = .ok (.ireturn, 1) := by decide +kernel
theorem dL_layer_0 : decode cL_layer 0 = .ok (.aload 4, 2) := by decide +kernel
theorem dL_layer_2 : decode cL_layer 2 = .ok (.iconst 0, 1) := by decide +kernel
theorem dL_layer_3 : decode cL_layer 3 = .ok (.aload_n 0, 1) := by decide +kernel
theorem dL_layer_4 : decode cL_layer 4 = .ok (.iload_n 1, 1) := by decide +kernel
theorem dL_layer_5 : decode cL_layer 5 = .ok (.iload_n 2, 1) := by decide +kernel
theorem dL_layer_6 : decode cL_layer 6 = .ok (.iload_n 3, 1) := by decide +kernel
theorem dL_layer_7 : decode cL_layer 7 = .ok (.invokevirtual 70, 3) := by decide +kernel
theorem dL_layer_10 : decode cL_layer 10 = .ok (.i2l, 1) := by decide +kernel
theorem dL_layer_11 : decode cL_layer 11 = .ok (.lastore, 1) := by decide +kernel
theorem dL_layer_12 : decode cL_layer 12 = .ok (.goto 7, 3) := by decide +kernel
theorem dL_layer_15 : decode cL_layer 15 = .ok (.astore 5, 2) := by decide +kernel
theorem dL_layer_17 : decode cL_layer 17 = .ok (.iconst 1, 1) := by decide +kernel
theorem dL_layer_18 : decode cL_layer 18 = .ok (.ireturn, 1) := by decide +kernel
theorem dL_layer_19 : decode cL_layer 19 = .ok (.iconst 0, 1) := by decide +kernel
theorem dL_layer_20 : decode cL_layer 20 = .ok (.ireturn, 1) := by decide +kernel
theorem dL_where_0 : decode cL_where 0 = .ok (.aload_n 3, 1) := by decide +kernel
theorem dL_where_1 : decode cL_where 1 = .ok (.iconst 0, 1) := by decide +kernel
theorem dL_where_2 : decode cL_where 2 = .ok (.aload_n 0, 1) := by decide +kernel
theorem dL_where_3 : decode cL_where 3 = .ok (.iload_n 1, 1) := by decide +kernel
theorem dL_where_4 : decode cL_where 4 = .ok (.iload_n 2, 1) := by decide +kernel
theorem dL_where_5 : decode cL_where 5 = .ok (.invokevirtual 73, 3) := by decide +kernel
theorem dL_where_8 : decode cL_where 8 = .ok (.i2l, 1) := by decide +kernel
theorem dL_where_9 : decode cL_where 9 = .ok (.lastore, 1) := by decide +kernel
theorem dL_where_10 : decode cL_where 10 = .ok (.goto 11, 3) := by decide +kernel
theorem dL_where_13 : decode cL_where 13 = .ok (.astore 4, 2) := by decide +kernel
theorem dL_where_15 : decode cL_where 15 = .ok (.iconst 1, 1) := by decide +kernel
theorem dL_where_16 : decode cL_where 16 = .ok (.ireturn, 1) := by decide +kernel
theorem dL_where_17 : decode cL_where 17 = .ok (.astore 4, 2) := by decide +kernel
theorem dL_where_19 : decode cL_where 19 = .ok (.iconst 2, 1) := by decide +kernel
theorem dL_where_20 : decode cL_where 20 = .ok (.ireturn, 1) := by decide +kernel
theorem dL_where_21 : decode cL_where 21 = .ok (.iconst 0, 1) := by decide +kernel
theorem dL_where_22 : decode cL_where 22 = .ok (.ireturn, 1) := by decide +kernel
theorem dL_recipe_0 : decode cL_recipe 0 = .ok (.aload 4, 2) := by decide +kernel
theorem dL_recipe_2 : decode cL_recipe 2 = .ok (.iconst 0, 1) := by decide +kernel
theorem dL_recipe_3 : decode cL_recipe 3 = .ok (.aload_n 0, 1) := by decide +kernel
theorem dL_recipe_4 : decode cL_recipe 4 = .ok (.iload_n 1, 1) := by decide +kernel
theorem dL_recipe_5 : decode cL_recipe 5 = .ok (.iload_n 2, 1) := by decide +kernel
theorem dL_recipe_6 : decode cL_recipe 6 = .ok (.iload_n 3, 1) := by decide +kernel
theorem dL_recipe_7 : decode cL_recipe 7 = .ok (.invokevirtual 76, 3) := by decide +kernel
theorem dL_recipe_10 : decode cL_recipe 10 = .ok (.i2l, 1) := by decide +kernel
theorem dL_recipe_11 : decode cL_recipe 11 = .ok (.lastore, 1) := by decide +kernel
theorem dL_recipe_12 : decode cL_recipe 12 = .ok (.goto 7, 3) := by decide +kernel
theorem dL_recipe_15 : decode cL_recipe 15 = .ok (.astore 5, 2) := by decide +kernel
theorem dL_recipe_17 : decode cL_recipe 17 = .ok (.iconst 1, 1) := by decide +kernel
theorem dL_recipe_18 : decode cL_recipe 18 = .ok (.ireturn, 1) := by decide +kernel
theorem dL_recipe_19 : decode cL_recipe 19 = .ok (.iconst 0, 1) := by decide +kernel
theorem dL_recipe_20 : decode cL_recipe 20 = .ok (.ireturn, 1) := by decide +kernel
theorem dL_paid_0 : decode cL_paid 0 = .ok (.aload_n 2, 1) := by decide +kernel
theorem dL_paid_1 : decode cL_paid 1 = .ok (.iconst 0, 1) := by decide +kernel
theorem dL_paid_2 : decode cL_paid 2 = .ok (.aload_n 0, 1) := by decide +kernel
theorem dL_paid_3 : decode cL_paid 3 = .ok (.iload_n 1, 1) := by decide +kernel
theorem dL_paid_4 : decode cL_paid 4 = .ok (.invokevirtual 79, 3) := by decide +kernel
theorem dL_paid_7 : decode cL_paid 7 = .ok (.i2l, 1) := by decide +kernel
theorem dL_paid_8 : decode cL_paid 8 = .ok (.lastore, 1) := by decide +kernel
theorem dL_paid_9 : decode cL_paid 9 = .ok (.goto 6, 3) := by decide +kernel
theorem dL_paid_12 : decode cL_paid 12 = .ok (.astore_n 3, 1) := by decide +kernel
theorem dL_paid_13 : decode cL_paid 13 = .ok (.iconst 1, 1) := by decide +kernel
theorem dL_paid_14 : decode cL_paid 14 = .ok (.ireturn, 1) := by decide +kernel
theorem dL_paid_15 : decode cL_paid 15 = .ok (.iconst 0, 1) := by decide +kernel
theorem dL_paid_16 : decode cL_paid 16 = .ok (.ireturn, 1) := by decide +kernel
