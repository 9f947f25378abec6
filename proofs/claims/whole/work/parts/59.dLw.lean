theorem dL_lot_0 : decode cL_lot 0 = .ok (.aload 4, 2) := by decide +kernel
theorem dL_lot_2 : decode cL_lot 2 = .ok (.iconst 0, 1) := by decide +kernel
theorem dL_lot_3 : decode cL_lot 3 = .ok (.aload_n 0, 1) := by decide +kernel
theorem dL_lot_4 : decode cL_lot 4 = .ok (.iload_n 1, 1) := by decide +kernel
theorem dL_lot_5 : decode cL_lot 5 = .ok (.iload_n 2, 1) := by decide +kernel
theorem dL_lot_6 : decode cL_lot 6 = .ok (.iload_n 3, 1) := by decide +kernel
theorem dL_lot_7 : decode cL_lot 7 = .ok (.invokevirtual 7, 3) := by decide +kernel
theorem dL_lot_10 : decode cL_lot 10 = .ok (.i2l, 1) := by decide +kernel
theorem dL_lot_11 : decode cL_lot 11 = .ok (.lastore, 1) := by decide +kernel
theorem dL_lot_12 : decode cL_lot 12 = .ok (.goto 11, 3) := by decide +kernel
theorem dL_lot_15 : decode cL_lot 15 = .ok (.astore 5, 2) := by decide +kernel
theorem dL_lot_17 : decode cL_lot 17 = .ok (.iconst 1, 1) := by decide +kernel
theorem dL_lot_18 : decode cL_lot 18 = .ok (.ireturn, 1) := by decide +kernel
theorem dL_lot_19 : decode cL_lot 19 = .ok (.astore 5, 2) := by decide +kernel
theorem dL_lot_21 : decode cL_lot 21 = .ok (.iconst 2, 1) := by decide +kernel
theorem dL_lot_22 : decode cL_lot 22 = .ok (.ireturn, 1) := by decide +kernel
theorem dL_lot_23 : decode cL_lot 23 = .ok (.iconst 0, 1) := by decide +kernel
theorem dL_lot_24 : decode cL_lot 24 = .ok (.ireturn, 1) := by decide +kernel
theorem dL_sun_0 : decode cL_sun 0 = .ok (.aload_n 3, 1) := by decide +kernel
theorem dL_sun_1 : decode cL_sun 1 = .ok (.iconst 0, 1) := by decide +kernel
theorem dL_sun_2 : decode cL_sun 2 = .ok (.aload_n 0, 1) := by decide +kernel
theorem dL_sun_3 : decode cL_sun 3 = .ok (.iload_n 1, 1) := by decide +kernel
theorem dL_sun_4 : decode cL_sun 4 = .ok (.iload_n 2, 1) := by decide +kernel
theorem dL_sun_5 : decode cL_sun 5 = .ok (.invokevirtual 17, 3) := by decide +kernel
theorem dL_sun_8 : decode cL_sun 8 = .ok (.i2l, 1) := by decide +kernel
theorem dL_sun_9 : decode cL_sun 9 = .ok (.lastore, 1) := by decide +kernel
theorem dL_sun_10 : decode cL_sun 10 = .ok (.goto 11, 3) := by decide +kernel
theorem dL_sun_13 : decode cL_sun 13 = .ok (.astore 4, 2) := by decide +kernel
theorem dL_sun_15 : decode cL_sun 15 = .ok (.iconst 1, 1) := by decide +kernel
theorem dL_sun_16 : decode cL_sun 16 = .ok (.ireturn, 1) := by decide +kernel
theorem dL_sun_17 : decode cL_sun 17 = .ok (.astore 4, 2) := by decide +kernel
theorem dL_sun_19 : decode cL_sun 19 = .ok (.iconst 2, 1) := by decide +kernel
theorem dL_sun_20 : decode cL_sun 20 = .ok (.ireturn, 1) := by decide +kernel
theorem dL_sun_21 : decode cL_sun 21 = .ok (.iconst 0, 1) := by decide +kernel
theorem dL_sun_22 : decode cL_sun 22 = .ok (.ireturn, 1) := by decide +kernel
theorem dL_panel_0 : decode cL_panel 0 = .ok (.aload 5, 2) := by decide +kernel
theorem dL_panel_2 : decode cL_panel 2 = .ok (.iconst 0, 1) := by decide +kernel
theorem dL_panel_3 : decode cL_panel 3 = .ok (.aload_n 0, 1) := by decide +kernel
theorem dL_panel_4 : decode cL_panel 4 = .ok (.iload_n 1, 1) := by decide +kernel
theorem dL_panel_5 : decode cL_panel 5 = .ok (.iload_n 2, 1) := by decide +kernel
theorem dL_panel_6 : decode cL_panel 6 = .ok (.iload_n 3, 1) := by decide +kernel
theorem dL_panel_7 : decode cL_panel 7 = .ok (.iload 4, 2) := by decide +kernel
theorem dL_panel_9 : decode cL_panel 9 = .ok (.invokevirtual 23, 3) := by decide +kernel
theorem dL_panel_12 : decode cL_panel 12 = .ok (.i2l, 1) := by decide +kernel
theorem dL_panel_13 : decode cL_panel 13 = .ok (.lastore, 1) := by decide +kernel
theorem dL_panel_14 : decode cL_panel 14 = .ok (.goto 15, 3) := by decide +kernel
theorem dL_panel_17 : decode cL_panel 17 = .ok (.astore 6, 2) := by decide +kernel
theorem dL_panel_19 : decode cL_panel 19 = .ok (.iconst 1, 1) := by decide +kernel
theorem dL_panel_20 : decode cL_panel 20 = .ok (.ireturn, 1) := by decide +kernel
theorem dL_panel_21 : decode cL_panel 21 = .ok (.astore 6, 2) := by decide +kernel
theorem dL_panel_23 : decode cL_panel 23 = .ok (.iconst 2, 1) := by decide +kernel
theorem dL_panel_24 : decode cL_panel 24 = .ok (.ireturn, 1) := by decide +kernel
theorem dL_panel_25 : decode cL_panel 25 = .ok (.astore 6, 2) := by decide +kernel
theorem dL_panel_27 : decode cL_panel 27 = .ok (.iconst 3, 1) := by decide +kernel
theorem dL_panel_28 : decode cL_panel 28 = .ok (.ireturn, 1) := by decide +kernel
theorem dL_panel_29 : decode cL_panel 29 = .ok (.iconst 0, 1) := by decide +kernel
theorem dL_panel_30 : decode cL_panel 30 = .ok (.ireturn, 1) := by decide +kernel
theorem dL_strength_0 : decode cL_strength 0 = .ok (.aload_n 2, 1) := by decide +kernel
theorem dL_strength_1 : decode cL_strength 1 = .ok (.iconst 0, 1) := by decide +kernel
theorem dL_strength_2 : decode cL_strength 2 = .ok (.aload_n 0, 1) := by decide +kernel
theorem dL_strength_3 : decode cL_strength 3 = .ok (.iload_n 1, 1) := by decide +kernel
theorem dL_strength_4 : decode cL_strength 4 = .ok (.invokevirtual 27, 3) := by decide +kernel
theorem dL_strength_7 : decode cL_strength 7 = .ok (.lastore, 1) := by decide +kernel
theorem dL_strength_8 : decode cL_strength 8 = .ok (.goto 6, 3) := by decide +kernel
theorem dL_strength_11 : decode cL_strength 11 = .ok (.astore_n 3, 1) := by decide +kernel
theorem dL_strength_12 : decode cL_strength 12 = .ok (.iconst 1, 1) := by decide +kernel
theorem dL_strength_13 : decode cL_strength 13 = .ok (.ireturn, 1) := by decide +kernel
theorem dL_strength_14 : decode cL_strength 14 = .ok (.iconst 0, 1) := by decide +kernel
theorem dL_strength_15 : decode cL_strength 15 = .ok (.ireturn, 1) := by decide +kernel
theorem dL_roll_0 : decode cL_roll 0 = .ok (.aload_n 2, 1) := by decide +kernel
theorem dL_roll_1 : decode cL_roll 1 = .ok (.iconst 0, 1) := by decide +kernel
theorem dL_roll_2 : decode cL_roll 2 = .ok (.aload_n 0, 1) := by decide +kernel
theorem dL_roll_3 : decode cL_roll 3 = .ok (.iload_n 1, 1) := by decide +kernel
theorem dL_roll_4 : decode cL_roll 4 = .ok (.invokevirtual 31, 3) := by decide +kernel
theorem dL_roll_7 : decode cL_roll 7 = .ok (.i2l, 1) := by decide +kernel
theorem dL_roll_8 : decode cL_roll 8 = .ok (.lastore, 1) := by decide +kernel
theorem dL_roll_9 : decode cL_roll 9 = .ok (.goto 6, 3) := by decide +kernel
theorem dL_roll_12 : decode cL_roll 12 = .ok (.astore_n 3, 1) := by decide +kernel
theorem dL_roll_13 : decode cL_roll 13 = .ok (.iconst 1, 1) := by decide +kernel
theorem dL_roll_14 : decode cL_roll 14 = .ok (.ireturn, 1) := by decide +kernel
theorem dL_roll_15 : decode cL_roll 15 = .ok (.iconst 0, 1) := by decide +kernel
theorem dL_roll_16 : decode cL_roll 16 = .ok (.ireturn, 1) := by decide +kernel
theorem dL_seam_0 : decode cL_seam 0 = .ok (.aload 4, 2) := by decide +kernel
theorem dL_seam_2 : decode cL_seam 2 = .ok (.iconst 0, 1) := by decide +kernel
theorem dL_seam_3 : decode cL_seam 3 = .ok (.aload_n 0, 1) := by decide +kernel
theorem dL_seam_4 : decode cL_seam 4 = .ok (.iload_n 1, 1) := by decide +kernel
theorem dL_seam_5 : decode cL_seam 5 = .ok (.iload_n 2, 1) := by decide +kernel
theorem dL_seam_6 : decode cL_seam 6 = .ok (.iload_n 3, 1) := by decide +kernel
theorem dL_seam_7 : decode cL_seam 7 = .ok (.invokevirtual 35, 3) := by decide +kernel
theorem dL_seam_10 : decode cL_seam 10 = .ok (.i2l, 1) := by decide +kernel
theorem dL_seam_11 : decode cL_seam 11 = .ok (.lastore, 1) := by decide +kernel
theorem dL_seam_12 : decode cL_seam 12 = .ok (.goto 15, 3) := by decide +kernel
theorem dL_seam_15 : decode cL_seam 15 = .ok (.astore 5, 2) := by decide +kernel
theorem dL_seam_17 : decode cL_seam 17 = .ok (.iconst 1, 1) := by decide +kernel
theorem dL_seam_18 : decode cL_seam 18 = .ok (.ireturn, 1) := by decide +kernel
theorem dL_seam_19 : decode cL_seam 19 = .ok (.astore 5, 2) := by decide +kernel
theorem dL_seam_21 : decode cL_seam 21 = .ok (.iconst 2, 1) := by decide +kernel
theorem dL_seam_22 : decode cL_seam 22 = .ok (.ireturn, 1) := by decide +kernel
theorem dL_seam_23 : decode cL_seam 23 = .ok (.astore 5, 2) := by decide +kernel
theorem dL_seam_25 : decode cL_seam 25 = .ok (.iconst 3, 1) := by decide +kernel
theorem dL_seam_26 : decode cL_seam 26 = .ok (.ireturn, 1) := by decide +kernel
theorem dL_seam_27 : decode cL_seam 27 = .ok (.iconst 0, 1) := by decide +kernel
theorem dL_seam_28 : decode cL_seam 28 = .ok (.ireturn, 1) := by decide +kernel
theorem dL_rip_0 : decode cL_rip 0 = .ok (.aload_n 2, 1) := by decide +kernel
theorem dL_rip_1 : decode cL_rip 1 = .ok (.iconst 0, 1) := by decide +kernel
theorem dL_rip_2 : decode cL_rip 2 = .ok (.aload_n 0, 1) := by decide +kernel
theorem dL_rip_3 : decode cL_rip 3 = .ok (.iload_n 1, 1) := by decide +kernel
theorem dL_rip_4 : decode cL_rip 4 = .ok (.invokevirtual 38, 3) := by decide +kernel
theorem dL_rip_7 : decode cL_rip 7 = .ok (.lastore, 1) := by decide +kernel
theorem dL_rip_8 : decode cL_rip 8 = .ok (.goto 6, 3) := by decide +kernel
theorem dL_rip_11 : decode cL_rip 11 = .ok (.astore_n 3, 1) := by decide +kernel
theorem dL_rip_12 : decode cL_rip 12 = .ok (.iconst 1, 1) := by decide +kernel
theorem dL_rip_13 : decode cL_rip 13 = .ok (.ireturn, 1) := by decide +kernel
theorem dL_rip_14 : decode cL_rip 14 = .ok (.iconst 0, 1) := by decide +kernel
theorem dL_rip_15 : decode cL_rip 15 = .ok (.ireturn, 1) := by decide +kernel
theorem dL_bears_0 : decode cL_bears 0 = .ok (.aload_n 3, 1) := by decide +kernel
theorem dL_bears_1 : decode cL_bears 1 = .ok (.iconst 0, 1) := by decide +kernel
theorem dL_bears_2 : decode cL_bears 2 = .ok (.aload_n 0, 1) := by decide +kernel
theorem dL_bears_3 : decode cL_bears 3 = .ok (.iload_n 1, 1) := by decide +kernel
theorem dL_bears_4 : decode cL_bears 4 = .ok (.iload_n 2, 1) := by decide +kernel
theorem dL_bears_5 : decode cL_bears 5 = .ok (.invokevirtual 41, 3) := by decide +kernel
theorem dL_bears_8 : decode cL_bears 8 = .ok (.lastore, 1) := by decide +kernel
theorem dL_bears_9 : decode cL_bears 9 = .ok (.goto 7, 3) := by decide +kernel
theorem dL_bears_12 : decode cL_bears 12 = .ok (.astore 4, 2) := by decide +kernel
theorem dL_bears_14 : decode cL_bears 14 = .ok (.iconst 1, 1) := by decide +kernel
theorem dL_bears_15 : decode cL_bears 15 = .ok (.ireturn, 1) := by decide +kernel
theorem dL_bears_16 : decode cL_bears 16 = .ok (.iconst 0, 1) := by decide +kernel
theorem dL_bears_17 : decode cL_bears 17 = .ok (.ireturn, 1) := by decide +kernel
theorem dL_bearsAnew_0 : decode cL_bearsAnew 0 = .ok (.aload_n 3, 1) := by decide +kernel
theorem dL_bearsAnew_1 : decode cL_bearsAnew 1 = .ok (.iconst 0, 1) := by decide +kernel
theorem dL_bearsAnew_2 : decode cL_bearsAnew 2 = .ok (.aload_n 0, 1) := by decide +kernel
theorem dL_bearsAnew_3 : decode cL_bearsAnew 3 = .ok (.iload_n 1, 1) := by decide +kernel
theorem dL_bearsAnew_4 : decode cL_bearsAnew 4 = .ok (.iload_n 2, 1) := by decide +kernel
theorem dL_bearsAnew_5 : decode cL_bearsAnew 5 = .ok (.invokevirtual 45, 3) := by decide +kernel
theorem dL_bearsAnew_8 : decode cL_bearsAnew 8 = .ok (.lastore, 1) := by decide +kernel
theorem dL_bearsAnew_9 : decode cL_bearsAnew 9 = .ok (.goto 7, 3) := by decide +kernel
theorem dL_bearsAnew_12 : decode cL_bearsAnew 12 = .ok (.astore 4, 2) := by decide +kernel
theorem dL_bearsAnew_14 : decode cL_bearsAnew 14 = .ok (.iconst 1, 1) := by decide +kernel
theorem dL_bearsAnew_15 : decode cL_bearsAnew 15 = .ok (.ireturn, 1) := by decide +kernel
theorem dL_bearsAnew_16 : decode cL_bearsAnew 16 = .ok (.iconst 0, 1) := by decide +kernel
theorem dL_bearsAnew_17 : decode cL_bearsAnew 17 = .ok (.ireturn, 1) := by decide +kernel
theorem dL_knot_0 : decode cL_knot 0 = .ok (.aload 4, 2) := by decide +kernel
theorem dL_knot_2 : decode cL_knot 2 = .ok (.iconst 0, 1) := by decide +kernel
theorem dL_knot_3 : decode cL_knot 3 = .ok (.aload_n 0, 1) := by decide +kernel
theorem dL_knot_4 : decode cL_knot 4 = .ok (.iload_n 1, 1) := by decide +kernel
theorem dL_knot_5 : decode cL_knot 5 = .ok (.iload_n 2, 1) := by decide +kernel
theorem dL_knot_6 : decode cL_knot 6 = .ok (.iload_n 3, 1) := by decide +kernel
theorem dL_knot_7 : decode cL_knot 7 = .ok (.invokevirtual 48, 3) := by decide +kernel
theorem dL_knot_10 : decode cL_knot 10 = .ok (.i2l, 1) := by decide +kernel
theorem dL_knot_11 : decode cL_knot 11 = .ok (.lastore, 1) := by decide +kernel
theorem dL_knot_12 : decode cL_knot 12 = .ok (.goto 11, 3) := by decide +kernel
theorem dL_knot_15 : decode cL_knot 15 = .ok (.astore 5, 2) := by decide +kernel
theorem dL_knot_17 : decode cL_knot 17 = .ok (.iconst 1, 1) := by decide +kernel
theorem dL_knot_18 : decode cL_knot 18 = .ok (.ireturn, 1) := by decide +kernel
theorem dL_knot_19 : decode cL_knot 19 = .ok (.astore 5, 2) := by decide +kernel
theorem dL_knot_21 : decode cL_knot 21 = .ok (.iconst 2, 1) := by decide +kernel
theorem dL_knot_22 : decode cL_knot 22 = .ok (.ireturn, 1) := by decide +kernel
theorem dL_knot_23 : decode cL_knot 23 = .ok (.iconst 0, 1) := by decide +kernel
theorem dL_knot_24 : decode cL_knot 24 = .ok (.ireturn, 1) := by decide +kernel
theorem dL_load_0 : decode cL_load 0 = .ok (.aload_n 2, 1) := by decide +kernel
theorem dL_load_1 : decode cL_load 1 = .ok (.iconst 0, 1) := by decide +kernel
theorem dL_load_2 : decode cL_load 2 = .ok (.aload_n 0, 1) := by decide +kernel
theorem dL_load_3 : decode cL_load 3 = .ok (.iload_n 1, 1) := by decide +kernel
theorem dL_load_4 : decode cL_load 4 = .ok (.invokevirtual 52, 3) := by decide +kernel
theorem dL_load_7 : decode cL_load 7 = .ok (.i2l, 1) := by decide +kernel
theorem dL_load_8 : decode cL_load 8 = .ok (.lastore, 1) := by decide +kernel
theorem dL_load_9 : decode cL_load 9 = .ok (.goto 6, 3) := by decide +kernel
theorem dL_load_12 : decode cL_load 12 = .ok (.astore_n 3, 1) := by decide +kernel
theorem dL_load_13 : decode cL_load 13 = .ok (.iconst 1, 1) := by decide +kernel
theorem dL_load_14 : decode cL_load 14 = .ok (.ireturn, 1) := by decide +kernel
theorem dL_load_15 : decode cL_load 15 = .ok (.iconst 0, 1) := by decide +kernel
theorem dL_load_16 : decode cL_load 16 = .ok (.ireturn, 1) := by decide +kernel
theorem dL_rest_0 : decode cL_rest 0 = .ok (.aload_n 2, 1) := by decide +kernel
theorem dL_rest_1 : decode cL_rest 1 = .ok (.iconst 0, 1) := by decide +kernel
theorem dL_rest_2 : decode cL_rest 2 = .ok (.aload_n 0, 1) := by decide +kernel
theorem dL_rest_3 : decode cL_rest 3 = .ok (.iload_n 1, 1) := by decide +kernel
theorem dL_rest_4 : decode cL_rest 4 = .ok (.invokevirtual 55, 3) := by decide +kernel
theorem dL_rest_7 : decode cL_rest 7 = .ok (.i2l, 1) := by decide +kernel
theorem dL_rest_8 : decode cL_rest 8 = .ok (.lastore, 1) := by decide +kernel
theorem dL_rest_9 : decode cL_rest 9 = .ok (.goto 6, 3) := by decide +kernel
theorem dL_rest_12 : decode cL_rest 12 = .ok (.astore_n 3, 1) := by decide +kernel
theorem dL_rest_13 : decode cL_rest 13 = .ok (.iconst 1, 1) := by decide +kernel
theorem dL_rest_14 : decode cL_rest 14 = .ok (.ireturn, 1) := by decide +kernel
theorem dL_rest_15 : decode cL_rest 15 = .ok (.iconst 0, 1) := by decide +kernel
theorem dL_rest_16 : decode cL_rest 16 = .ok (.ireturn, 1) := by decide +kernel
theorem dL_height_0 : decode cL_height 0 = .ok (.aload_n 2, 1) := by decide +kernel
theorem dL_height_1 : decode cL_height 1 = .ok (.iconst 0, 1) := by decide +kernel
theorem dL_height_2 : decode cL_height 2 = .ok (.aload_n 0, 1) := by decide +kernel
theorem dL_height_3 : decode cL_height 3 = .ok (.iload_n 1, 1) := by decide +kernel
theorem dL_height_4 : decode cL_height 4 = .ok (.invokevirtual 58, 3) := by decide +kernel
theorem dL_height_7 : decode cL_height 7 = .ok (.i2l, 1) := by decide +kernel
theorem dL_height_8 : decode cL_height 8 = .ok (.lastore, 1) := by decide +kernel
theorem dL_height_9 : decode cL_height 9 = .ok (.goto 6, 3) := by decide +kernel
theorem dL_height_12 : decode cL_height 12 = .ok (.astore_n 3, 1) := by decide +kernel
theorem dL_height_13 : decode cL_height 13 = .ok (.iconst 1, 1) := by decide +kernel
theorem dL_height_14 : decode cL_height 14 = .ok (.ireturn, 1) := by decide +kernel
theorem dL_height_15 : decode cL_height 15 = .ok (.iconst 0, 1) := by decide +kernel
theorem dL_height_16 : decode cL_height 16 = .ok (.ireturn, 1) := by decide +kernel
theorem dL_peg_0 : decode cL_peg 0 = .ok (.aload 4, 2) := by decide +kernel
theorem dL_peg_2 : decode cL_peg 2 = .ok (.iconst 0, 1) := by decide +kernel
theorem dL_peg_3 : decode cL_peg 3 = .ok (.aload_n 0, 1) := by decide +kernel
theorem dL_peg_4 : decode cL_peg 4 = .ok (.lload_n 1, 1) := by decide +kernel
theorem dL_peg_5 : decode cL_peg 5 = .ok (.iload_n 3, 1) := by decide +kernel
theorem dL_peg_6 : decode cL_peg 6 = .ok (.invokevirtual 61, 3) := by decide +kernel
theorem dL_peg_9 : decode cL_peg 9 = .ok (.i2l, 1) := by decide +kernel
theorem dL_peg_10 : decode cL_peg 10 = .ok (.lastore, 1) := by decide +kernel
theorem dL_peg_11 : decode cL_peg 11 = .ok (.goto 11, 3) := by decide +kernel
theorem dL_peg_14 : decode cL_peg 14 = .ok (.astore 5, 2) := by decide +kernel
theorem dL_peg_16 : decode cL_peg 16 = .ok (.iconst 1, 1) := by decide +kernel
theorem dL_peg_17 : decode cL_peg 17 = .ok (.ireturn, 1) := by decide +kernel
theorem dL_peg_18 : decode cL_peg 18 = .ok (.astore 5, 2) := by decide +kernel
theorem dL_peg_20 : decode cL_peg 20 = .ok (.iconst 2, 1) := by decide +kernel
theorem dL_peg_21 : decode cL_peg 21 = .ok (.ireturn, 1) := by decide +kernel
theorem dL_peg_22 : decode cL_peg 22 = .ok (.iconst 0, 1) := by decide +kernel
theorem dL_peg_23 : decode cL_peg 23 = .ok (.ireturn, 1) := by decide +kernel
theorem dL_gust_0 : decode cL_gust 0 = .ok (.aload_n 3, 1) := by decide +kernel
theorem dL_gust_1 : decode cL_gust 1 = .ok (.iconst 0, 1) := by decide +kernel
theorem dL_gust_2 : decode cL_gust 2 = .ok (.aload_n 0, 1) := by decide +kernel
theorem dL_gust_3 : decode cL_gust 3 = .ok (.lload_n 1, 1) := by decide +kernel
theorem dL_gust_4 : decode cL_gust 4 = .ok (.invokevirtual 65, 3) := by decide +kernel
theorem dL_gust_7 : decode cL_gust 7 = .ok (.i2l, 1) := by decide +kernel
theorem dL_gust_8 : decode cL_gust 8 = .ok (.lastore, 1) := by decide +kernel
theorem dL_gust_9 : decode cL_gust 9 = .ok (.goto 7, 3) := by decide +kernel
theorem dL_gust_12 : decode cL_gust 12 = .ok (.astore 4, 2) := by decide +kernel
theorem dL_gust_14 : decode cL_gust 14 = .ok (.iconst 1, 1) := by decide +kernel
theorem dL_gust_15 : decode cL_gust 15 = .ok (.ireturn, 1) := by decide +kernel
theorem dL_gust_16 : decode cL_gust 16 = .ok (.iconst 0, 1) := by decide +kernel
theorem dL_gust_17 : decode cL_gust 17 = .ok (.ireturn, 1) := by decide +kernel
theorem dL_pulled_0 : decode cL_pulled 0 = .ok (.aload_n 2, 1) := by decide +kernel
theorem dL_pulled_1 : decode cL_pulled 1 = .ok (.iconst 0, 1) := by decide +kernel
theorem dL_pulled_2 : decode cL_pulled 2 = .ok (.aload_n 0, 1) := by decide +kernel
theorem dL_pulled_3 : decode cL_pulled 3 = .ok (.iload_n 1, 1) := by decide +kernel
theorem dL_pulled_4 : decode cL_pulled 4 = .ok (.invokevirtual 69, 3) := by decide +kernel
theorem dL_pulled_7 : decode cL_pulled 7 = .ok (.lastore, 1) := by decide +kernel
theorem dL_pulled_8 : decode cL_pulled 8 = .ok (.goto 6, 3) := by decide +kernel
theorem dL_pulled_11 : decode cL_pulled 11 = .ok (.astore_n 3, 1) := by decide +kernel
theorem dL_pulled_12 : decode cL_pulled 12 = .ok (.iconst 1, 1) := by decide +kernel
theorem dL_pulled_13 : decode cL_pulled 13 = .ok (.ireturn, 1) := by decide +kernel
theorem dL_pulled_14 : decode cL_pulled 14 = .ok (.iconst 0, 1) := by decide +kernel
theorem dL_pulled_15 : decode cL_pulled 15 = .ok (.ireturn, 1) := by decide +kernel
theorem dL_trim_0 : decode cL_trim 0 = .ok (.aload 4, 2) := by decide +kernel
theorem dL_trim_2 : decode cL_trim 2 = .ok (.iconst 0, 1) := by decide +kernel
theorem dL_trim_3 : decode cL_trim 3 = .ok (.aload_n 0, 1) := by decide +kernel
theorem dL_trim_4 : decode cL_trim 4 = .ok (.iload_n 1, 1) := by decide +kernel
theorem dL_trim_5 : decode cL_trim 5 = .ok (.iload_n 2, 1) := by decide +kernel
theorem dL_trim_6 : decode cL_trim 6 = .ok (.iload_n 3, 1) := by decide +kernel
theorem dL_trim_7 : decode cL_trim 7 = .ok (.invokevirtual 72, 3) := by decide +kernel
theorem dL_trim_10 : decode cL_trim 10 = .ok (.f2d, 1) := by decide +kernel
theorem dL_trim_11 : decode cL_trim 11 = .ok (.dastore, 1) := by decide +kernel
theorem dL_trim_12 : decode cL_trim 12 = .ok (.goto 7, 3) := by decide +kernel
theorem dL_trim_15 : decode cL_trim 15 = .ok (.astore 5, 2) := by decide +kernel
theorem dL_trim_17 : decode cL_trim 17 = .ok (.iconst 1, 1) := by decide +kernel
theorem dL_trim_18 : decode cL_trim 18 = .ok (.ireturn, 1) := by decide +kernel
theorem dL_trim_19 : decode cL_trim 19 = .ok (.iconst 0, 1) := by decide +kernel
theorem dL_trim_20 : decode cL_trim 20 = .ok (.ireturn, 1) := by decide +kernel
theorem dL_power_0 : decode cL_power 0 = .ok (.aload_n 2, 1) := by decide +kernel
theorem dL_power_1 : decode cL_power 1 = .ok (.iconst 0, 1) := by decide +kernel
theorem dL_power_2 : decode cL_power 2 = .ok (.aload_n 0, 1) := by decide +kernel
theorem dL_power_3 : decode cL_power 3 = .ok (.iload_n 1, 1) := by decide +kernel
theorem dL_power_4 : decode cL_power 4 = .ok (.invokevirtual 76, 3) := by decide +kernel
theorem dL_power_7 : decode cL_power 7 = .ok (.f2d, 1) := by decide +kernel
theorem dL_power_8 : decode cL_power 8 = .ok (.dastore, 1) := by decide +kernel
theorem dL_power_9 : decode cL_power 9 = .ok (.goto 6, 3) := by decide +kernel
theorem dL_power_12 : decode cL_power 12 = .ok (.astore_n 3, 1) := by decide +kernel
theorem dL_power_13 : decode cL_power 13 = .ok (.iconst 1, 1) := by decide +kernel
theorem dL_power_14 : decode cL_power 14 = .ok (.ireturn, 1) := by decide +kernel
theorem dL_power_15 : decode cL_power 15 = .ok (.iconst 0, 1) := by decide +kernel
theorem dL_power_16 : decode cL_power 16 = .ok (.ireturn, 1) := by decide +kernel
theorem dL_halyard_0 : decode cL_halyard 0 = .ok (.aload_n 3, 1) := by decide +kernel
theorem dL_halyard_1 : decode cL_halyard 1 = .ok (.iconst 0, 1) := by decide +kernel
theorem dL_halyard_2 : decode cL_halyard 2 = .ok (.aload_n 0, 1) := by decide +kernel
theorem dL_halyard_3 : decode cL_halyard 3 = .ok (.iload_n 1, 1) := by decide +kernel
theorem dL_halyard_4 : decode cL_halyard 4 = .ok (.iload_n 2, 1) := by decide +kernel
theorem dL_halyard_5 : decode cL_halyard 5 = .ok (.invokevirtual 80, 3) := by decide +kernel
theorem dL_halyard_8 : decode cL_halyard 8 = .ok (.i2l, 1) := by decide +kernel
theorem dL_halyard_9 : decode cL_halyard 9 = .ok (.lastore, 1) := by decide +kernel
theorem dL_halyard_10 : decode cL_halyard 10 = .ok (.goto 7, 3) := by decide +kernel
theorem dL_halyard_13 : decode cL_halyard 13 = .ok (.astore 4, 2) := by decide +kernel
theorem dL_halyard_15 : decode cL_halyard 15 = .ok (.iconst 1, 1) := by decide +kernel
theorem dL_halyard_16 : decode cL_halyard 16 = .ok (.ireturn, 1) := by decide +kernel
theorem dL_halyard_17 : decode cL_halyard 17 = .ok (.iconst 0, 1) := by decide +kernel
theorem dL_halyard_18 : decode cL_halyard 18 = .ok (.ireturn, 1) := by decide +kernel
theorem dL_pass_0 : decode cL_pass 0 = .ok (.aload_n 2, 1) := by decide +kernel
theorem dL_pass_1 : decode cL_pass 1 = .ok (.iconst 0, 1) := by decide +kernel
theorem dL_pass_2 : decode cL_pass 2 = .ok (.aload_n 0, 1) := by decide +kernel
theorem dL_pass_3 : decode cL_pass 3 = .ok (.iload_n 1, 1) := by decide +kernel
theorem dL_pass_4 : decode cL_pass 4 = .ok (.invokevirtual 83, 3) := by decide +kernel
theorem dL_pass_7 : decode cL_pass 7 = .ok (.i2l, 1) := by decide +kernel
theorem dL_pass_8 : decode cL_pass 8 = .ok (.lastore, 1) := by decide +kernel
theorem dL_pass_9 : decode cL_pass 9 = .ok (.goto 9, 3) := by decide +kernel
theorem dL_pass_12 : decode cL_pass 12 = .ok (.astore_n 3, 1) := by decide +kernel
theorem dL_pass_13 : decode cL_pass 13 = .ok (.iconst 1, 1) := by decide +kernel
theorem dL_pass_14 : decode cL_pass 14 = .ok (.ireturn, 1) := by decide +kernel
theorem dL_pass_15 : decode cL_pass 15 = .ok (.astore_n 3, 1) := by decide +kernel
theorem dL_pass_16 : decode cL_pass 16 = .ok (.iconst 2, 1) := by decide +kernel
theorem dL_pass_17 : decode cL_pass 17 = .ok (.ireturn, 1) := by decide +kernel
theorem dL_pass_18 : decode cL_pass 18 = .ok (.iconst 0, 1) := by decide +kernel
theorem dL_pass_19 : decode cL_pass 19 = .ok (.ireturn, 1) := by decide +kernel
theorem dL_canopy_0 : decode cL_canopy 0 = .ok (.aload_n 2, 1) := by decide +kernel
theorem dL_canopy_1 : decode cL_canopy 1 = .ok (.iconst 0, 1) := by decide +kernel
theorem dL_canopy_2 : decode cL_canopy 2 = .ok (.aload_n 0, 1) := by decide +kernel
theorem dL_canopy_3 : decode cL_canopy 3 = .ok (.iload_n 1, 1) := by decide +kernel
theorem dL_canopy_4 : decode cL_canopy 4 = .ok (.invokevirtual 86, 3) := by decide +kernel
theorem dL_canopy_7 : decode cL_canopy 7 = .ok (.i2l, 1) := by decide +kernel
theorem dL_canopy_8 : decode cL_canopy 8 = .ok (.lastore, 1) := by decide +kernel
theorem dL_canopy_9 : decode cL_canopy 9 = .ok (.goto 9, 3) := by decide +kernel
theorem dL_canopy_12 : decode cL_canopy 12 = .ok (.astore_n 3, 1) := by decide +kernel
theorem dL_canopy_13 : decode cL_canopy 13 = .ok (.iconst 1, 1) := by decide +kernel
theorem dL_canopy_14 : decode cL_canopy 14 = .ok (.ireturn, 1) := by decide +kernel
theorem dL_canopy_15 : decode cL_canopy 15 = .ok (.astore_n 3, 1) := by decide +kernel
theorem dL_canopy_16 : decode cL_canopy 16 = .ok (.iconst 2, 1) := by decide +kernel
theorem dL_canopy_17 : decode cL_canopy 17 = .ok (.ireturn, 1) := by decide +kernel
theorem dL_canopy_18 : decode cL_canopy 18 = .ok (.iconst 0, 1) := by decide +kernel
theorem dL_canopy_19 : decode cL_canopy 19 = .ok (.ireturn, 1) := by decide +kernel
theorem dL_part_0 : decode cL_part 0 = .ok (.aload_n 3, 1) := by decide +kernel
theorem dL_part_1 : decode cL_part 1 = .ok (.iconst 0, 1) := by decide +kernel
theorem dL_part_2 : decode cL_part 2 = .ok (.aload_n 0, 1) := by decide +kernel
theorem dL_part_3 : decode cL_part 3 = .ok (.iload_n 1, 1) := by decide +kernel
theorem dL_part_4 : decode cL_part 4 = .ok (.iload_n 2, 1) := by decide +kernel
theorem dL_part_5 : decode cL_part 5 = .ok (.invokevirtual 89, 3) := by decide +kernel
theorem dL_part_8 : decode cL_part 8 = .ok (.i2l, 1) := by decide +kernel
theorem dL_part_9 : decode cL_part 9 = .ok (.lastore, 1) := by decide +kernel
theorem dL_part_10 : decode cL_part 10 = .ok (.goto 15, 3) := by decide +kernel
theorem dL_part_13 : decode cL_part 13 = .ok (.astore 4, 2) := by decide +kernel
theorem dL_part_15 : decode cL_part 15 = .ok (.iconst 1, 1) := by decide +kernel
theorem dL_part_16 : decode cL_part 16 = .ok (.ireturn, 1) := by decide +kernel
theorem dL_part_17 : decode cL_part 17 = .ok (.astore 4, 2) := by decide +kernel
theorem dL_part_19 : decode cL_part 19 = .ok (.iconst 2, 1) := by decide +kernel
theorem dL_part_20 : decode cL_part 20 = .ok (.ireturn, 1) := by decide +kernel
theorem dL_part_21 : decode cL_part 21 = .ok (.astore 4, 2) := by decide +kernel
theorem dL_part_23 : decode cL_part 23 = .ok (.iconst 3, 1) := by decide +kernel
theorem dL_part_24 : decode cL_part 24 = .ok (.ireturn, 1) := by decide +kernel
theorem dL_part_25 : decode cL_part 25 = .ok (.iconst 0, 1) := by decide +kernel
theorem dL_part_26 : decode cL_part 26 = .ok (.ireturn, 1) := by decide +kernel
theorem dL_opens_0 : decode cL_opens 0 = .ok (.aload_n 2, 1) := by decide +kernel
theorem dL_opens_1 : decode cL_opens 1 = .ok (.iconst 0, 1) := by decide +kernel
theorem dL_opens_2 : decode cL_opens 2 = .ok (.aload_n 0, 1) := by decide +kernel
theorem dL_opens_3 : decode cL_opens 3 = .ok (.iload_n 1, 1) := by decide +kernel
theorem dL_opens_4 : decode cL_opens 4 = .ok (.invokevirtual 92, 3) := by decide +kernel
theorem dL_opens_7 : decode cL_opens 7 = .ok (.i2l, 1) := by decide +kernel
theorem dL_opens_8 : decode cL_opens 8 = .ok (.lastore, 1) := by decide +kernel
theorem dL_opens_9 : decode cL_opens 9 = .ok (.goto 6, 3) := by decide +kernel
theorem dL_opens_12 : decode cL_opens 12 = .ok (.astore_n 3, 1) := by decide +kernel
theorem dL_opens_13 : decode cL_opens 13 = .ok (.iconst 1, 1) := by decide +kernel
theorem dL_opens_14 : decode cL_opens 14 = .ok (.ireturn, 1) := by decide +kernel
theorem dL_opens_15 : decode cL_opens 15 = .ok (.iconst 0, 1) := by decide +kernel
theorem dL_opens_16 : decode cL_opens 16 = .ok (.ireturn, 1) := by decide +kernel
theorem dL_seal_0 : decode cL_seal 0 = .ok (.aload_n 3, 1) := by decide +kernel
theorem dL_seal_1 : decode cL_seal 1 = .ok (.iconst 0, 1) := by decide +kernel
theorem dL_seal_2 : decode cL_seal 2 = .ok (.aload_n 0, 1) := by decide +kernel
theorem dL_seal_3 : decode cL_seal 3 = .ok (.iload_n 1, 1) := by decide +kernel
theorem dL_seal_4 : decode cL_seal 4 = .ok (.iload_n 2, 1) := by decide +kernel
theorem dL_seal_5 : decode cL_seal 5 = .ok (.invokevirtual 95, 3) := by decide +kernel
theorem dL_seal_8 : decode cL_seal 8 = .ok (.i2l, 1) := by decide +kernel
theorem dL_seal_9 : decode cL_seal 9 = .ok (.lastore, 1) := by decide +kernel
theorem dL_seal_10 : decode cL_seal 10 = .ok (.goto 11, 3) := by decide +kernel
theorem dL_seal_13 : decode cL_seal 13 = .ok (.astore 4, 2) := by decide +kernel
theorem dL_seal_15 : decode cL_seal 15 = .ok (.iconst 1, 1) := by decide +kernel
theorem dL_seal_16 : decode cL_seal 16 = .ok (.ireturn, 1) := by decide +kernel
theorem dL_seal_17 : decode cL_seal 17 = .ok (.astore 4, 2) := by decide +kernel
theorem dL_seal_19 : decode cL_seal 19 = .ok (.iconst 2, 1) := by decide +kernel
theorem dL_seal_20 : decode cL_seal 20 = .ok (.ireturn, 1) := by decide +kernel
theorem dL_seal_21 : decode cL_seal 21 = .ok (.iconst 0, 1) := by decide +kernel
theorem dL_seal_22 : decode cL_seal 22 = .ok (.ireturn, 1) := by decide +kernel
theorem dL_use_0 : decode cL_use 0 = .ok (.aload_n 2, 1) := by decide +kernel
theorem dL_use_1 : decode cL_use 1 = .ok (.iconst 0, 1) := by decide +kernel
theorem dL_use_2 : decode cL_use 2 = .ok (.aload_n 0, 1) := by decide +kernel
theorem dL_use_3 : decode cL_use 3 = .ok (.iload_n 1, 1) := by decide +kernel
theorem dL_use_4 : decode cL_use 4 = .ok (.invokevirtual 98, 3) := by decide +kernel
theorem dL_use_7 : decode cL_use 7 = .ok (.i2l, 1) := by decide +kernel
theorem dL_use_8 : decode cL_use 8 = .ok (.lastore, 1) := by decide +kernel
theorem dL_use_9 : decode cL_use 9 = .ok (.goto 9, 3) := by decide +kernel
theorem dL_use_12 : decode cL_use 12 = .ok (.astore_n 3, 1) := by decide +kernel
theorem dL_use_13 : decode cL_use 13 = .ok (.iconst 1, 1) := by decide +kernel
theorem dL_use_14 : decode cL_use 14 = .ok (.ireturn, 1) := by decide +kernel
theorem dL_use_15 : decode cL_use 15 = .ok (.astore_n 3, 1) := by decide +kernel
theorem dL_use_16 : decode cL_use 16 = .ok (.iconst 2, 1) := by decide +kernel
theorem dL_use_17 : decode cL_use 17 = .ok (.ireturn, 1) := by decide +kernel
theorem dL_use_18 : decode cL_use 18 = .ok (.iconst 0, 1) := by decide +kernel
theorem dL_use_19 : decode cL_use 19 = .ok (.ireturn, 1) := by decide +kernel
theorem dL_wet_0 : decode cL_wet 0 = .ok (.aload_n 3, 1) := by decide +kernel
theorem dL_wet_1 : decode cL_wet 1 = .ok (.iconst 0, 1) := by decide +kernel
theorem dL_wet_2 : decode cL_wet 2 = .ok (.aload_n 0, 1) := by decide +kernel
theorem dL_wet_3 : decode cL_wet 3 = .ok (.iload_n 1, 1) := by decide +kernel
theorem dL_wet_4 : decode cL_wet 4 = .ok (.iload_n 2, 1) := by decide +kernel
theorem dL_wet_5 : decode cL_wet 5 = .ok (.invokevirtual 101, 3) := by decide +kernel
theorem dL_wet_8 : decode cL_wet 8 = .ok (.i2l, 1) := by decide +kernel
theorem dL_wet_9 : decode cL_wet 9 = .ok (.lastore, 1) := by decide +kernel
theorem dL_wet_10 : decode cL_wet 10 = .ok (.goto 11, 3) := by decide +kernel
theorem dL_wet_13 : decode cL_wet 13 = .ok (.astore 4, 2) := by decide +kernel
theorem dL_wet_15 : decode cL_wet 15 = .ok (.iconst 1, 1) := by decide +kernel
theorem dL_wet_16 : decode cL_wet 16 = .ok (.ireturn, 1) := by decide +kernel
theorem dL_wet_17 : decode cL_wet 17 = .ok (.astore 4, 2) := by decide +kernel
theorem dL_wet_19 : decode cL_wet 19 = .ok (.iconst 2, 1) := by decide +kernel
theorem dL_wet_20 : decode cL_wet 20 = .ok (.ireturn, 1) := by decide +kernel
theorem dL_wet_21 : decode cL_wet 21 = .ok (.iconst 0, 1) := by decide +kernel
theorem dL_wet_22 : decode cL_wet 22 = .ok (.ireturn, 1) := by decide +kernel
theorem dL_find_0 : decode cL_find 0 = .ok (.aload_n 3, 1) := by decide +kernel
theorem dL_find_1 : decode cL_find 1 = .ok (.iconst 0, 1) := by decide +kernel
theorem dL_find_2 : decode cL_find 2 = .ok (.aload_n 0, 1) := by decide +kernel
theorem dL_find_3 : decode cL_find 3 = .ok (.iload_n 1, 1) := by decide +kernel
theorem dL_find_4 : decode cL_find 4 = .ok (.iload_n 2, 1) := by decide +kernel
theorem dL_find_5 : decode cL_find 5 = .ok (.invokevirtual 105, 3) := by decide +kernel
theorem dL_find_8 : decode cL_find 8 = .ok (.i2l, 1) := by decide +kernel
theorem dL_find_9 : decode cL_find 9 = .ok (.lastore, 1) := by decide +kernel
theorem dL_find_10 : decode cL_find 10 = .ok (.goto 11, 3) := by decide +kernel
theorem dL_find_13 : decode cL_find 13 = .ok (.astore 4, 2) := by decide +kernel
theorem dL_find_15 : decode cL_find 15 = .ok (.iconst 1, 1) := by decide +kernel
theorem dL_find_16 : decode cL_find 16 = .ok (.ireturn, 1) := by decide +kernel
theorem dL_find_17 : decode cL_find 17 = .ok (.astore 4, 2) := by decide +kernel
theorem dL_find_19 : decode cL_find 19 = .ok (.iconst 2, 1) := by decide +kernel
theorem dL_find_20 : decode cL_find 20 = .ok (.ireturn, 1) := by decide +kernel
theorem dL_find_21 : decode cL_find 21 = .ok (.iconst 0, 1) := by decide +kernel
theorem dL_find_22 : decode cL_find 22 = .ok (.ireturn, 1) := by decide +kernel
theorem dL_ofCanopy_0 : decode cL_ofCanopy 0 = .ok (.aload_n 3, 1) := by decide +kernel
theorem dL_ofCanopy_1 : decode cL_ofCanopy 1 = .ok (.iconst 0, 1) := by decide +kernel
theorem dL_ofCanopy_2 : decode cL_ofCanopy 2 = .ok (.aload_n 0, 1) := by decide +kernel
theorem dL_ofCanopy_3 : decode cL_ofCanopy 3 = .ok (.iload_n 1, 1) := by decide +kernel
theorem dL_ofCanopy_4 : decode cL_ofCanopy 4 = .ok (.iload_n 2, 1) := by decide +kernel
theorem dL_ofCanopy_5 : decode cL_ofCanopy 5 = .ok (.invokevirtual 108, 3) := by decide +kernel
theorem dL_ofCanopy_8 : decode cL_ofCanopy 8 = .ok (.i2l, 1) := by decide +kernel
theorem dL_ofCanopy_9 : decode cL_ofCanopy 9 = .ok (.lastore, 1) := by decide +kernel
theorem dL_ofCanopy_10 : decode cL_ofCanopy 10 = .ok (.goto 11, 3) := by decide +kernel
theorem dL_ofCanopy_13 : decode cL_ofCanopy 13 = .ok (.astore 4, 2) := by decide +kernel
theorem dL_ofCanopy_15 : decode cL_ofCanopy 15 = .ok (.iconst 1, 1) := by decide +kernel
theorem dL_ofCanopy_16 : decode cL_ofCanopy 16 = .ok (.ireturn, 1) := by decide +kernel
theorem dL_ofCanopy_17 : decode cL_ofCanopy 17 = .ok (.astore 4, 2) := by decide +kernel
theorem dL_ofCanopy_19 : decode cL_ofCanopy 19 = .ok (.iconst 2, 1) := by decide +kernel
theorem dL_ofCanopy_20 : decode cL_ofCanopy 20 = .ok (.ireturn, 1) := by decide +kernel
theorem dL_ofCanopy_21 : decode cL_ofCanopy 21 = .ok (.iconst 0, 1) := by decide +kernel
theorem dL_ofCanopy_22 : decode cL_ofCanopy 22 = .ok (.ireturn, 1) := by decide +kernel
theorem dL_lifeAnew_0 : decode cL_lifeAnew 0 = .ok (.aload_n 3, 1) := by decide +kernel
theorem dL_lifeAnew_1 : decode cL_lifeAnew 1 = .ok (.iconst 0, 1) := by decide +kernel
theorem dL_lifeAnew_2 : decode cL_lifeAnew 2 = .ok (.aload_n 0, 1) := by decide +kernel
theorem dL_lifeAnew_3 : decode cL_lifeAnew 3 = .ok (.iload_n 1, 1) := by decide +kernel
theorem dL_lifeAnew_4 : decode cL_lifeAnew 4 = .ok (.iload_n 2, 1) := by decide +kernel
theorem dL_lifeAnew_5 : decode cL_lifeAnew 5 = .ok (.invokevirtual 111, 3) := by decide +kernel
theorem dL_lifeAnew_8 : decode cL_lifeAnew 8 = .ok (.i2l, 1) := by decide +kernel
theorem dL_lifeAnew_9 : decode cL_lifeAnew 9 = .ok (.lastore, 1) := by decide +kernel
theorem dL_lifeAnew_10 : decode cL_lifeAnew 10 = .ok (.goto 11, 3) := by decide +kernel
theorem dL_lifeAnew_13 : decode cL_lifeAnew 13 = .ok (.astore 4, 2) := by decide +kernel
theorem dL_lifeAnew_15 : decode cL_lifeAnew 15 = .ok (.iconst 1, 1) := by decide +kernel
theorem dL_lifeAnew_16 : decode cL_lifeAnew 16 = .ok (.ireturn, 1) := by decide +kernel
theorem dL_lifeAnew_17 : decode cL_lifeAnew 17 = .ok (.astore 4, 2) := by decide +kernel
theorem dL_lifeAnew_19 : decode cL_lifeAnew 19 = .ok (.iconst 2, 1) := by decide +kernel
theorem dL_lifeAnew_20 : decode cL_lifeAnew 20 = .ok (.ireturn, 1) := by decide +kernel
theorem dL_lifeAnew_21 : decode cL_lifeAnew 21 = .ok (.iconst 0, 1) := by decide +kernel
theorem dL_lifeAnew_22 : decode cL_lifeAnew 22 = .ok (.ireturn, 1) := by decide +kernel
